section GX2
variable {K : gx_K} {E : gx_E} {A : Nat → Prop} {n k nL : Nat} {x x' : gx_S} {pc : Nat} {lv : List (Nat × Value)} {st : List Value} {own : String} {cc : ByteArray} {a : Nat}
/-- a field is read -/
theorem gx_get (C : gx_C K E own cc nL) {Cn ref : String} {T : u_T} {N ci index : Nat} (hin : ∀ w ∈ u_ws Cn T N, w ∈ gx_T) (q0 : Nat) {fs : List Value} (he : (gx_wd E x)[q0]? = some (a, .inr (ci, fs))) (hc : gx_cl[ci]? = some (Cn, T, N)) (j : Nat) (hj : j < N) (hlink : (Cond.fieldLink own index ref (T j).2.1 (T j).2.2.1) ∈ gx_T) (href : (T j).1 = ref) {v : Value} (hv : fs[j]? = some v) (d : decode cc pc = .ok (.getfield index, 3))
    (kk : gx_G K E A n k x (pc + 3) lv (v :: st)) : gx_G K E A n k x pc lv (.ref a :: st) :=
  fun H locs ls hP hF hl => va_get C.ex C.bc C.ts hin C.ow C.kk hP q0 he hc j hj (C.ts _ hlink) (fun _ h => href ▸ h) hv d (kk H locs ls hP hF hl)
theorem gx_getN (C : gx_C K E own cc nL) {Cn ref host : String} {T : u_T} {N ci index : Nat} (hin : ∀ w ∈ u_ws Cn T N, w ∈ gx_T) (q0 : Nat) {fs : List Value} (he : (gx_wd E x)[q0]? = some (a, .inr (ci, fs))) (hc : gx_cl[ci]? = some (Cn, T, N)) (j : Nat) (hj : j < N) (hlink : (Cond.fieldLinkNest own index ref (T j).2.1 (T j).2.2.1 host) ∈ gx_NW) (href : (T j).1 = ref) {v : Value} (hv : fs[j]? = some v) (d : decode cc pc = .ok (.getfield index, 3))
    (kk : gx_G K E A n k x (pc + 3) lv (v :: st)) : gx_G K E A n k x pc lv (.ref a :: st) :=
  fun H locs ls hP hF hl => va_getN C.ex C.bc C.ts hin C.ow C.kk hP q0 he hc j hj (va_Nw.use rfl (C.nw _ hlink)) (fun _ h => href ▸ h) hv d (kk H locs ls hP hF hl)
/-- a field is written: the world's new state is x' -/
theorem gx_put (C : gx_C K E own cc nL) {Cn ref : String} {T : u_T} {N ci index : Nat} (hin : ∀ w ∈ u_ws Cn T N, w ∈ gx_T) (ty0 : Nat → FieldType) (hty : ∀ k, k < N → parseFieldDescriptor (T k).2.2.1 = some (ty0 k)) (hnm : ∀ a, a < N → ∀ b, b < N → a ≠ b → (T a).2.1 ≠ (T b).2.1) (q0 : Nat) {fs : List Value} (he : (gx_wd E x)[q0]? = some (a, .inr (ci, fs))) (hc : gx_cl[ci]? = some (Cn, T, N)) (j : Nat) (hj : j < N) (hlink : (Cond.fieldLink own index ref (T j).2.1 (T j).2.2.1) ∈ gx_T) (href : (T j).1 = ref) (hfin : (T j).2.2.2 = false) {ty : FieldType} {v : Value} (hd : parseFieldDescriptor (T j).2.2.1 = some ty) (hn : narrow ty v = v) (hfit : fits ty v = true) (hlen : j < fs.length) (hw : (gx_wd E x).set q0 (a, .inr (ci, fs.set j v)) = gx_wd E x') (d : decode cc pc = .ok (.putfield index, 3))
    (kk : gx_G K E (gx_AB true E K.s.heap.size) n k x' (pc + 3) lv st) : gx_G K E (gx_AB true E K.s.heap.size) n k x pc lv (v :: .ref a :: st) :=
  fun H locs ls hP hF hl => va_put C.ex C.bc C.ts hin ty0 hty hnm C.ow C.kk hP (C.dd x) hF q0 he hc j hj (C.ts _ hlink) (fun _ h => href ▸ h) hfin hd hn hfit hlen d (fun H1 locs1 hP1 _ hS1 => kk H1 locs1 ls (by rw [← hw]; exact hP1) hS1 hl)
theorem gx_putN (C : gx_C K E own cc nL) {Cn ref host : String} {T : u_T} {N ci index : Nat} (hin : ∀ w ∈ u_ws Cn T N, w ∈ gx_T) (ty0 : Nat → FieldType) (hty : ∀ k, k < N → parseFieldDescriptor (T k).2.2.1 = some (ty0 k)) (hnm : ∀ a, a < N → ∀ b, b < N → a ≠ b → (T a).2.1 ≠ (T b).2.1) (q0 : Nat) {fs : List Value} (he : (gx_wd E x)[q0]? = some (a, .inr (ci, fs))) (hc : gx_cl[ci]? = some (Cn, T, N)) (j : Nat) (hj : j < N) (hlink : (Cond.fieldLinkNest own index ref (T j).2.1 (T j).2.2.1 host) ∈ gx_NW) (href : (T j).1 = ref) (hfin : (T j).2.2.2 = false) {ty : FieldType} {v : Value} (hd : parseFieldDescriptor (T j).2.2.1 = some ty) (hn : narrow ty v = v) (hfit : fits ty v = true) (hlen : j < fs.length) (hw : (gx_wd E x).set q0 (a, .inr (ci, fs.set j v)) = gx_wd E x') (d : decode cc pc = .ok (.putfield index, 3))
    (kk : gx_G K E (gx_AB true E K.s.heap.size) n k x' (pc + 3) lv st) : gx_G K E (gx_AB true E K.s.heap.size) n k x pc lv (v :: .ref a :: st) :=
  fun H locs ls hP hF hl => va_putN C.ex C.bc C.ts hin ty0 hty hnm C.ow C.kk hP (C.dd x) hF q0 he hc j hj (va_Nw.use rfl (C.nw _ hlink)) (fun _ h => href ▸ h) hfin hd hn hfit hlen d (fun H1 locs1 hP1 _ hS1 => kk H1 locs1 ls (by rw [← hw]; exact hP1) hS1 hl)
/-- arrays -/
theorem gx_iald (C : gx_C K E own cc nL) (q0 t0 : Nat) {cA : ClassId} {N : Nat} {g : Nat → Int32} (he : (gx_wd E x)[q0]? = some (a, .inl (cA, N, .inl g))) (ht : (gx_tys E)[t0]? = some (cA, .int)) {i : Int32} (hi : vp_in i N) (d : decode cc pc = .ok (.iaload, 1))
    (kk : gx_G K E A n k x (pc + 1) lv (.int (g i.toNatClampNeg) :: st)) : gx_G K E A n k x pc lv (.int i :: .ref a :: st) :=
  fun H locs ls hP hF hl => va_iald C.ex C.bc C.kk hP q0 t0 he ht hi d (kk H locs ls hP hF hl)
theorem gx_zald (C : gx_C K E own cc nL) (q0 t0 : Nat) {cA : ClassId} {N : Nat} {g : Nat → Int32} (he : (gx_wd E x)[q0]? = some (a, .inl (cA, N, .inl g))) (ht : (gx_tys E)[t0]? = some (cA, .boolean)) {i : Int32} (hi : vp_in i N) (d : decode cc pc = .ok (.baload, 1))
    (kk : gx_G K E A n k x (pc + 1) lv (.int (g i.toNatClampNeg) :: st)) : gx_G K E A n k x pc lv (.int i :: .ref a :: st) :=
  fun H locs ls hP hF hl => va_zald C.ex C.bc C.kk hP q0 t0 he ht hi d (kk H locs ls hP hF hl)
theorem gx_lald (C : gx_C K E own cc nL) (q0 t0 : Nat) {cA : ClassId} {N : Nat} {g : Nat → Int64} (he : (gx_wd E x)[q0]? = some (a, .inl (cA, N, .inr (.inl g)))) (ht : (gx_tys E)[t0]? = some (cA, .long)) {i : Int32} (hi : vp_in i N) (d : decode cc pc = .ok (.laload, 1))
    (kk : gx_G K E A n k x (pc + 1) lv (.long (g i.toNatClampNeg) :: st)) : gx_G K E A n k x pc lv (.int i :: .ref a :: st) :=
  fun H locs ls hP hF hl => va_lald C.ex C.bc C.kk hP q0 t0 he ht hi d (kk H locs ls hP hF hl)
theorem gx_iast (C : gx_C K E own cc nL) (q0 t0 : Nat) {cA : ClassId} {N : Nat} {g : Nat → Int32} (he : (gx_wd E x)[q0]? = some (a, .inl (cA, N, .inl g))) (ht : (gx_tys E)[t0]? = some (cA, .int)) {i v : Int32} (hi : vp_in i N) (hw : (gx_wd E x).set q0 (a, .inl (cA, N, .inl (upd g i.toNatClampNeg v))) = gx_wd E x') (d : decode cc pc = .ok (.iastore, 1))
    (kk : gx_G K E (gx_AB true E K.s.heap.size) n k x' (pc + 1) lv st) : gx_G K E (gx_AB true E K.s.heap.size) n k x pc lv (.int v :: .int i :: .ref a :: st) :=
  fun H locs ls hP hF hl => va_iast C.ex C.bc C.kk hP (C.dd x) hF q0 t0 he ht hi d (fun H1 locs1 hP1 _ hS1 => kk H1 locs1 ls (by rw [← hw]; exact hP1) hS1 hl)
theorem gx_zast (C : gx_C K E own cc nL) (q0 t0 : Nat) {cA : ClassId} {N : Nat} {g : Nat → Int32} (he : (gx_wd E x)[q0]? = some (a, .inl (cA, N, .inl g))) (ht : (gx_tys E)[t0]? = some (cA, .boolean)) {i v : Int32} (hi : vp_in i N) (hw : (gx_wd E x).set q0 (a, .inl (cA, N, .inl (upd g i.toNatClampNeg (vp_nar .boolean v)))) = gx_wd E x') (d : decode cc pc = .ok (.bastore, 1))
    (kk : gx_G K E (gx_AB true E K.s.heap.size) n k x' (pc + 1) lv st) : gx_G K E (gx_AB true E K.s.heap.size) n k x pc lv (.int v :: .int i :: .ref a :: st) :=
  fun H locs ls hP hF hl => va_zast C.ex C.bc C.kk hP (C.dd x) hF q0 t0 he ht hi d (fun H1 locs1 hP1 _ hS1 => kk H1 locs1 ls (by rw [← hw]; exact hP1) hS1 hl)
theorem gx_last (C : gx_C K E own cc nL) (q0 t0 : Nat) {cA : ClassId} {N : Nat} {g : Nat → Int64} (he : (gx_wd E x)[q0]? = some (a, .inl (cA, N, .inr (.inl g)))) (ht : (gx_tys E)[t0]? = some (cA, .long)) {i : Int32} {v : Int64} (hi : vp_in i N) (hw : (gx_wd E x).set q0 (a, .inl (cA, N, .inr (.inl (vp_updL g i.toNatClampNeg v)))) = gx_wd E x') (d : decode cc pc = .ok (.lastore, 1))
    (kk : gx_G K E (gx_AB true E K.s.heap.size) n k x' (pc + 1) lv st) : gx_G K E (gx_AB true E K.s.heap.size) n k x pc lv (.long v :: .int i :: .ref a :: st) :=
  fun H locs ls hP hF hl => va_last C.ex C.bc C.kk hP (C.dd x) hF q0 t0 he ht hi d (fun H1 locs1 hP1 _ hS1 => kk H1 locs1 ls (by rw [← hw]; exact hP1) hS1 hl)
theorem gx_alen (C : gx_C K E own cc nL) (q0 t0 : Nat) {cA : ClassId} {y : vp_A} (he : (gx_wd E x)[q0]? = some (a, .inl (cA, y))) {ty : FieldType} (ht : (gx_tys E)[t0]? = some (cA, ty)) {v : Int32} (hv : Int32.ofNat y.1 = v) (d : decode cc pc = .ok (.arraylength, 1))
    (kk : gx_G K E A n k x (pc + 1) lv (.int v :: st)) : gx_G K E A n k x pc lv (.ref a :: st) :=
  fun H locs ls hP hF hl => va_alen C.ex C.bc C.kk hP q0 t0 he ht hv d (kk H locs ls hP hF hl)
end GX2
/-- own contracts: the cells hold the state x; an int comes back, the cells hold x' -/
def gx_Pre (E : gx_E) (av : List Value) (x : gx_S) (sz : Nat) : Array Value → State → Prop := va_Pc av (fun U => U.heap.size = sz ∧ va_P E.1 gx_cl (gx_wd E x) U.heap ∧ gx_U E U)
def gx_Qi (E : gx_E) (A : Nat → Prop) (r : Int32) (x' : gx_S) : Array Value → State → Outcome → State → Prop := va_Qi (fun (r2 : Int32) (u : gx_S) => r2 = r ∧ u = x') (fun u t => va_P E.1 gx_cl (gx_wd E u) t.heap) A
def gx_Qv (E : gx_E) (A : Nat → Prop) (x' : gx_S) : Array Value → State → Outcome → State → Prop := va_Qv (fun (u : gx_S) => u = x') (fun u t => va_P E.1 gx_cl (gx_wd E u) t.heap) A
def gx_Mi (w : Bool) (l : Launch) (y : MethodName) (cc : ByteArray) (maxL : Nat) (ret : Option FieldType) (rm : Room) (av : gx_E → List Value) (x : gx_S) (r : Int32) (x' : gx_S) : Prop :=
  ∀ (E : gx_E) (sz : Nat), Met l y (.code y cc maxL ret :: gx_T) rm (gx_Pre E (av E) x sz) (gx_Qi E (gx_AB w E sz) r x') rm.cells rm.slots (gx_AB w E sz)
def gx_Mv (w : Bool) (l : Launch) (y : MethodName) (cc : ByteArray) (maxL : Nat) (rm : Room) (av : gx_E → List Value) (x : gx_S) (x' : gx_S) : Prop :=
  ∀ (E : gx_E) (sz : Nat), Met l y (.code y cc maxL none :: gx_T) rm (gx_Pre E (av E) x sz) (gx_Qv E (gx_AB w E sz) x') rm.cells rm.slots (gx_AB w E sz)
theorem gx_U.same {E : gx_E} {u U : State} (hv : U.vm = u.vm) (hh : U.heap = u.heap) (h : gx_U E u) : gx_U E U := by
  have ha : u.vm.Alike U.vm := by rw [hv]; exact Vm.Alike.refl _
  exact ⟨va_K.moved ha h.1, fun w hw => gx_NW_same hv hw (h.2.1 w hw), h.2.2.1, gx_X.same hv hh h.2.2.2⟩
theorem gx_blind (E : gx_E) (av : List Value) (x : gx_S) (sz : Nat) : FrameBlind (gx_Pre E av x sz) := by
  intro a U g mk q
  obtain ⟨q0, q1, q2, q3⟩ := q
  exact ⟨q0, q1, q2, gx_U.same (u := U) rfl rfl q3⟩
section GX3
variable {K : gx_K} {E : gx_E} {A : Nat → Prop} {n k nL : Nat} {x x' : gx_S} {pc : Nat} {lv : List (Nat × Value)} {st : List Value} {own : String} {cc : ByteArray}
/-- what a method is given is given at every later point of it -/
theorem gx_C.at (C : gx_C K E own cc nL) {w : Bool} {H : Heap} {locs : List Loc} (hS : va_S (gx_AB w E K.s.heap.size) K.s.heap H locs) {U : State} (hU : U.heap = H) (hW : K.s.WarmedH U.vm) : gx_U E U := by
  refine ⟨va_K.moved hW.alike C.kk, fun v hv => gx_NW_warm hW hv (C.nw v hv), C.uu.2.2.1, gx_X.moved hW (fun a h1 h2 => ?_) C.uu.2.2.2⟩
  rw [hU]
  refine hS.2.1 a h1 ?_
  cases w
  · exact Nat.not_le.mpr h1
  · rintro (h | h)
    · exact h2 h
    · exact absurd h1 (Nat.not_lt.mpr h)
theorem gx_freeS (C : gx_C K E own cc nL) {w v : Bool} (hwv : v = true ∨ w = false) {H : Heap} {locs : List Loc} (hS : va_S (gx_AB v E K.s.heap.size) K.s.heap H locs) : ∀ q, gx_AB w E H.size q → gx_AB v E K.s.heap.size q := by
  have h0 := hS.1
  intro q h
  cases v <;> cases w
  · exact Nat.le_trans h0 h
  · rcases hwv with e | e <;> cases e
  · exact Or.inr (Nat.le_trans h0 h)
  · rcases h with h | h
    · exact Or.inl h
    · exact Or.inr (Nat.le_trans h0 h)
theorem gx_mono {p : Program} {l : Launch} {e : Env} {R : Room} {s : State} {m : MethodId} {args : Array Value} {below : List Frame} {meth : Method} {c : Code} {H : Heap} {locs : List Loc} {cells slots : Nat} {Q Q' : State → Prop} {g : JFrame} (h : ∀ t, Q t → Q' t) (w : W p l e R s m args below meth c H locs cells slots Q g) : W p l e R s m args below meth c H locs cells slots Q' g :=
  fun T hT X => by
    obtain ⟨t, a, b⟩ := w T hT X
    exact ⟨t, a, h t b⟩
theorem gx_iret {w : Bool} (C : gx_C K E own cc nL) {r : Int32} (hr : K.meth.sig.returnType = some .int) (hlk : K.meth.locks = false) (hQ : ∀ t, MQ K.below (gx_Qi E (gx_AB w E K.s.heap.size) r x) K.args K.s n k (gx_AB w E K.s.heap.size) t → K.Q t) (d : decode cc pc = .ok (.ireturn, 1)) : gx_G K E (gx_AB w E K.s.heap.size) n k x pc lv [.int r] :=
  fun H locs ls hP hF hl => gx_mono hQ (W.iret C.ex C.bc hr (fun t ht hW => ⟨⟨r, x, rfl, ⟨rfl, rfl⟩, by subst ht; exact hP⟩, hF.F ht⟩) hF.2.2 d hlk)
theorem gx_zret {w : Bool} (C : gx_C K E own cc nL) {r : Int32} (hr : K.meth.sig.returnType = some .boolean) (hlk : K.meth.locks = false) (hQ : ∀ t, MQ K.below (gx_Qi E (gx_AB w E K.s.heap.size) r x) K.args K.s n k (gx_AB w E K.s.heap.size) t → K.Q t) (hn : vp_nar .boolean r = r) (d : decode cc pc = .ok (.ireturn, 1)) : gx_G K E (gx_AB w E K.s.heap.size) n k x pc lv [.int r] :=
  fun H locs ls hP hF hl => gx_mono hQ (W.zret C.ex C.bc hr (gx_narB hn) (fun t ht hW => ⟨⟨r, x, rfl, ⟨rfl, rfl⟩, by subst ht; exact hP⟩, hF.F ht⟩) hF.2.2 d hlk)
theorem gx_vret {w : Bool} (C : gx_C K E own cc nL) (hr : K.meth.sig.returnType = none) (hlk : K.meth.locks = false) (hQ : ∀ t, MQ K.below (gx_Qv E (gx_AB w E K.s.heap.size) x) K.args K.s n k (gx_AB w E K.s.heap.size) t → K.Q t) (d : decode cc pc = .ok (.return_, 1)) : gx_G K E (gx_AB w E K.s.heap.size) n k x pc lv [] :=
  fun H locs ls hP hF hl => gx_mono hQ (W.vret C.ex C.bc hr (fun t ht hW => ⟨⟨x, rfl, rfl, by subst ht; exact hP⟩, hF.F ht⟩) hF.2.2 d hlk)
/-- a contract out of a walk of the method's body -/
theorem gx_meti {w : Bool} {l : Launch} {y : MethodName} {maxL : Nat} {ret : Option FieldType} {rm : Room} {av : gx_E → List Value} {r : Int32} (hy : plainName y.cls = true) (hown : y.cls = own) (hlen : ∀ E, (lg_sl (av E)).length ≤ maxL)
    (body : ∀ (K : gx_K) (E : gx_E), K.l = l → K.R = rm → K.meth.sig.returnType = ret → K.meth.locks = false → (∀ t, MQ K.below (gx_Qi E (gx_AB w E K.s.heap.size) r x') K.args K.s rm.cells rm.slots (gx_AB w E K.s.heap.size) t → K.Q t) → gx_C K E own cc maxL → gx_G K E (gx_AB w E K.s.heap.size) 0 0 x 0 (lv_args 0 (av E)) []) : gx_Mi w l y cc maxL ret rm av x r x' := by
  intro E sz
  refine Met.ofW (cc := cc) (maxL := maxL) (ret := ret) hy rfl ?_
  intro p e s m args below meth c s₁ B hml hv
  obtain ⟨rfl, hsz, hP, hU⟩ := hv
  subst hsz
  have hts := atoms_spec (ws := .code y cc maxL ret :: gx_T) B.pre
  have key := body (p, l, e, rm, s, m, (av E).toArray, below, meth, c, MQ below (gx_Qi E (gx_AB w E s.heap.size) r x') (av E).toArray s rm.cells rm.slots (gx_AB w E s.heap.size)) E rfl rfl B.returns B.notSynchronized (fun t h => h) ⟨B.exec, B.bytes, hml, hown ▸ findClass_of_methodNamed B.named, fun w h => hts w (List.mem_cons_of_mem _ h), hU⟩
  rw [lg_entry_eq]
  have hl := lv_entry (av E) (n := maxL) (hlen E)
  rw [← hml] at hl ⊢
  exact key s.heap [] _ hP va_S.rf hl
theorem gx_metv {w : Bool} {l : Launch} {y : MethodName} {maxL : Nat} {rm : Room} {av : gx_E → List Value} (hy : plainName y.cls = true) (hown : y.cls = own) (hlen : ∀ E, (lg_sl (av E)).length ≤ maxL)
    (body : ∀ (K : gx_K) (E : gx_E), K.l = l → K.R = rm → K.meth.sig.returnType = none → K.meth.locks = false → (∀ t, MQ K.below (gx_Qv E (gx_AB w E K.s.heap.size) x') K.args K.s rm.cells rm.slots (gx_AB w E K.s.heap.size) t → K.Q t) → gx_C K E own cc maxL → gx_G K E (gx_AB w E K.s.heap.size) 0 0 x 0 (lv_args 0 (av E)) []) : gx_Mv w l y cc maxL rm av x x' := by
  intro E sz
  refine Met.ofW (cc := cc) (maxL := maxL) (ret := none) hy rfl ?_
  intro p e s m args below meth c s₁ B hml hv
  obtain ⟨rfl, hsz, hP, hU⟩ := hv
  subst hsz
  have hts := atoms_spec (ws := .code y cc maxL none :: gx_T) B.pre
  have key := body (p, l, e, rm, s, m, (av E).toArray, below, meth, c, MQ below (gx_Qv E (gx_AB w E s.heap.size) x') (av E).toArray s rm.cells rm.slots (gx_AB w E s.heap.size)) E rfl rfl B.returns B.notSynchronized (fun t h => h) ⟨B.exec, B.bytes, hml, hown ▸ findClass_of_methodNamed B.named, fun w h => hts w (List.mem_cons_of_mem _ h), hU⟩
  rw [lg_entry_eq]
  have hl := lv_entry (av E) (n := maxL) (hlen E)
  rw [← hml] at hl ⊢
  exact key s.heap [] _ hP va_S.rf hl
theorem gx_goodV {index : Nat} {Cn : String} {y : MethodName} {bytes : ByteArray} {maxL : Nat} {ret : Option FieldType} (h1 : Cond.methodLink own index y ∈ gx_T) (h2 : Cond.instanceMethod y ∈ gx_T) (h3 : Cond.selects Cn y y ∈ gx_T) (h4 : Cond.initialized Cn ∈ gx_T) (h5 : Cond.code y bytes maxL ret ∈ gx_T) : GoodIn gx_T (wsV own index Cn y (.code y bytes maxL ret :: gx_T)) := by
  have key : ∀ w ∈ wsV own index Cn y (.code y bytes maxL ret :: gx_T), w ∈ gx_T := by
    intro w hw
    simp only [wsV, List.cons_append, List.nil_append, List.mem_cons] at hw
    rcases hw with rfl | rfl | rfl | rfl | rfl | hw
    · exact h1
    · exact h2
    · exact h3
    · exact h4
    · exact h5
    · exact hw
  exact fun w hw => ⟨key w hw, good_of_word (gx_T_good w (key w hw))⟩
theorem gx_goodC {y : MethodName} {bytes : ByteArray} {maxL : Nat} {ret : Option FieldType} (h5 : Cond.code y bytes maxL ret ∈ gx_T) : GoodIn gx_T (.code y bytes maxL ret :: gx_T) := by
  have key : ∀ w ∈ (Cond.code y bytes maxL ret :: gx_T), w ∈ gx_T := by
    intro w hw
    rcases List.mem_cons.mp hw with rfl | hw
    · exact h5
    · exact hw
  exact fun w hw => ⟨key w hw, good_of_word (gx_T_good w (key w hw))⟩
theorem gx_goodS {index : Nat} {y : MethodName} {bytes : ByteArray} {maxL : Nat} {ret : Option FieldType} (h1 : Cond.methodLink own index y ∈ gx_T) (h2 : Cond.static y ∈ gx_T) (h4 : Cond.initialized y.cls ∈ gx_T) (h5 : Cond.code y bytes maxL ret ∈ gx_T) : GoodIn gx_T (va_wsS own index y (.code y bytes maxL ret :: gx_T)) := by
  have key : ∀ w ∈ va_wsS own index y (.code y bytes maxL ret :: gx_T), w ∈ gx_T := by
    intro w hw
    simp only [va_wsS, List.cons_append, List.nil_append, List.mem_cons] at hw
    rcases hw with rfl | rfl | rfl | rfl | hw
    · exact h1
    · exact h2
    · exact h4
    · exact h5
    · exact hw
  exact fun w hw => ⟨key w hw, good_of_word (gx_T_good w (key w hw))⟩
theorem gx_cVi {w v : Bool} (C : gx_C K E own cc nL) {y : MethodName} {bytes : ByteArray} {maxL index : Nat} {ret : Option FieldType} {rm : Room} {As rest : List Value} {av : gx_E → List Value} {r : Int32} {Cn : String} {b : Nat} {T : u_T} {N ci : Nat} {fs : List Value} (q0 : Nat) (nn : Nat) (hM : gx_Mi w K.l y bytes maxL ret rm av x r x') (hwv : v = true ∨ w = false) (hav : av E = .ref b :: As) (hw : GoodIn gx_T (wsV own index Cn y (.code y bytes maxL ret :: gx_T))) (hd : y.cls = Cn ∧ y.cls ≠ "java/lang/invoke/MethodHandle" ∧ y.cls ≠ "java/lang/invoke/VarHandle" ∧ (parseMethodDescriptor y.desc).map (fun d => d.parameters.length) = some nn) (he : (gx_wd E x)[q0]? = some (b, .inr (ci, fs))) (hc : gx_cl[ci]? = some (Cn, T, N)) (hR : rm.frames + 1 ≤ K.R.frames ∧ 8 + (maxL + 11) + rm.locals ≤ K.R.locals) (hn : As.length = nn) (hst : st = As.reverse ++ .ref b :: rest) (hwt : (rest.map fun v => v.category).sum ≤ 8) (d : decode cc pc = .ok (.invokevirtual index, 3)) (hf : n + rm.cells ≤ K.R.cells ∧ k + rm.slots ≤ K.R.slots) {n2 k2 : Nat} (hn2 : n + rm.cells = n2) (hk2 : k + rm.slots = k2)
    (kk : gx_G K E (gx_AB v E K.s.heap.size) n2 k2 x' (pc + 3) lv (.int r :: rest)) : gx_G K E (gx_AB v E K.s.heap.size) n k x pc lv st := by
  subst hst hn2 hk2
  intro H locs ls hP hF hl
  have hsub := gx_freeS C (w := w) hwv hF
  refine va_calli (A1 := gx_AB w E H.size) (va_runV (As := As) (rest := rest) ⟨C.ex, C.bc, rfl, C.ow, C.ts⟩ (hM E H.size) (cwV nn C.ts hw rfl rfl rfl hd hR) ⟨gx_blind _ _ _ _, va_recv C.kk hP hc he, fun U hU hW => ⟨by rw [hav], by rw [hU], by rw [hU]; exact hP, C.at hF hU hW⟩⟩ rfl hn hl.1 rfl (lv_room hwt) d hf) hF (fun q _ h => hsub q h) hsub (fun r2 u t H1 locs1 ht hvm hw2 hB hz hk hS => ?_)
  obtain ⟨rfl, rfl⟩ := hw2
  exact kk H1 locs1 ls (by rw [← ht]; exact hB) hS hl
theorem gx_cVv {w v : Bool} (C : gx_C K E own cc nL) {y : MethodName} {bytes : ByteArray} {maxL index : Nat} {rm : Room} {As rest : List Value} {av : gx_E → List Value} {Cn : String} {b : Nat} {T : u_T} {N ci : Nat} {fs : List Value} (q0 : Nat) (nn : Nat) (hM : gx_Mv w K.l y bytes maxL rm av x x') (hwv : v = true ∨ w = false) (hav : av E = .ref b :: As) (hw : GoodIn gx_T (wsV own index Cn y (.code y bytes maxL none :: gx_T))) (hd : y.cls = Cn ∧ y.cls ≠ "java/lang/invoke/MethodHandle" ∧ y.cls ≠ "java/lang/invoke/VarHandle" ∧ (parseMethodDescriptor y.desc).map (fun d => d.parameters.length) = some nn) (he : (gx_wd E x)[q0]? = some (b, .inr (ci, fs))) (hc : gx_cl[ci]? = some (Cn, T, N)) (hR : rm.frames + 1 ≤ K.R.frames ∧ 8 + (maxL + 11) + rm.locals ≤ K.R.locals) (hn : As.length = nn) (hst : st = As.reverse ++ .ref b :: rest) (hwt : (rest.map fun v => v.category).sum ≤ 8) (d : decode cc pc = .ok (.invokevirtual index, 3)) (hf : n + rm.cells ≤ K.R.cells ∧ k + rm.slots ≤ K.R.slots) {n2 k2 : Nat} (hn2 : n + rm.cells = n2) (hk2 : k + rm.slots = k2)
    (kk : gx_G K E (gx_AB v E K.s.heap.size) n2 k2 x' (pc + 3) lv (rest)) : gx_G K E (gx_AB v E K.s.heap.size) n k x pc lv st := by
  subst hst hn2 hk2
  intro H locs ls hP hF hl
  have hsub := gx_freeS C (w := w) hwv hF
  refine va_callv (A1 := gx_AB w E H.size) (va_runV (As := As) (rest := rest) ⟨C.ex, C.bc, rfl, C.ow, C.ts⟩ (hM E H.size) (cwV nn C.ts hw rfl rfl rfl hd hR) ⟨gx_blind _ _ _ _, va_recv C.kk hP hc he, fun U hU hW => ⟨by rw [hav], by rw [hU], by rw [hU]; exact hP, C.at hF hU hW⟩⟩ rfl hn hl.1 rfl (lv_room hwt) d hf) hF (fun q _ h => hsub q h) hsub (fun u t H1 locs1 ht hvm hw2 hB hz hk hS => ?_)
  subst hw2
  exact kk H1 locs1 ls (by rw [← ht]; exact hB) hS hl
theorem gx_cVNi {w v : Bool} (C : gx_C K E own cc nL) {y : MethodName} {bytes : ByteArray} {maxL index : Nat} {ret : Option FieldType} {rm : Room} {As rest : List Value} {av : gx_E → List Value} {r : Int32} {Cn host : String} {b : Nat} {T : u_T} {N ci : Nat} {fs : List Value} (q0 : Nat) (nn : Nat) (hM : gx_Mi w K.l y bytes maxL ret rm av x r x') (hwv : v = true ∨ w = false) (hav : av E = .ref b :: As) (hG : Cond.code y bytes maxL ret ∈ gx_T) (hlk : Cond.methodLinkNest own index y host ∈ gx_NW) (hini : Cond.initialized y.cls ∈ gx_T) (hins : Cond.instanceMethod y ∈ gx_T) (hsel : Cond.selects Cn y y ∈ gx_T) (hd : y.cls ≠ "java/lang/invoke/MethodHandle" ∧ y.cls ≠ "java/lang/invoke/VarHandle" ∧ (parseMethodDescriptor y.desc).map (fun d => d.parameters.length) = some nn) (he : (gx_wd E x)[q0]? = some (b, .inr (ci, fs))) (hc : gx_cl[ci]? = some (Cn, T, N)) (hR : rm.frames + 1 ≤ K.R.frames ∧ 8 + (maxL + 11) + rm.locals ≤ K.R.locals) (hn : As.length = nn) (hst : st = As.reverse ++ .ref b :: rest) (hwt : (rest.map fun v => v.category).sum ≤ 8) (d : decode cc pc = .ok (.invokevirtual index, 3)) (hf : n + rm.cells ≤ K.R.cells ∧ k + rm.slots ≤ K.R.slots) {n2 k2 : Nat} (hn2 : n + rm.cells = n2) (hk2 : k + rm.slots = k2)
    (kk : gx_G K E (gx_AB v E K.s.heap.size) n2 k2 x' (pc + 3) lv (.int r :: rest)) : gx_G K E (gx_AB v E K.s.heap.size) n k x pc lv st := by
  subst hst hn2 hk2
  intro H locs ls hP hF hl
  have hsub := gx_freeS C (w := w) hwv hF
  refine va_calli (A1 := gx_AB w E H.size) (va_runVN (As := As) (rest := rest) ⟨C.ex, C.bc, rfl, C.ow, C.ts⟩ (hM E H.size) ⟨va_cnB nn C.ts (gx_goodC hG) rfl rfl rfl (C.nw _ hlk) (C.ts _ hini) hd hR, C.ts _ hins, C.ts _ hsel⟩ ⟨gx_blind _ _ _ _, va_recv C.kk hP hc he, fun U hU hW => ⟨by rw [hav], by rw [hU], by rw [hU]; exact hP, C.at hF hU hW⟩⟩ rfl hn hl.1 rfl (lv_room hwt) d hf) hF (fun q _ h => hsub q h) hsub (fun r2 u t H1 locs1 ht hvm hw2 hB hz hk hS => ?_)
  obtain ⟨rfl, rfl⟩ := hw2
  exact kk H1 locs1 ls (by rw [← ht]; exact hB) hS hl
theorem gx_cVNv {w v : Bool} (C : gx_C K E own cc nL) {y : MethodName} {bytes : ByteArray} {maxL index : Nat} {rm : Room} {As rest : List Value} {av : gx_E → List Value} {Cn host : String} {b : Nat} {T : u_T} {N ci : Nat} {fs : List Value} (q0 : Nat) (nn : Nat) (hM : gx_Mv w K.l y bytes maxL rm av x x') (hwv : v = true ∨ w = false) (hav : av E = .ref b :: As) (hG : Cond.code y bytes maxL none ∈ gx_T) (hlk : Cond.methodLinkNest own index y host ∈ gx_NW) (hini : Cond.initialized y.cls ∈ gx_T) (hins : Cond.instanceMethod y ∈ gx_T) (hsel : Cond.selects Cn y y ∈ gx_T) (hd : y.cls ≠ "java/lang/invoke/MethodHandle" ∧ y.cls ≠ "java/lang/invoke/VarHandle" ∧ (parseMethodDescriptor y.desc).map (fun d => d.parameters.length) = some nn) (he : (gx_wd E x)[q0]? = some (b, .inr (ci, fs))) (hc : gx_cl[ci]? = some (Cn, T, N)) (hR : rm.frames + 1 ≤ K.R.frames ∧ 8 + (maxL + 11) + rm.locals ≤ K.R.locals) (hn : As.length = nn) (hst : st = As.reverse ++ .ref b :: rest) (hwt : (rest.map fun v => v.category).sum ≤ 8) (d : decode cc pc = .ok (.invokevirtual index, 3)) (hf : n + rm.cells ≤ K.R.cells ∧ k + rm.slots ≤ K.R.slots) {n2 k2 : Nat} (hn2 : n + rm.cells = n2) (hk2 : k + rm.slots = k2)
    (kk : gx_G K E (gx_AB v E K.s.heap.size) n2 k2 x' (pc + 3) lv (rest)) : gx_G K E (gx_AB v E K.s.heap.size) n k x pc lv st := by
  subst hst hn2 hk2
  intro H locs ls hP hF hl
  have hsub := gx_freeS C (w := w) hwv hF
  refine va_callv (A1 := gx_AB w E H.size) (va_runVN (As := As) (rest := rest) ⟨C.ex, C.bc, rfl, C.ow, C.ts⟩ (hM E H.size) ⟨va_cnB nn C.ts (gx_goodC hG) rfl rfl rfl (C.nw _ hlk) (C.ts _ hini) hd hR, C.ts _ hins, C.ts _ hsel⟩ ⟨gx_blind _ _ _ _, va_recv C.kk hP hc he, fun U hU hW => ⟨by rw [hav], by rw [hU], by rw [hU]; exact hP, C.at hF hU hW⟩⟩ rfl hn hl.1 rfl (lv_room hwt) d hf) hF (fun q _ h => hsub q h) hsub (fun u t H1 locs1 ht hvm hw2 hB hz hk hS => ?_)
  subst hw2
  exact kk H1 locs1 ls (by rw [← ht]; exact hB) hS hl
theorem gx_cSi {w v : Bool} (C : gx_C K E own cc nL) {y : MethodName} {bytes : ByteArray} {maxL index : Nat} {ret : Option FieldType} {rm : Room} {As rest : List Value} {av : gx_E → List Value} {r : Int32}  (nn : Nat) (hM : gx_Mi w K.l y bytes maxL ret rm av x r x') (hwv : v = true ∨ w = false) (hav : av E = As) (hw : GoodIn gx_T (va_wsS own index y (.code y bytes maxL ret :: gx_T))) (hd : y.cls ≠ "java/lang/invoke/MethodHandle" ∧ y.cls ≠ "java/lang/invoke/VarHandle" ∧ (parseMethodDescriptor y.desc).map (fun d => d.parameters.length) = some nn) (hR : rm.frames + 1 ≤ K.R.frames ∧ 8 + (maxL + 11) + rm.locals ≤ K.R.locals) (hn : As.length = nn) (hst : st = As.reverse ++ rest) (hwt : (rest.map fun v => v.category).sum ≤ 8) (d : decode cc pc = .ok (.invokestatic index, 3)) (hf : n + rm.cells ≤ K.R.cells ∧ k + rm.slots ≤ K.R.slots) {n2 k2 : Nat} (hn2 : n + rm.cells = n2) (hk2 : k + rm.slots = k2)
    (kk : gx_G K E (gx_AB v E K.s.heap.size) n2 k2 x' (pc + 3) lv (.int r :: rest)) : gx_G K E (gx_AB v E K.s.heap.size) n k x pc lv st := by
  subst hst hn2 hk2
  intro H locs ls hP hF hl
  have hsub := gx_freeS C (w := w) hwv hF
  refine va_calli (A1 := gx_AB w E H.size) (va_runS (As := As) (rest := rest) ⟨C.ex, C.bc, rfl, C.ow, C.ts⟩ (hM E H.size) (va_cwS nn C.ts hw rfl rfl rfl hd hR) ⟨gx_blind _ _ _ _, fun U hU hW => ⟨by rw [hav], by rw [hU], by rw [hU]; exact hP, C.at hF hU hW⟩⟩ rfl hn hl.1 rfl (lv_room hwt) d hf) hF (fun q _ h => hsub q h) hsub (fun r2 u t H1 locs1 ht hvm hw2 hB hz hk hS => ?_)
  obtain ⟨rfl, rfl⟩ := hw2
  exact kk H1 locs1 ls (by rw [← ht]; exact hB) hS hl
theorem gx_cSv {w v : Bool} (C : gx_C K E own cc nL) {y : MethodName} {bytes : ByteArray} {maxL index : Nat} {rm : Room} {As rest : List Value} {av : gx_E → List Value}  (nn : Nat) (hM : gx_Mv w K.l y bytes maxL rm av x x') (hwv : v = true ∨ w = false) (hav : av E = As) (hw : GoodIn gx_T (va_wsS own index y (.code y bytes maxL none :: gx_T))) (hd : y.cls ≠ "java/lang/invoke/MethodHandle" ∧ y.cls ≠ "java/lang/invoke/VarHandle" ∧ (parseMethodDescriptor y.desc).map (fun d => d.parameters.length) = some nn) (hR : rm.frames + 1 ≤ K.R.frames ∧ 8 + (maxL + 11) + rm.locals ≤ K.R.locals) (hn : As.length = nn) (hst : st = As.reverse ++ rest) (hwt : (rest.map fun v => v.category).sum ≤ 8) (d : decode cc pc = .ok (.invokestatic index, 3)) (hf : n + rm.cells ≤ K.R.cells ∧ k + rm.slots ≤ K.R.slots) {n2 k2 : Nat} (hn2 : n + rm.cells = n2) (hk2 : k + rm.slots = k2)
    (kk : gx_G K E (gx_AB v E K.s.heap.size) n2 k2 x' (pc + 3) lv (rest)) : gx_G K E (gx_AB v E K.s.heap.size) n k x pc lv st := by
  subst hst hn2 hk2
  intro H locs ls hP hF hl
  have hsub := gx_freeS C (w := w) hwv hF
  refine va_callv (A1 := gx_AB w E H.size) (va_runS (As := As) (rest := rest) ⟨C.ex, C.bc, rfl, C.ow, C.ts⟩ (hM E H.size) (va_cwS nn C.ts hw rfl rfl rfl hd hR) ⟨gx_blind _ _ _ _, fun U hU hW => ⟨by rw [hav], by rw [hU], by rw [hU]; exact hP, C.at hF hU hW⟩⟩ rfl hn hl.1 rfl (lv_room hwt) d hf) hF (fun q _ h => hsub q h) hsub (fun u t H1 locs1 ht hvm hw2 hB hz hk hS => ?_)
  subst hw2
  exact kk H1 locs1 ls (by rw [← ht]; exact hB) hS hl
theorem gx_cSNi {w v : Bool} (C : gx_C K E own cc nL) {y : MethodName} {bytes : ByteArray} {maxL index : Nat} {ret : Option FieldType} {rm : Room} {As rest : List Value} {av : gx_E → List Value} {r : Int32} {host : String} (nn : Nat) (hM : gx_Mi w K.l y bytes maxL ret rm av x r x') (hwv : v = true ∨ w = false) (hav : av E = As) (hG : Cond.code y bytes maxL ret ∈ gx_T) (hlk : Cond.methodLinkNest own index y host ∈ gx_NW) (hini : Cond.initialized y.cls ∈ gx_T) (hsta : Cond.static y ∈ gx_T) (hd : y.cls ≠ "java/lang/invoke/MethodHandle" ∧ y.cls ≠ "java/lang/invoke/VarHandle" ∧ (parseMethodDescriptor y.desc).map (fun d => d.parameters.length) = some nn) (hR : rm.frames + 1 ≤ K.R.frames ∧ 8 + (maxL + 11) + rm.locals ≤ K.R.locals) (hn : As.length = nn) (hst : st = As.reverse ++ rest) (hwt : (rest.map fun v => v.category).sum ≤ 8) (d : decode cc pc = .ok (.invokestatic index, 3)) (hf : n + rm.cells ≤ K.R.cells ∧ k + rm.slots ≤ K.R.slots) {n2 k2 : Nat} (hn2 : n + rm.cells = n2) (hk2 : k + rm.slots = k2)
    (kk : gx_G K E (gx_AB v E K.s.heap.size) n2 k2 x' (pc + 3) lv (.int r :: rest)) : gx_G K E (gx_AB v E K.s.heap.size) n k x pc lv st := by
  subst hst hn2 hk2
  intro H locs ls hP hF hl
  have hsub := gx_freeS C (w := w) hwv hF
  refine va_calli (A1 := gx_AB w E H.size) (va_runSN (As := As) (rest := rest) ⟨C.ex, C.bc, rfl, C.ow, C.ts⟩ (hM E H.size) ⟨va_cnB nn C.ts (gx_goodC hG) rfl rfl rfl (C.nw _ hlk) (C.ts _ hini) hd hR, C.ts _ hsta, trivial⟩ ⟨gx_blind _ _ _ _, fun U hU hW => ⟨by rw [hav], by rw [hU], by rw [hU]; exact hP, C.at hF hU hW⟩⟩ rfl hn hl.1 rfl (lv_room hwt) d hf) hF (fun q _ h => hsub q h) hsub (fun r2 u t H1 locs1 ht hvm hw2 hB hz hk hS => ?_)
  obtain ⟨rfl, rfl⟩ := hw2
  exact kk H1 locs1 ls (by rw [← ht]; exact hB) hS hl
theorem gx_cSNv {w v : Bool} (C : gx_C K E own cc nL) {y : MethodName} {bytes : ByteArray} {maxL index : Nat} {rm : Room} {As rest : List Value} {av : gx_E → List Value} {host : String} (nn : Nat) (hM : gx_Mv w K.l y bytes maxL rm av x x') (hwv : v = true ∨ w = false) (hav : av E = As) (hG : Cond.code y bytes maxL none ∈ gx_T) (hlk : Cond.methodLinkNest own index y host ∈ gx_NW) (hini : Cond.initialized y.cls ∈ gx_T) (hsta : Cond.static y ∈ gx_T) (hd : y.cls ≠ "java/lang/invoke/MethodHandle" ∧ y.cls ≠ "java/lang/invoke/VarHandle" ∧ (parseMethodDescriptor y.desc).map (fun d => d.parameters.length) = some nn) (hR : rm.frames + 1 ≤ K.R.frames ∧ 8 + (maxL + 11) + rm.locals ≤ K.R.locals) (hn : As.length = nn) (hst : st = As.reverse ++ rest) (hwt : (rest.map fun v => v.category).sum ≤ 8) (d : decode cc pc = .ok (.invokestatic index, 3)) (hf : n + rm.cells ≤ K.R.cells ∧ k + rm.slots ≤ K.R.slots) {n2 k2 : Nat} (hn2 : n + rm.cells = n2) (hk2 : k + rm.slots = k2)
    (kk : gx_G K E (gx_AB v E K.s.heap.size) n2 k2 x' (pc + 3) lv (rest)) : gx_G K E (gx_AB v E K.s.heap.size) n k x pc lv st := by
  subst hst hn2 hk2
  intro H locs ls hP hF hl
  have hsub := gx_freeS C (w := w) hwv hF
  refine va_callv (A1 := gx_AB w E H.size) (va_runSN (As := As) (rest := rest) ⟨C.ex, C.bc, rfl, C.ow, C.ts⟩ (hM E H.size) ⟨va_cnB nn C.ts (gx_goodC hG) rfl rfl rfl (C.nw _ hlk) (C.ts _ hini) hd hR, C.ts _ hsta, trivial⟩ ⟨gx_blind _ _ _ _, fun U hU hW => ⟨by rw [hav], by rw [hU], by rw [hU]; exact hP, C.at hF hU hW⟩⟩ rfl hn hl.1 rfl (lv_room hwt) d hf) hF (fun q _ h => hsub q h) hsub (fun u t H1 locs1 ht hvm hw2 hB hz hk hS => ?_)
  subst hw2
  exact kk H1 locs1 ls (by rw [← ht]; exact hB) hS hl
end GX3
section GXM
variable {K : gx_K} {E : gx_E} {A : Nat → Prop} {n k nL : Nat} {x : gx_S} {pc : Nat} {lv : List (Nat × Value)} {st : List Value} {own : String} {cc : ByteArray}
theorem gx_mmax (C : gx_C K E own cc nL) {index : Nat} {a b : Int32} (h1 : Cond.methodLink own index Lib.Math.max.name ∈ gx_T) (h2 : Cond.static Lib.Math.max.name ∈ gx_T) (h3 : Cond.initialized "java/lang/Math" ∈ gx_T) (h4 : Cond.code Lib.Math.max.name Lib.Math.max.code 2 (some .int) ∈ gx_T) (hr : 1 ≤ K.R.frames) (hs : (st.map fun v => v.category).sum + 13 ≤ K.R.locals) (hc : n ≤ K.R.cells) (hk : k ≤ K.R.slots) (d : decode cc pc = .ok (.invokestatic index, 3))
    (kk : gx_G K E A n k x (pc + 3) lv (.int (if a < b then b else a) :: st)) : gx_G K E A n k x pc lv (.int b :: .int a :: st) :=
  fun H locs ls hP hF hl => va_mmax C.ex C.bc hl.1.symm C.ow (C.ts _ h1) (C.ts _ h2) (C.ts _ h3) (C.ts _ h4) hr hs hc hk d (kk H locs ls hP hF hl)
theorem gx_mmin (C : gx_C K E own cc nL) {index : Nat} {a b : Int32} (h1 : Cond.methodLink own index Lib.Math.min.name ∈ gx_T) (h2 : Cond.static Lib.Math.min.name ∈ gx_T) (h3 : Cond.initialized "java/lang/Math" ∈ gx_T) (h4 : Cond.code Lib.Math.min.name Lib.Math.min.code 2 (some .int) ∈ gx_T) (hr : 1 ≤ K.R.frames) (hs : (st.map fun v => v.category).sum + 13 ≤ K.R.locals) (hc : n ≤ K.R.cells) (hk : k ≤ K.R.slots) (d : decode cc pc = .ok (.invokestatic index, 3))
    (kk : gx_G K E A n k x (pc + 3) lv (.int (if b < a then b else a) :: st)) : gx_G K E A n k x pc lv (.int b :: .int a :: st) :=
  fun H locs ls hP hF hl => va_mmin C.ex C.bc hl.1.symm C.ow (C.ts _ h1) (C.ts _ h2) (C.ts _ h3) (C.ts _ h4) hr hs hc hk d (kk H locs ls hP hF hl)
theorem gx_mabs (C : gx_C K E own cc nL) {index : Nat} {a : Int32} (h1 : Cond.methodLink own index Lib.Math.abs.name ∈ gx_T) (h2 : Cond.static Lib.Math.abs.name ∈ gx_T) (h3 : Cond.initialized "java/lang/Math" ∈ gx_T) (h4 : Cond.code Lib.Math.abs.name Lib.Math.abs.code 1 (some .int) ∈ gx_T) (hr : 1 ≤ K.R.frames) (hs : (st.map fun v => v.category).sum + 13 ≤ K.R.locals) (hc : n ≤ K.R.cells) (hk : k ≤ K.R.slots) (d : decode cc pc = .ok (.invokestatic index, 3))
    (kk : gx_G K E A n k x (pc + 3) lv (.int (if 0 ≤ a then a else 0 - a) :: st)) : gx_G K E A n k x pc lv (.int a :: st) :=
  fun H locs ls hP hF hl => va_mabs C.ex C.bc hl.1.symm C.ow (C.ts _ h1) (C.ts _ h2) (C.ts _ h3) (C.ts _ h4) hr hs hc hk d (kk H locs ls hP hF hl)
theorem gx_copy (C : gx_C K E own cc nL) {x' : gx_S} {index : Nat} (h1 : Cond.methodLink own index arraycopyName ∈ gx_T) (h2 : Cond.native arraycopyName ∈ gx_T) (h3 : Cond.static arraycopyName ∈ gx_T) (h4 : Cond.initialized "java/lang/System" ∈ gx_T) (q0 q1 : Nat) {a0 a1 n0 n1 : Nat} {c0 c1 : ClassId} {g0 g1 : Nat → Int32} (he0 : (gx_wd E x)[q0]? = some (a0, .inl (c0, n0, .inl g0))) (he1 : (gx_wd E x)[q1]? = some (a1, .inl (c1, n1, .inl g1))) (ht0 : (gx_tys E)[0]? = some (c0, .int)) (ht1 : (gx_tys E)[0]? = some (c1, .int)) {sp dp m : Int32} (hs : ¬ sp < 0) (hd : ¬ dp < 0) (hm : ¬ m < 0) (hb0 : sp.toNatClampNeg + m.toNatClampNeg ≤ n0) (hb1 : dp.toNatClampNeg + m.toNatClampNeg ≤ n1)
    (hw : (gx_wd E x).set q1 (a1, .inl (c1, n1, .inl (va_cpy g0 g1 sp.toNatClampNeg dp.toNatClampNeg m.toNatClampNeg))) = gx_wd E x') (hr : 1 ≤ K.R.frames) (hl : (st.map fun v => v.category).sum + (nativeFrameWords "java/lang/System" "arraycopy" 5 + 11) ≤ K.R.locals) (d : decode cc pc = .ok (.invokestatic index, 3))
    (kk : gx_G K E (gx_AB true E K.s.heap.size) n k x' (pc + 3) lv st) : gx_G K E (gx_AB true E K.s.heap.size) n k x pc lv (.int m :: .int dp :: .ref a1 :: .int sp :: .ref a0 :: st) :=
  fun H locs ls hP hF hlv => va_copyi (ty := .int) C.ex C.bc hlv.1.symm C.ow (C.ts _ h1) (C.ts _ h2) (C.ts _ h3) (C.ts _ h4) C.kk hP (C.dd x) hF q0 q1 0 0 he0 he1 ht0 ht1 rfl hs hd hm hb0 hb1 (fun _ _ => rfl) hr hl d (fun H1 locs1 hP1 _ hS1 => kk H1 locs1 ls (by rw [← hw]; exact hP1) hS1 hlv)
theorem gx_sld (C : gx_C K E own cc nL) {b L : Nat} {xs : Nat → Int32} (hX : va_X b L xs K.s K.s.heap) (hbl : b < K.s.heap.size) (hbA : ¬ A b) {i : Int32} (hi : vp_in i L) (d : decode cc pc = .ok (.iaload, 1))
    (kk : gx_G K E A n k x (pc + 1) lv (.int (xs i.toNatClampNeg) :: st)) : gx_G K E A n k x pc lv (.int i :: .ref b :: st) :=
  fun H locs ls hP hF hl => va_sld C.ex C.bc hX hbl hbA hF hi d (kk H locs ls hP hF hl)
theorem gx_slen (C : gx_C K E own cc nL) {b L : Nat} {xs : Nat → Int32} (hX : va_X b L xs K.s K.s.heap) (hbl : b < K.s.heap.size) (hbA : ¬ A b) (d : decode cc pc = .ok (.arraylength, 1))
    (kk : gx_G K E A n k x (pc + 1) lv (.int (Int32.ofNat L) :: st)) : gx_G K E A n k x pc lv (.ref b :: st) :=
  fun H locs ls hP hF hl => va_slen C.ex C.bc hX hbl hbA hF d (kk H locs ls hP hF hl)
end GXM
theorem gx_loopN {α β : Type} {f : α → Option (α ⊕ β)} {P : Nat → Nat → α → Prop} {Q : Nat → Nat → β → Prop} {c d rc rs : Nat} (hs : ∀ n k a o, n + c ≤ rc → k + d ≤ rs → f a = some o → gx_or (P (n + c) (k + d)) (Q (n + c) (k + d)) o → P n k a) : ∀ (m n k : Nat) (a : α) (b : β), n + m * c ≤ rc → k + m * d ≤ rs → gx_it f m a = some b → (∀ n' k', n' ≤ rc → k' ≤ rs → Q n' k' b) → P n k a := by
  intro m
  induction m with
  | zero => intro n k a b _ _ h; cases h
  | succ m ih =>
    intro n k a b h1 h2 h hQ
    have e1 : n + c + m * c ≤ rc := by rw [Nat.succ_mul] at h1; omega
    have e2 : k + d + m * d ≤ rs := by rw [Nat.succ_mul] at h2; omega
    have f1 : n + c ≤ rc := Nat.le_trans (Nat.le_add_right _ _) e1
    have f2 : k + d ≤ rs := Nat.le_trans (Nat.le_add_right _ _) e2
    unfold gx_it at h
    cases hf : f a with
    | none => rw [hf] at h; cases h
    | some o =>
      rw [hf] at h
      cases o with
      | inl a' => exact hs n k a _ f1 f2 hf (ih (n + c) (k + d) a' b e1 e2 h hQ)
      | inr b' => cases h; exact hs n k a _ f1 f2 hf (hQ _ _ f1 f2)
