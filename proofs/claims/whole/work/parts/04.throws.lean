/-! own rules for methods that throw: 1, 2, 3 say which class -/
def gx_exn (j : Nat) : String := match j with
  | 1 => "java/lang/IndexOutOfBoundsException"
  | 2 => "java/lang/IllegalStateException"
  | _ => "java/lang/IllegalArgumentException"
/-- the world's cells are old -/
def gx_LT (E : gx_E) (sz : Nat) : Prop := ∀ (x : gx_S) (k : Nat) (q : Nat × va_E), (gx_wd E x)[k]? = some q → q.1 < sz
theorem gx_LT_of {E : gx_E} {x : gx_S} {H : Heap} (hP : va_P E.1 gx_cl (gx_wd E x) H) : gx_LT E H.size := by
  intro y i q hq
  have h5 : ((gx_wd E x).map Prod.fst)[i]? = some q.1 := by rw [gx_wd_ad E x y, List.getElem?_map, hq]; rfl
  rw [List.getElem?_map] at h5
  cases h6 : (gx_wd E x)[i]? with
  | none => rw [h6] at h5; cases h5
  | some q1 =>
    rw [h6] at h5
    have := (hP i q1 h6).lt
    rw [← Option.some.inj h5]; exact this
def gx_ex (j : Nat) (q : Addr) (U : State) (H : Heap) : Prop := ∃ ce : Cell, H[q]? = some ce ∧ ce.vm = .none ∧ U.vm.findClass (gx_exn j) = some ce.cls
def gx_QX (E : gx_E) (A : Nat → Prop) (rv : Option Value) (j : Nat) (x' : gx_S) : Array Value → State → Outcome → State → Prop := fun _ st o t => ((j = 0 ∧ o = .returned rv) ∨ (j ≠ 0 ∧ ∃ q, o = .threw q ∧ gx_ex j q st t.heap)) ∧ va_P E.1 gx_cl (gx_wd E x') t.heap ∧ va_F A st t
def gx_MQX (below : List Frame) (Qc : Array Value → State → Outcome → State → Prop) (a : Array Value) (s : State) (mc ms : Nat) (free : Addr → Prop) : State → Prop := fun t =>
  ∃ o, t.status = .running ∧ Ended t below o ∧ Qc a s o t ∧ s.WarmedH t.vm ∧ ∃ L, s.sameButNew ({ t with vm := s.vm } : State) L mc ms ∧ ∀ q ∈ L, free q.base
def gx_EndX (Qc : Array Value → State → Outcome → State → Prop) (mc ms : Nat) (free : Addr → Prop) : Array Value → State → Outcome → State → Prop := fun a st o t =>
  Qc a st o t ∧ st.WarmedH t.vm ∧ ∃ L, st.sameButNew ({ t with vm := st.vm } : State) L mc ms ∧ ∀ q ∈ L, free q.base
def gx_MX (w : Bool) (l : Launch) (y : MethodName) (cc : ByteArray) (maxL : Nat) (ret : Option FieldType) (rm : Room) (av : gx_E → List Value) (x : gx_S) (rv : Option Value) (j : Nat) (x' : gx_S) : Prop :=
  ∀ (E : gx_E) (sz : Nat), MetFree l y (headSpec (.code y cc maxL ret :: gx_T) rm) (gx_Pre E (av E) x sz) (fun _ _ _ _ _ => True) (gx_EndX (gx_QX E (gx_AB w E sz) rv j x') rm.cells rm.slots (gx_AB w E sz))
section GX4
variable {K : gx_K} {E : gx_E} {A : Nat → Prop} {n k nL : Nat} {x x' : gx_S} {pc : Nat} {lv : List (Nat × Value)} {st : List Value} {own : String} {cc : ByteArray}
theorem gx_metX {w : Bool} {l : Launch} {y : MethodName} {maxL : Nat} {ret : Option FieldType} {rm : Room} {av : gx_E → List Value} {rv : Option Value} {j : Nat} (hy : plainName y.cls = true) (hown : y.cls = own) (hlen : ∀ E, (lg_sl (av E)).length ≤ maxL)
    (body : ∀ (K : gx_K) (E : gx_E), K.l = l → K.R = rm → K.meth.sig.returnType = ret → K.meth.locks = false → K.c.exceptionTable.isEmpty = true → gx_LT E K.s.heap.size → (∀ t, gx_MQX K.below (gx_QX E (gx_AB w E K.s.heap.size) rv j x') K.args K.s rm.cells rm.slots (gx_AB w E K.s.heap.size) t → K.Q t) → gx_C K E own cc maxL → gx_G K E (gx_AB false E K.s.heap.size) 0 0 x 0 (lv_args 0 (av E)) []) : gx_MX w l y cc maxL ret rm av x rv j x' := by
  intro E sz
  refine MetFree.of_bodyS (code := cc) (maxLocals := maxL) (ret := ret) hy ?_ ?_
  · intro args s m h hn
    obtain ⟨meth, c, h1, h2, h3, h4, h5, h6, -, -⟩ := Cond.code_spec hn (atoms_spec (ws := .code y cc maxL ret :: gx_T) h _ List.mem_cons_self)
    exact ⟨meth, c, h1, h2, h3, h4, h5, h6⟩
  · intro p e s m args below meth c s₁ B hml hv _
    obtain ⟨rfl, hsz, hP, hU⟩ := hv
    subst hsz
    have hh0 : s₁.heap = s.heap := by rw [B.state]; rfl
    have hts := atoms_spec (ws := .code y cc maxL ret :: gx_T) B.pre
    have hnh := B.noHandlers (hts _ List.mem_cons_self)
    have key := body (p, l, e, rm, s, m, (av E).toArray, below, meth, c, gx_MQX below (gx_QX E (gx_AB w E s.heap.size) rv j x') (av E).toArray s rm.cells rm.slots (gx_AB w E s.heap.size)) E rfl rfl B.returns B.notSynchronized hnh (gx_LT_of hP) (fun t h => h) ⟨B.exec, B.bytes, hml, hown ▸ findClass_of_methodNamed B.named, fun w h => hts w (List.mem_cons_of_mem _ h), hU⟩
    have hl := lv_entry (av E) (n := maxL) (hlen E)
    have k3 : W p l e rm s m (av E).toArray below meth c s.heap [] 0 0 (gx_MQX below (gx_QX E (gx_AB w E s.heap.size) rv j x') (av E).toArray s rm.cells rm.slots (gx_AB w E s.heap.size)) (entryFrame m (av E).toArray maxL) := by
      rw [lg_entry_eq]
      rw [← hml] at hl ⊢
      exact key s.heap [] _ hP va_S.rf hl
    obtain ⟨t, a1, o, b1, b2, b3, b4, b5⟩ := k3 s₁ hh0 (Stand.of_body B)
    exact ⟨t, o, a1, b1, b2, b3, b4, b5⟩
/-- ends with a value -/
theorem gx_iretX {w : Bool} (C : gx_C K E own cc nL) {r : Int32} (hr : K.meth.sig.returnType = some .int) (hlk : K.meth.locks = false) (hQ : ∀ t, gx_MQX K.below (gx_QX E (gx_AB w E K.s.heap.size) (some (.int r)) 0 x) K.args K.s n k (gx_AB w E K.s.heap.size) t → K.Q t) (d : decode cc pc = .ok (.ireturn, 1)) : gx_G K E (gx_AB w E K.s.heap.size) n k x pc lv [.int r] := by
  refine gx_iret C hr hlk (fun t h => hQ t ?_) d
  obtain ⟨o, h1, h2, ⟨⟨r2, u, rfl, ⟨rfl, rfl⟩, hB⟩, hF⟩, L, ⟨hv, hW, hs⟩, hL⟩ := h
  exact ⟨_, h1, h2, ⟨Or.inl ⟨rfl, rfl⟩, hB, hF⟩, hW, L, hs, hL⟩
theorem gx_zretX {w : Bool} (C : gx_C K E own cc nL) {r : Int32} (hr : K.meth.sig.returnType = some .boolean) (hlk : K.meth.locks = false) (hQ : ∀ t, gx_MQX K.below (gx_QX E (gx_AB w E K.s.heap.size) (some (.int r)) 0 x) K.args K.s n k (gx_AB w E K.s.heap.size) t → K.Q t) (hn : vp_nar .boolean r = r) (d : decode cc pc = .ok (.ireturn, 1)) : gx_G K E (gx_AB w E K.s.heap.size) n k x pc lv [.int r] := by
  refine gx_zret C hr hlk (fun t h => hQ t ?_) hn d
  obtain ⟨o, h1, h2, ⟨⟨r2, u, rfl, ⟨rfl, rfl⟩, hB⟩, hF⟩, L, ⟨hv, hW, hs⟩, hL⟩ := h
  exact ⟨_, h1, h2, ⟨Or.inl ⟨rfl, rfl⟩, hB, hF⟩, hW, L, hs, hL⟩
theorem gx_vretX {w : Bool} (C : gx_C K E own cc nL) (hr : K.meth.sig.returnType = none) (hlk : K.meth.locks = false) (hQ : ∀ t, gx_MQX K.below (gx_QX E (gx_AB w E K.s.heap.size) none 0 x) K.args K.s n k (gx_AB w E K.s.heap.size) t → K.Q t) (d : decode cc pc = .ok (.return_, 1)) : gx_G K E (gx_AB w E K.s.heap.size) n k x pc lv [] := by
  refine gx_vret C hr hlk (fun t h => hQ t ?_) d
  obtain ⟨o, h1, h2, ⟨⟨u, rfl, rfl, hB⟩, hF⟩, L, ⟨hv, hW, hs⟩, hL⟩ := h
  exact ⟨_, h1, h2, ⟨Or.inl ⟨rfl, rfl⟩, hB, hF⟩, hW, L, hs, hL⟩
/-- the exception is under way over this frame -/
def gx_H (K : gx_K) (E : gx_E) (A : Nat → Prop) (n k : Nat) (x : gx_S) (pc : Nat) (lv : List (Nat × Value)) (j : Nat) : Prop :=
  ∀ (H : Heap) (locs : List Loc) (ls : Array Slot) (st : List Value) (q : Addr), va_P E.1 gx_cl (gx_wd E x) H → va_S A K.s.heap H locs → lv_has ls K.c.maxLocals lv → gx_ex j q K.s H →
    ∀ T : State, T.heap = H → Stand K.p K.l K.e K.R K.s K.m K.args K.below K.meth K.c T locs n k → ∃ t, Steps K.p.tables K.e K.below ((T.setTop (F0 K.m pc ls st)).pushFrame (.throwing q)) t ∧ K.Q t
/-- it leaves the method: no handler there -/
theorem gx_outX {w : Bool} {rv : Option Value} {j : Nat} (hj : j ≠ 0) (hnh : K.c.exceptionTable.isEmpty = true) (hlk : K.meth.locks = false) (hQ : ∀ t, gx_MQX K.below (gx_QX E (gx_AB w E K.s.heap.size) rv j x) K.args K.s n k (gx_AB w E K.s.heap.size) t → K.Q t) : gx_H K E (gx_AB w E K.s.heap.size) n k x pc lv j := by
  intro H locs ls st q hP hS hl hex T hT X
  have hout : ∀ y ∈ K.c.exceptionTable.toList, covers y pc = false := by
    intro y hy
    have h0 : K.c.exceptionTable.toList = [] := by
      have := Array.isEmpty_iff.mp hnh
      rw [this]
    rw [h0] at hy; cases hy
  obtain ⟨h1, h2, h3, h4, h5⟩ := X.leaveThrown q (g := F0 K.m pc ls st) rfl rfl rfl hout hlk
  refine ⟨_, h1, hQ _ ⟨.threw q, h2, h3, ⟨Or.inr ⟨hj, q, rfl, ?_⟩, ?_, ?_⟩, h4, locs, h5, hS.2.2⟩⟩
  · show gx_ex j q K.s T.heap
    rw [hT]; exact hex
  · show va_P E.1 gx_cl (gx_wd E x) T.heap
    rw [hT]; exact hP
  · exact ⟨by show K.s.heap.size ≤ T.heap.size; rw [hT]; exact hS.1, fun q h1 h2 => by show T.heap[q]? = _; rw [hT]; exact hS.2.1 q h1 h2⟩
theorem gx_H.toF {j : Nat} (kk : gx_H K E (gx_AB true E K.s.heap.size) n k x pc lv j) : gx_H K E (gx_AB false E K.s.heap.size) n k x pc lv j :=
  fun H locs ls st q hP hF hl => kk H locs ls st q hP ⟨hF.1, fun q h h2 => hF.2.1 q h (fun z => h2 (Or.inr z)), fun q h => Or.inr (hF.2.2 q h)⟩ hl
theorem gx_H.widen {n' k' j : Nat} (h1 : n ≤ n') (h2 : k ≤ k') (kk : gx_H K E A n' k' x pc lv j) : gx_H K E A n k x pc lv j :=
  fun H locs ls st q hP hF hl hex T hT X => kk H locs ls st q hP hF hl hex T hT (stand_widen X h1 h2)
end GX4
/-- where it is known to return, a contract that allows throws is an ordinary one -/
theorem gx_MX.toI {w : Bool} {l : Launch} {y : MethodName} {cc : ByteArray} {maxL : Nat} {ret : Option FieldType} {rm : Room} {av : gx_E → List Value} {x x' : gx_S} {r : Int32} (h : gx_MX w l y cc maxL ret rm av x (some (.int r)) 0 x') : gx_Mi w l y cc maxL ret rm av x r x' := by
  intro E sz p e ha hc hk s m args below hf happ hP hK
  obtain ⟨n, o, h1, h2, h3, ⟨h4, hB, hF⟩, hW, L, hs, hL⟩ := h E sz p e ha hc hk s m args below hf happ hP hK
  rcases h4 with ⟨-, rfl⟩ | ⟨h4, -⟩
  · exact ⟨n, _, h1, h2, h3, ⟨⟨r, x', rfl, ⟨rfl, rfl⟩, hB⟩, hF⟩, L, ⟨⟨_, rfl⟩, hW, hs⟩, hL⟩
  · exact absurd rfl h4
theorem gx_MX.toV {w : Bool} {l : Launch} {y : MethodName} {cc : ByteArray} {maxL : Nat} {rm : Room} {av : gx_E → List Value} {x x' : gx_S} (h : gx_MX w l y cc maxL none rm av x none 0 x') : gx_Mv w l y cc maxL rm av x x' := by
  intro E sz p e ha hc hk s m args below hf happ hP hK
  obtain ⟨n, o, h1, h2, h3, ⟨h4, hB, hF⟩, hW, L, hs, hL⟩ := h E sz p e ha hc hk s m args below hf happ hP hK
  rcases h4 with ⟨-, rfl⟩ | ⟨h4, -⟩
  · exact ⟨n, _, h1, h2, h3, ⟨⟨x', rfl, rfl, hB⟩, hF⟩, L, ⟨⟨_, rfl⟩, hW, hs⟩, hL⟩
  · exact absurd rfl h4
section GX5
variable {p : Program} {l : Launch} {e : Env} {R : Room} {s : State} {m : MethodId} {sargs : Array Value} {below : List Frame} {meth : Method} {c : Code}
/-- a callee that throws, from the point of its invocation: its exception is under way over the caller's frame -/
theorem gx_backX {y : MethodName} {ws : List Cond} {rm : Room} {Pc : Array Value → State → Prop} {Qx : Array Value → State → Outcome → State → Prop} {free : Addr → Prop} {bytes : ByteArray} {maxL : Nat} {ret : Option FieldType}
    (hM : MetFree l y (headSpec ws rm) Pc (fun _ _ _ _ _ => True) (gx_EndX Qx rm.cells rm.slots free)) (hthrows : ∀ a st v t, ¬ Qx a st (.returned v) t) (hblind : FrameBlind Pc) (hframes : rm.frames + 1 ≤ R.frames) (hlocals : 8 + (maxL + 11) + rm.locals ≤ R.locals)
    (hws : ∀ w ∈ ws, ∀ (a' : Array Value) (U : State), s.WarmedH U.vm → w.before a' U = true) (hcode : Cond.code y bytes maxL ret ∈ ws) (hinit : ∀ (a' : Array Value) (U : State), s.WarmedH U.vm → (Cond.initialized y.cls).before a' U = true)
    {U : State} {Ls : List Loc} {c0 s0 : Nat} (X : Stand p l e R s m sargs below meth c U Ls c0 s0) {g : JFrame} (hg : g.method = m) (hsize : g.locals.size = c.maxLocals) {ig : Instr} {len : Nat} (hdg : decode c.code g.pc = .ok (ig, len))
    (hW : 2 * g.monitorRoom + (g.stack.map fun v => v.category).sum ≤ 8) {mk : MethodId} (hn : U.methodNamed? y = some mk) (h4 : c0 + rm.cells ≤ R.cells) (h5 : s0 + rm.slots ≤ R.slots) {a : Array Value} (hp : Pc a U) :
    ∃ (q : Addr) (t U' : State) (L : List Loc), Stand p l e R s m sargs below meth c U' (Ls ++ L) (c0 + rm.cells) (s0 + rm.slots) ∧ U'.heap = t.heap ∧ Qx a (U.calling g mk a) (.threw q) t ∧ (∀ q ∈ L, free q.base) ∧
      Steps p.tables e below (doInvoke e (U.setTop g) [] mk a).1 ((U'.setTop g).pushFrame (.throwing q)) := by
  obtain ⟨methY, cY, hmY, hcY, -, hlY, -, -, -, -⟩ := Cond.code_spec hn (hws _ hcode a U X.warmed)
  obtain ⟨kY, hkY, -⟩ := className_of_methodNamed hn
  have hat : At U g.method c below := by rw [hg]; exact X.here
  have happ : (headSpec ws rm).appliesLoose y e.platform (U.calling g mk a) = true :=
    Spec.appliesLoose_calling (g := g) hat hdg hn hkY (Cond.initialized_spec (findClass_of_methodNamed hn) hkY (hinit a U X.warmed))
      (X.room_calling (g := g) (R' := (headSpec ws rm).room) hsize hmY hcY hframes (by rw [hlY]; show _ + rm.locals ≤ _; omega) h4 h5) (atoms_intro fun w hw => hws w hw _ _ X.warmed)
  obtain ⟨mid, hmid⟩ := hat.above
  obtain ⟨o, s₂, hsteps, -, hend, hQx, hW₂, L, hsame, hL⟩ := Steps.callFree hM p X.admits X.cas X.clock (acts := []) (mid := .java g :: mid) (by rw [State.frames_setTop' g hat.top, hmid]; rfl) happ (hblind _ _ _ _ hp) trivial
  cases o with
  | returned v => exact absurd hQx (hthrows _ _ _ _)
  | threw q =>
    rw [State.frames_setTop' g hat.top, X.tail] at hend
    obtain ⟨T', X', -, -, e2⟩ := X.outOfThrown hg hend hW₂ hsame
    have hh : T'.heap = s₂.heap := by rw [e2]; simp [State.pushFrame, State.setFrames, State.setTop, State.modifyTopJava]
    exact ⟨q, s₂, T', L, X', hh, hQx, hL, by rw [← e2]; exact hsteps⟩
end GX5
section GX6
variable {K : gx_K} {E : gx_E} {A : Nat → Prop} {n k nL : Nat} {x x' : gx_S} {pc : Nat} {lv : List (Nat × Value)} {st : List Value} {own : String} {cc : ByteArray}
/-- a call of a method of an object that throws (class j) -/
theorem gx_cVx {w v : Bool} (C : gx_C K E own cc nL) {y : MethodName} {bytes : ByteArray} {maxL index : Nat} {ret : Option FieldType} {rm : Room} {As rest : List Value} {av : gx_E → List Value} {rv : Option Value} {j : Nat} (hj : j ≠ 0) {Cn : String} {b : Nat} {T : u_T} {N ci : Nat} {fs : List Value} (q0 : Nat) (nn : Nat) (hM : gx_MX w K.l y bytes maxL ret rm av x rv j x') (hwv : v = true ∨ w = false) (hav : av E = .ref b :: As) (hw : GoodIn gx_T (wsV own index Cn y (.code y bytes maxL ret :: gx_T))) (hd : y.cls = Cn ∧ y.cls ≠ "java/lang/invoke/MethodHandle" ∧ y.cls ≠ "java/lang/invoke/VarHandle" ∧ (parseMethodDescriptor y.desc).map (fun d => d.parameters.length) = some nn) (he : (gx_wd E x)[q0]? = some (b, .inr (ci, fs))) (hc : gx_cl[ci]? = some (Cn, T, N)) (hR : rm.frames + 1 ≤ K.R.frames ∧ 8 + (maxL + 11) + rm.locals ≤ K.R.locals) (hn : As.length = nn) (hst : st = As.reverse ++ .ref b :: rest) (hwt : (rest.map fun v => v.category).sum ≤ 8) (d : decode cc pc = .ok (.invokevirtual index, 3)) (hf : n + rm.cells ≤ K.R.cells ∧ k + rm.slots ≤ K.R.slots) {n2 k2 : Nat} (hn2 : n + rm.cells = n2) (hk2 : k + rm.slots = k2)
    (kk : gx_H K E (gx_AB v E K.s.heap.size) n2 k2 x' pc lv j) : gx_G K E (gx_AB v E K.s.heap.size) n k x pc lv st := by
  subst hst hn2 hk2
  intro H locs ls hP hF hl Ts hT X
  have hsub := gx_freeS C (w := w) hwv hF
  have cw := cwV (R := K.R) (mc := rm.cells) (ms := rm.slots) (rm := rm) nn C.ts hw rfl rfl rfl hd hR
  obtain ⟨⟨-, -, -, -, hws, hcw, hcode, hini, hy, hlen, hl0⟩, hin, hse⟩ := cw
  obtain ⟨cellB, hcB, hoB, hclB⟩ := va_recv C.kk hP hc he
  obtain ⟨mk, methM, hnamed, hmethM, hstM, habM⟩ := Cond.instanceMethod_spec hin
  obtain ⟨methM', cM, hmethM', -, -, -, -, -, -, hsigM⟩ := Cond.code_spec hnamed hcode
  cases hmethM.symm.trans hmethM'
  obtain ⟨c2, r2, m2, q1, q2, q3, q4, kP, hkP, hkPi⟩ := Cond.selects_spec hse
  cases hclB.symm.trans q1
  cases (State.methodFound?_of_named hnamed hy).symm.trans q2
  cases hnamed.symm.trans q3
  obtain ⟨vm₁, X₁, hstep₁⟩ := X.invokevirtual C.ex C.ow hl0 hnamed hmethM hstM hkP hkPi hy (a := b) (cell := cellB) (by rw [hT]; exact hcB)
    (fun z h => by rw [h] at hoB; cases hoB) (by rw [Launch.admits_selectMethod X.admits]; exact q4) hmethM habM hkP hkPi (g := F0 K.m pc ls (As.reverse ++ .ref b :: rest)) rfl (argsL := As) (rest := rest) (hn.trans (hlen _ hsigM)) rfl (by rw [C.bc]; exact d)
  obtain ⟨q, t, U', L, X', hh, hQ, hL, hsteps⟩ := gx_backX (hM E H.size) (fun a st v t hq => by rcases hq.1 with ⟨h, -⟩ | ⟨-, q, h, -⟩; exact hj h; cases h) (gx_blind _ _ _ _) hR.1 hR.2 hws hcw (fun a' U hW => word_at hW (Or.inl (by first | rfl | simp [Cond.onTables, Cond.keeps, Cond.steady])) hini) X₁ (g := F0 K.m pc ls rest) rfl hl.1 (by rw [C.bc]; exact d) (lv_room hwt) (X₁.named hnamed) hf.1 hf.2 (a := (Value.ref b :: As).toArray) ⟨by rw [hav], by show Ts.heap.size = _; rw [hT], by show va_P _ _ _ Ts.heap; rw [hT]; exact hP, C.at (U := Ts.setVm vm₁) hF hT X₁.warmed⟩
  obtain ⟨h4, hPq, hFq⟩ := hQ
  rcases h4 with ⟨h4, -⟩ | ⟨-, q', h4, hex⟩
  · exact absurd h4 hj
  cases h4
  have hS1 : va_S (gx_AB v E K.s.heap.size) K.s.heap t.heap (locs ++ L) := by
    refine ⟨Nat.le_trans hF.1 (by have := hFq.1; rw [show ((Ts.setVm vm₁).calling (F0 K.m pc ls rest) mk (Value.ref b :: As).toArray).heap = H from hT] at this; exact this), fun q h1 h2 => ?_, fun z hz => ?_⟩
    · have hq2 := hFq.2 q (by rw [show ((Ts.setVm vm₁).calling (F0 K.m pc ls rest) mk (Value.ref b :: As).toArray).heap = H from hT]; exact Nat.lt_of_lt_of_le h1 hF.1) (fun z => h2 (hsub q z))
      rw [show ((Ts.setVm vm₁).calling (F0 K.m pc ls rest) mk (Value.ref b :: As).toArray).heap = H from hT] at hq2
      rw [hq2]; exact hF.2.1 q h1 h2
    · rcases List.mem_append.mp hz with hz | hz
      · exact hF.2.2 z hz
      · exact hsub _ (hL z hz)
  have hex' : gx_ex j q K.s t.heap := by
    obtain ⟨ce, e1, e2, e3⟩ := hex
    exact ⟨ce, e1, e2, by rw [← X₁.warmed.alike.findClass]; exact e3⟩
  obtain ⟨tt, hs2, hQ2⟩ := kk t.heap (locs ++ L) ls rest q hPq hS1 hl hex' U' hh X'
  exact ⟨tt, hstep₁ _ (fun acts => by rw [doInvoke_state]; exact hsteps.trans hs2), hQ2⟩
theorem gx_cSx {w v : Bool} (C : gx_C K E own cc nL) {y : MethodName} {bytes : ByteArray} {maxL index : Nat} {ret : Option FieldType} {rm : Room} {As rest : List Value} {av : gx_E → List Value} {rv : Option Value} {j : Nat} (hj : j ≠ 0) (nn : Nat) (hM : gx_MX w K.l y bytes maxL ret rm av x rv j x') (hwv : v = true ∨ w = false) (hav : av E = As) (hw : GoodIn gx_T (va_wsS own index y (.code y bytes maxL ret :: gx_T))) (hd : y.cls ≠ "java/lang/invoke/MethodHandle" ∧ y.cls ≠ "java/lang/invoke/VarHandle" ∧ (parseMethodDescriptor y.desc).map (fun d => d.parameters.length) = some nn) (hR : rm.frames + 1 ≤ K.R.frames ∧ 8 + (maxL + 11) + rm.locals ≤ K.R.locals) (hn : As.length = nn) (hst : st = As.reverse ++ rest) (hwt : (rest.map fun v => v.category).sum ≤ 8) (d : decode cc pc = .ok (.invokestatic index, 3)) (hf : n + rm.cells ≤ K.R.cells ∧ k + rm.slots ≤ K.R.slots) {n2 k2 : Nat} (hn2 : n + rm.cells = n2) (hk2 : k + rm.slots = k2)
    (kk : gx_H K E (gx_AB v E K.s.heap.size) n2 k2 x' pc lv j) : gx_G K E (gx_AB v E K.s.heap.size) n k x pc lv st := by
  subst hst hn2 hk2
  intro H locs ls hP hF hl Ts hT X
  have hsub := gx_freeS C (w := w) hwv hF
  have cw := va_cwS (R := K.R) (mc := rm.cells) (ms := rm.slots) (rm := rm) nn C.ts hw rfl rfl rfl hd hR
  obtain ⟨⟨-, -, -, -, hws, hcw, hcode, hini, hy, hlen, hl0⟩, hsta⟩ := cw
  obtain ⟨mk, hnamed⟩ := Cond.code_named hcode
  obtain ⟨methM, cM, hmethM, -, -, -, -, -, -, hsigM⟩ := Cond.code_spec hnamed hcode
  obtain ⟨kP, hkP, -⟩ := className_of_methodNamed hnamed
  obtain ⟨vm₁, X₁, hstep₁⟩ := X.invokestatic C.ex C.ow hl0 hnamed hmethM (Cond.static_spec hnamed hmethM hsta) hkP (Cond.initialized_spec (findClass_of_methodNamed hnamed) hkP hini) hy (g := F0 K.m pc ls (As.reverse ++ rest)) rfl (argsL := As) (rest := rest) (hn.trans (hlen _ hsigM)) rfl (by rw [C.bc]; exact d)
  obtain ⟨q, t, U', L, X', hh, hQ, hL, hsteps⟩ := gx_backX (hM E H.size) (fun a st v t hq => by rcases hq.1 with ⟨h, -⟩ | ⟨-, q, h, -⟩; exact hj h; cases h) (gx_blind _ _ _ _) hR.1 hR.2 hws hcw (fun a' U hW => word_at hW (Or.inl (by first | rfl | simp [Cond.onTables, Cond.keeps, Cond.steady])) hini) X₁ (g := F0 K.m pc ls rest) rfl hl.1 (by rw [C.bc]; exact d) (lv_room hwt) (X₁.named hnamed) hf.1 hf.2 (a := As.toArray) ⟨by rw [hav], by show Ts.heap.size = _; rw [hT], by show va_P _ _ _ Ts.heap; rw [hT]; exact hP, C.at (U := Ts.setVm vm₁) hF hT X₁.warmed⟩
  obtain ⟨h4, hPq, hFq⟩ := hQ
  rcases h4 with ⟨h4, -⟩ | ⟨-, q', h4, hex⟩
  · exact absurd h4 hj
  cases h4
  have hS1 : va_S (gx_AB v E K.s.heap.size) K.s.heap t.heap (locs ++ L) := by
    refine ⟨Nat.le_trans hF.1 (by have := hFq.1; rw [show ((Ts.setVm vm₁).calling (F0 K.m pc ls rest) mk As.toArray).heap = H from hT] at this; exact this), fun q h1 h2 => ?_, fun z hz => ?_⟩
    · have hq2 := hFq.2 q (by rw [show ((Ts.setVm vm₁).calling (F0 K.m pc ls rest) mk As.toArray).heap = H from hT]; exact Nat.lt_of_lt_of_le h1 hF.1) (fun z => h2 (hsub q z))
      rw [show ((Ts.setVm vm₁).calling (F0 K.m pc ls rest) mk As.toArray).heap = H from hT] at hq2
      rw [hq2]; exact hF.2.1 q h1 h2
    · rcases List.mem_append.mp hz with hz | hz
      · exact hF.2.2 z hz
      · exact hsub _ (hL z hz)
  have hex' : gx_ex j q K.s t.heap := by
    obtain ⟨ce, e1, e2, e3⟩ := hex
    exact ⟨ce, e1, e2, by rw [← X₁.warmed.alike.findClass]; exact e3⟩
  obtain ⟨tt, hs2, hQ2⟩ := kk t.heap (locs ++ L) ls rest q hPq hS1 hl hex' U' hh X'
  exact ⟨tt, hstep₁ _ (fun acts => by rw [doInvoke_state]; exact hsteps.trans hs2), hQ2⟩
end GX6
/-- the words of a throw that aren't the tables' good ones -/
def gx_sp : List Cond := [.laysStatic "java/lang/Throwable" "UNASSIGNED_STACK" "[Ljava/lang/StackTraceElement;", .laysStatic "java/lang/Throwable" "SUPPRESSED_SENTINEL" "Ljava/util/List;", .isRef (.static "java/lang/Throwable" "UNASSIGNED_STACK" "[Ljava/lang/StackTraceElement;"), .isRef (.static "java/lang/Throwable" "SUPPRESSED_SENTINEL" "Ljava/util/List;")]
theorem gx_atoms {K : gx_K} {E : gx_E} {own : String} {cc : ByteArray} {nL : Nat} (C : gx_C K E own cc nL) {L : List Cond} (h : L.all (fun a => decide (a ∈ gx_T) || (decide (a ∈ gx_NW) || decide (a ∈ gx_sp))) = true) : ∀ a ∈ L, a.before K.args K.s = true := by
  intro a ha
  have h1 := List.all_eq_true.mp h a ha
  simp only [Bool.or_eq_true, decide_eq_true_eq] at h1
  rcases h1 with h1 | h1 | h1
  · exact C.ts a h1
  · have h2 := C.nw a h1
    rcases List.mem_append.mp h1 with hw | hw
    · rcases List.mem_append.mp hw with hw | hw
      · obtain ⟨q, -, rfl⟩ := List.mem_map.mp hw
        exact va_Nw.use rfl h2
      · obtain ⟨q, -, rfl⟩ := List.mem_map.mp hw
        exact va_Nw.use rfl h2
    · rcases List.mem_append.mp hw with hw | hw
      · obtain ⟨q, -, rfl⟩ := List.mem_map.mp hw
        exact va_Nw.use rfl h2
      · obtain ⟨q, -, rfl⟩ := List.mem_map.mp hw
        exact va_Nw.use rfl h2
  · have hX := C.uu.2.2.2
    simp only [gx_sp, List.mem_cons, List.not_mem_nil, or_false] at h1
    rcases h1 with rfl | rfl | rfl | rfl
    · exact hX.1.lays
    · exact hX.2.1.lays
    · exact hX.1.isref
    · exact hX.2.1.isref
section GX7
variable {K : gx_K} {E : gx_E} {A : Nat → Prop} {n k nL : Nat} {x x' : gx_S} {pc : Nat} {lv : List (Nat × Value)} {st : List Value} {own : String} {cc : ByteArray}
/-- new, dup, ldc, <init>, athrow: the method ends with a throw; nothing old was written -/
theorem gx_throw {w : Bool} (C : gx_C K E own cc nL) {j ix is ic : Nat} {tx : String} {names : List String} {rv : Option Value} (hj : j ≠ 0) (hLT : gx_LT E K.s.heap.size) (hlt : K.l.stackTraces = false) (hnh : K.c.exceptionTable.isEmpty = true) (hlk : K.meth.locks = false)
    (hcl : Cond.classLink own ix (gx_exn j) ∈ gx_T) (hins : Cond.instantiable (gx_exn j) 6 ∈ gx_T) (hini : Cond.initialized (gx_exn j) ∈ gx_T) (hstr : (own, is, tx) ∈ gx_str) (hat : ∀ a ∈ Bundle.ownAtoms own ic (gx_exn j) names, a.before K.args K.s = true) (hfit : Bundle.fit (gx_exn j) = true) (hnames : ∀ z ∈ names, Bundle.fit z = true)
    (d0 : decode cc pc = .ok (.new ix, 3)) (d3 : decode cc (pc + 3) = .ok (.dup, 1)) (d4 : decode cc (pc + 4) = .ok (.ldc is, 2)) (d6 : decode cc (pc + 6) = .ok (.invokespecial ic, 3)) (d9 : decode cc (pc + 9) = .ok (.athrow, 1))
    (hRf : names.length + 3 < K.R.frames) (hRl : ((st.map fun v => v.category).sum + 1) + (13 * (names.length + 1) + 42) ≤ K.R.locals) (hc : n + 1 ≤ K.R.cells) (hs : k + 6 ≤ K.R.slots)
    (hQ : ∀ t, gx_MQX K.below (gx_QX E (gx_AB w E K.s.heap.size) rv j x) K.args K.s (n + 1) (k + 6) (gx_AB w E K.s.heap.size) t → K.Q t) : gx_G K E (gx_AB false E K.s.heap.size) n k x pc lv st := by
  intro H locs ls hP hF hl
  refine va_forget (fun q hq => hF.2.2 q hq) ?_
  refine W.newc C.ex C.bc C.ow (C.ts _ hcl) (C.ts _ hins) (C.ts _ hini) (g := F0 K.m pc ls st) rfl d0 hc hs (fun cC kC h1 h2 h3 h4 => ?_)
  refine W.eq (g2 := F0 K.m (pc + 3) ls (.ref H.size :: st)) rfl ?_
  refine lv_dup C.ex C.bc d3 rfl ?_
  obtain ⟨qs, hRs⟩ := C.uu.2.2.2.2.2.1 (own, is, tx) hstr
  refine va_ldcS C.ex C.bc C.ow hRs d4 ?_
  intro T hT X
  have htr : K.e.platform.stackTraces = false := by rw [X.admits.platform]; exact hlt
  have hout : ∀ y ∈ K.c.exceptionTable.toList, covers y (pc + 6 + 3) = false := by
    intro y hy
    have h0 : K.c.exceptionTable.toList = [] := by
      have := Array.isEmpty_iff.mp hnh
      rw [this]
    rw [h0] at hy; cases hy
  have e9 : ((Value.ref H.size :: st).map fun v => v.category).sum = 1 + (st.map fun v => v.category).sum := by rw [List.map_cons, List.sum_cons]; rfl
  obtain ⟨U, hst, hrun, hend, hW, hsame, ce, hce, hoc⟩ := X.ctorThrowS C.ex htr C.ow hfit hnames hat (fun y hy => by cases hy) h1 h2 (a := H.size) (by rw [hT]; simp [freshCell]) hF.1 (msg := .ref qs) rfl (g := F0 K.m (pc + 4 + 2) ls (.ref qs :: .ref H.size :: .ref H.size :: st)) rfl hl.1 rfl rfl (rest := st) rfl (by rw [C.bc]; exact d6) (by rw [C.bc]; exact d9) hout hRf (by show 2 * 0 + ((Value.ref H.size :: st).map fun v => v.category).sum + _ ≤ _; rw [e9]; omega) hlk
  have hold : ∀ q : Nat, q < K.s.heap.size → U.heap[q]? = K.s.heap[q]? := by
    intro q hq
    have e0 : K.s.heap[q]? = some K.s.heap[q] := Array.getElem?_eq_getElem hq
    have e1 := State.sameButNew.old_cell hsame e0
    rw [e0]; exact e1
  refine ⟨U, hst, hQ U ⟨.threw H.size, hrun, hend, ⟨Or.inr ⟨hj, H.size, rfl, ce, hce, hoc.vm, hoc.cls⟩, ?_, ?_⟩, hW, [], hsame, fun q hq => by cases hq⟩⟩
  · refine hP.kept (fun i q hq => ?_)
    have hlt : q.1 < K.s.heap.size := hLT x i q hq
    rw [hold q.1 hlt, hF.2.1 q.1 hlt (Nat.not_le.mpr hlt)]
  · exact ⟨hsame.2.1, fun q h1 _ => hold q h1⟩
end GX7
/-! own rules: an exception is caught by name -/
/-- one row that holds the place: its class is looked up (the tables note it), then the object is asked -/
theorem gx_row {e : Env} {f : JFrame} {a : Addr} {S : State} {ce : Cell} {y : ExceptionTableEntry} {L : List ExceptionTableEntry} {c : ClassId} (hy : covers y f.pc = true) (h0 : y.catchType ≠ 0) (hl : S.vm.ClassLinks e.platform f.method.cls y.catchType c) (hce : S.heap[a]? = some ce) (hv : ce.vm = .none) {k : Class} (hk : S.vm.classes[ce.cls]? = some k) (Q : Handler → Pre) (P : CtlPost) (d : Bool) (acts : List Action) :
    wp (findHandler.go f a (y :: L)) Q P e d acts S ↔ (if S.vm.assignable ce.cls c = true then Q (.found y.handlerPc) d acts (S.setVm (S.vm.noted f.method.cls y.catchType (.cls c))) else wp (findHandler.go f a L) Q P e d acts (S.setVm (S.vm.noted f.method.cls y.catchType (.cls c)))) := by
  have hy2 : (decide (y.startPc ≤ f.pc) && decide (f.pc < y.endPc)) = true := hy
  have hal : S.vm.Alike (S.vm.noted f.method.cls y.catchType (.cls c)) := (Vm.Alike.refl _).noted _ _ _
  obtain ⟨_, _, _, kc, _, _, _, _, _, hkc, _, _⟩ := hl.here
  obtain ⟨k1, hk1, -⟩ := hal.2.2 _ _ hk
  obtain ⟨k2, hk2, -⟩ := hal.2.2 _ _ hkc
  obtain ⟨g1, g2⟩ := (resolveClass_links e.toSetting hl).op (op := VmOp.resolveClass f.method.cls y.catchType) rfl
  rw [← hal.assignable]
  cases hq : (S.vm.noted f.method.cls y.catchType (.cls c)).assignable ce.cls c <;>
    simp [findHandler.go, hy2, h0, g1, g2, hce, hv, hk1, hk2, hq, VmOp.dirties, VmOp.acts]
/-- the search comes to the row y past rows that hold the place but not the object -/
theorem gx_seek {e : Env} {f : JFrame} {a : Addr} {s : State} {ce : Cell} (hv : ce.vm = .none) {k : Class} (hk : s.vm.classes[ce.cls]? = some k) {y : ExceptionTableEntry} (suf : List ExceptionTableEntry) (hy : covers y f.pc = true) (h0 : y.catchType ≠ 0) {c : ClassId} (hl : s.vm.ClassLinks e.platform f.method.cls y.catchType c) (hc : s.vm.assignable ce.cls c = true) (pre : List ExceptionTableEntry) :
    ∀ S : State, s.WarmedH S.vm → S.heap[a]? = some ce → (∀ z ∈ pre, z.catchType ≠ 0 ∧ ∃ b, s.vm.ClassLinks e.platform f.method.cls z.catchType b ∧ s.vm.assignable ce.cls b = false) →
      ∃ V, s.WarmedH V ∧ ∀ (Q : Handler → Pre) (P : CtlPost) (d : Bool) (acts : List Action), wp (findHandler.go f a (pre ++ y :: suf)) Q P e d acts S ↔ Q (.found y.handlerPc) d acts (S.setVm V) := by
  -- a row's class noted: the tables stay warmed ones
  have hnote : ∀ (V : Vm) (i b : Nat), s.WarmedH V → s.vm.ClassLinks e.platform f.method.cls i b → s.WarmedH (V.noted f.method.cls i (.cls b)) := by
    intro V i b hW hb
    obtain ⟨_, _, _, _, h1, _, _, _, _, _, _, h2⟩ := hb.here
    exact hW.noted h1 h2 (State.rightAt_cls hb)
  induction pre with
  | nil =>
    intro S hW hce _
    obtain ⟨k1, hk1, -⟩ := hW.alike.2.2 _ _ hk
    refine ⟨_, hnote _ _ _ hW hl, fun Q P d acts => ?_⟩
    rw [List.nil_append, gx_row hy h0 (hW.classLinks hl) hce hv hk1, if_pos (by rw [hW.alike.assignable]; exact hc)]
  | cons z zs ih =>
    intro S hW hce hz
    have hzs := fun u hu => hz u (List.mem_cons_of_mem z hu)
    cases hcov : covers z f.pc with
    | false =>
      obtain ⟨V, h1, h2⟩ := ih S hW hce hzs
      exact ⟨V, h1, fun Q P d acts => (W.findHandler_go_skip hcov).trans (h2 Q P d acts)⟩
    | true =>
      obtain ⟨hz0, b, hb, hno⟩ := hz z List.mem_cons_self
      obtain ⟨k1, hk1, -⟩ := hW.alike.2.2 _ _ hk
      obtain ⟨V, h1, h2⟩ := ih (S.setVm (S.vm.noted f.method.cls z.catchType (.cls b))) (hnote _ _ _ hW hb) hce hzs
      refine ⟨V, h1, fun Q P d acts => ?_⟩
      rw [List.cons_append, gx_row hcov hz0 (hW.classLinks hb) hce hv hk1, if_neg (by rw [hW.alike.assignable, hno]; exact Bool.false_ne_true)]
      exact h2 Q P d acts
/-- the step that finds the row: the frame goes on at its handler -/
theorem gx_found {tb : Tables} {e : Env} {T : State} {f : JFrame} {r below : List Frame} {c : Code} {a : Addr} {h : Nat} {V : Vm} (hat : At T f.method c below) {f0 : JFrame} (hfr : T.frames = .java f0 :: r)
    (hs : ∀ (Q : Handler → Pre) (P : CtlPost) (d : Bool) (acts : List Action), wp (findHandler f a) Q P e d acts ((T.setTop f).pushFrame (.throwing a)) ↔ Q (.found h) d acts (((T.setTop f).pushFrame (.throwing a)).setVm V)) :
    Steps tb e below ((T.setTop f).pushFrame (.throwing a)) ((T.setVm V).setTop { f with pc := h, stack := [.ref a] }) := by
  obtain ⟨h1, h2⟩ := hat.throwing a
  have hT : ((T.setTop f).pushFrame (.throwing a)) = T.setFrames (.throwing a :: .java f :: r) := by
    rw [State.pushFrame, State.frames_setTop _ hfr, State.setTop_of_frames _ hfr, State.setFrames_setFrames]
  have h3 : (stepThread tb e ((T.setTop f).pushFrame (.throwing a))).1 = (T.setVm V).setTop { f with pc := h, stack := [.ref a] } := by
    have hfr2 : (T.setVm V).frames = .java f0 :: r := hfr
    rw [stepThread_throwing (frames_entered hat.top _), hfr, List.tail_cons, State.setTop_of_frames _ hfr2]
    simp only [stepThrowing, searchFrame, vmDo]
    generalize hr : Sem.go _ e false [] ((T.setTop f).pushFrame (.throwing a)) = res
    obtain ⟨as, rfl, -⟩ := Sem.eq_ok_of hr (a := Handler.found h) (s' := ((T.setTop f).pushFrame (.throwing a)).setVm V) (acts' := []) (by simp [hs _ _ _ _])
    rw [hT]
    exact State.setFrames_setFrames (T.setVm V) _ _
  exact Steps.head h1 h2 (by rw [h3]; exact Steps.refl _)
section GX8
variable {K : gx_K} {E : gx_E} {A : Nat → Prop} {n k nL : Nat} {x x' : gx_S} {pc : Nat} {lv : List (Nat × Value)} {st : List Value} {own : String} {cc : ByteArray}
/-- it is caught: the rows ahead of the one that takes it name classes that it isn't of -/
theorem gx_catch (C : gx_C K E own cc nL) {j : Nat} (pre : List ExceptionTableEntry) (y : ExceptionTableEntry) (suf : List ExceptionTableEntry) (hsplit : K.c.exceptionTable.toList = pre ++ y :: suf) (hpass : ∀ z ∈ pre, z.catchType ≠ 0 ∧ ∃ nm : String, Cond.classLink own z.catchType nm ∈ gx_T ∧ (gx_exn j, nm) ∈ gx_nc) (hy : covers y pc = true) (h0 : y.catchType ≠ 0) (hlink : Cond.classLink own y.catchType (gx_exn j) ∈ gx_T) (hcast : (Cond.castable (gx_exn j) (gx_exn j)) ∈ gx_NW) {hp : Nat} (hhp : y.handlerPc = hp)
    (kk : ∀ q : Nat, gx_G K E A n k x hp lv [.ref q]) : gx_H K E A n k x pc lv j := by
  intro H locs ls st q hP hS hl hex T hT X
  obtain ⟨ce, hce, hv, hcl⟩ := hex
  have hpl : K.e.platform.magicAccessors = ({} : Platform).magicAccessors := by rw [X.admits.platform]
  obtain ⟨c3, c4, hc3, hc4, hasg⟩ := Cond.castable_spec (va_Nw.use (A := K.args) rfl (C.nw _ hcast))
  cases Option.some.inj (hc3.symm.trans hcl)
  obtain ⟨c5, hc5, hcl5⟩ := Cond.classLink_spec C.ow (C.ts _ hlink) K.e.platform hpl
  cases Option.some.inj (hc4.symm.trans hc5)
  have hrows : ∀ z ∈ pre, z.catchType ≠ 0 ∧ ∃ b, K.s.vm.ClassLinks K.e.platform K.m.cls z.catchType b ∧ K.s.vm.assignable ce.cls b = false := by
    intro z hz
    obtain ⟨hz0, nm, hl1, hn1⟩ := hpass z hz
    obtain ⟨a8, b8, h1, h2, h3⟩ := C.uu.2.2.2.2.2.2 _ hn1
    obtain ⟨c6, hc6, hcl6⟩ := Cond.classLink_spec C.ow (C.ts _ hl1) K.e.platform hpl
    cases Option.some.inj (h1.symm.trans hcl)
    cases Option.some.inj (h2.symm.trans hc6)
    exact ⟨hz0, _, hcl6, h3⟩
  obtain ⟨k9, hk9, -⟩ := Vm.findClass_spec hcl
  obtain ⟨f0, hfr⟩ := X.frames_eq
  obtain ⟨V, hV, hgo⟩ := gx_seek (f := F0 K.m pc ls st) (a := q) hv hk9 suf hy h0 hcl5 hasg pre ((T.setTop (F0 K.m pc ls st)).pushFrame (.throwing q)) X.warmed (by show T.heap[q]? = _; rw [hT]; exact hce) hrows
  have st' := gx_found (tb := K.p.tables) (f := F0 K.m pc ls st) (a := q) (h := y.handlerPc) X.here hfr (fun Q P d acts => by rw [W.findHandler_eq X.method' X.code, hsplit]; exact hgo Q P d acts)
  have X' := X.noted hV
  subst hhp
  obtain ⟨t, a1, b1⟩ := kk q H locs ls hP hS hl (T.setVm V) hT X'
  exact ⟨t, st'.trans a1, b1⟩
end GX8
/-! methods with handlers -/
abbrev gx_e4x (y : ExceptionTableEntry) : Nat × Nat × Nat × Nat := (y.startPc, y.endPc, y.handlerPc, y.catchType)
theorem gx_hnd1 {L : List ExceptionTableEntry} {q1 : Nat × Nat × Nat × Nat} (h : L.map gx_e4x = [q1]) : ∃ y1, L = [y1] ∧ gx_e4x y1 = q1 := by
  match L, h with
  | [a], h => exact ⟨a, rfl, (List.cons.inj h).1⟩
theorem gx_hnd2 {L : List ExceptionTableEntry} {q1 q2 : Nat × Nat × Nat × Nat} (h : L.map gx_e4x = [q1, q2]) : ∃ y1 y2, L = [y1, y2] ∧ gx_e4x y1 = q1 ∧ gx_e4x y2 = q2 := by
  match L, h with
  | [a, b], h => exact ⟨a, b, rfl, (List.cons.inj h).1, (List.cons.inj (List.cons.inj h).2).1⟩
theorem gx_hnd3 {L : List ExceptionTableEntry} {q1 q2 q3 : Nat × Nat × Nat × Nat} (h : L.map gx_e4x = [q1, q2, q3]) : ∃ y1 y2 y3, L = [y1, y2, y3] ∧ gx_e4x y1 = q1 ∧ gx_e4x y2 = q2 ∧ gx_e4x y3 = q3 := by
  match L, h with
  | [a, b, c], h => exact ⟨a, b, c, rfl, (List.cons.inj h).1, (List.cons.inj (List.cons.inj h).2).1, (List.cons.inj (List.cons.inj (List.cons.inj h).2).2).1⟩
def gx_Wi (w : Bool) (l : Launch) (y : MethodName) (cc : ByteArray) (maxL : Nat) (ret : Option FieldType) (hh : List (Nat × Nat × Nat × Nat)) (rm : Room) (av : gx_E → List Value) (x : gx_S) (r : Int32) (x' : gx_S) : Prop :=
  ∀ (E : gx_E) (sz : Nat), Met l y (.codeWith y cc maxL ret hh :: gx_T) rm (gx_Pre E (av E) x sz) (gx_Qi E (gx_AB w E sz) r x') rm.cells rm.slots (gx_AB w E sz)
section GX9
variable {K : gx_K} {E : gx_E} {A : Nat → Prop} {n k nL : Nat} {x x' : gx_S} {pc : Nat} {lv : List (Nat × Value)} {st : List Value} {own : String} {cc : ByteArray}
theorem gx_metW {w : Bool} {l : Launch} {y : MethodName} {maxL : Nat} {ret : Option FieldType} {hh : List (Nat × Nat × Nat × Nat)} {rm : Room} {av : gx_E → List Value} {r : Int32} (hy : plainName y.cls = true) (hown : y.cls = own) (hlen : ∀ E, (lg_sl (av E)).length ≤ maxL)
    (body : ∀ (K : gx_K) (E : gx_E), K.l = l → K.R = rm → K.meth.sig.returnType = ret → K.meth.locks = false → K.c.exceptionTable.toList.map gx_e4x = hh → (∀ t, MQ K.below (gx_Qi E (gx_AB w E K.s.heap.size) r x') K.args K.s rm.cells rm.slots (gx_AB w E K.s.heap.size) t → K.Q t) → gx_C K E own cc maxL → gx_G K E (gx_AB w E K.s.heap.size) 0 0 x 0 (lv_args 0 (av E)) []) : gx_Wi w l y cc maxL ret hh rm av x r x' := by
  intro E sz
  refine MetFree.of_bodyS (code := cc) (maxLocals := maxL) (ret := ret) hy ?_ ?_
  · intro args s m h hn
    obtain ⟨m', meth, c, h1, h2, h3, h4, h5, -, h7, h8, -⟩ := Cond.codeWith_spec (atoms_spec (ws := .codeWith y cc maxL ret hh :: gx_T) h _ List.mem_cons_self)
    cases Option.some.inj (h1.symm.trans hn)
    exact ⟨meth, c, h2, h3, h4, h5, h7, h8⟩
  · intro p e s m args below meth c s₁ B hml hv _
    obtain ⟨rfl, hsz, hP, hU⟩ := hv
    subst hsz
    have hh0 : s₁.heap = s.heap := by rw [B.state]; rfl
    have hts := atoms_spec (ws := .codeWith y cc maxL ret hh :: gx_T) B.pre
    obtain ⟨m', meth', c', h1, h2, h3, h4, h5, h6, -⟩ := Cond.codeWith_spec (hts _ List.mem_cons_self)
    cases Option.some.inj (h1.symm.trans B.named)
    cases Option.some.inj (B.method.symm.trans h2)
    cases Option.some.inj ((Stand.of_body B).code.symm.trans h3)
    have key := body (p, l, e, rm, s, m, (av E).toArray, below, meth, c, MQ below (gx_Qi E (gx_AB w E s.heap.size) r x') (av E).toArray s rm.cells rm.slots (gx_AB w E s.heap.size)) E rfl rfl B.returns B.notSynchronized h6 (fun t h => h) ⟨B.exec, B.bytes, hml, hown ▸ findClass_of_methodNamed B.named, fun w h => hts w (List.mem_cons_of_mem _ h), hU⟩
    have hl := lv_entry (av E) (n := maxL) (hlen E)
    have k3 : W p l e rm s m (av E).toArray below meth c s.heap [] 0 0 (MQ below (gx_Qi E (gx_AB w E s.heap.size) r x') (av E).toArray s rm.cells rm.slots (gx_AB w E s.heap.size)) (entryFrame m (av E).toArray maxL) := by
      rw [lg_entry_eq]
      rw [← hml] at hl ⊢
      exact key s.heap [] _ hP va_S.rf hl
    obtain ⟨t, a1, o, b1, b2, b3, b4⟩ := k3 s₁ hh0 (Stand.of_body B)
    exact ⟨t, o, a1, b1, b2, b3, b4⟩
/-- a static call of a method with handlers -/
theorem gx_cSWi {w v : Bool} (C : gx_C K E own cc nL) {y : MethodName} {bytes : ByteArray} {maxL index : Nat} {ret : Option FieldType} {hh : List (Nat × Nat × Nat × Nat)} {rm : Room} {As rest : List Value} {av : gx_E → List Value} {r : Int32} (nn : Nat) (hM : gx_Wi w K.l y bytes maxL ret hh rm av x r x') (hwv : v = true ∨ w = false) (hav : av E = As) (hlk : Cond.methodLink own index y ∈ gx_T) (hsta : Cond.static y ∈ gx_T) (hini : Cond.initialized y.cls ∈ gx_T) (hcw : Cond.codeWith y bytes maxL ret hh ∈ gx_T) (hd : y.cls ≠ "java/lang/invoke/MethodHandle" ∧ y.cls ≠ "java/lang/invoke/VarHandle" ∧ (parseMethodDescriptor y.desc).map (fun d => d.parameters.length) = some nn) (hR : rm.frames + 1 ≤ K.R.frames ∧ 8 + (maxL + 11) + rm.locals ≤ K.R.locals) (hn : As.length = nn) (hst : st = As.reverse ++ rest) (hwt : (rest.map fun v => v.category).sum ≤ 8) (d : decode cc pc = .ok (.invokestatic index, 3)) (hf : n + rm.cells ≤ K.R.cells ∧ k + rm.slots ≤ K.R.slots) {n2 k2 : Nat} (hn2 : n + rm.cells = n2) (hk2 : k + rm.slots = k2)
    (kk : gx_G K E (gx_AB v E K.s.heap.size) n2 k2 x' (pc + 3) lv (.int r :: rest)) : gx_G K E (gx_AB v E K.s.heap.size) n k x pc lv st := by
  subst hst hn2 hk2
  intro H locs ls hP hF hl T hT X
  have hsub := gx_freeS C (w := w) hwv hF
  have key : ∀ z ∈ (Cond.codeWith y bytes maxL ret hh :: gx_T), z ∈ gx_T := by
    intro z hz
    rcases List.mem_cons.mp hz with rfl | hz
    · exact hcw
    · exact hz
  have hG : GoodIn gx_T (Cond.codeWith y bytes maxL ret hh :: gx_T) := fun z hz => ⟨key z hz, good_of_word (gx_T_good z (key z hz))⟩
  have hB : Back K.l K.R K.p K.e K.below K.s K.args y 3 8 (PreOf K.R rm.cells rm.slots (gx_Pre E (av E) x H.size)) (PostOf (gx_Qi E (gx_AB w E H.size) r x') rm.cells rm.slots (gx_AB w E H.size)) :=
    va_backW (hh := hh) (bytes := bytes) (maxL := maxL) (ret := ret) (hM E H.size) (gx_blind _ _ _ _) rfl rfl hR.1 hR.2 (pay_in C.ts hG) List.mem_cons_self (fun a' U hW => word_at hW (Or.inl (by first | rfl | simp [Cond.onTables, Cond.keeps, Cond.steady])) (C.ts _ hini))
  obtain ⟨mk, methM, cM, hnamed, hmethM, -, -, -, -, -, -, hsigM⟩ := Cond.codeWith_spec (C.ts _ hcw)
  obtain ⟨kP, hkP, -⟩ := className_of_methodNamed hnamed
  have hlen : As.length = methM.sig.parameters.length := by
    have h2 := hd.2.2
    rw [hsigM] at h2
    rw [hn]
    exact (Option.some.inj h2).symm
  obtain ⟨vm₁, X₁, hstep₁⟩ := X.invokestatic C.ex C.ow (C.ts _ hlk) hnamed hmethM (Cond.static_spec hnamed hmethM (C.ts _ hsta)) hkP (Cond.initialized_spec (findClass_of_methodNamed hnamed) hkP (C.ts _ hini)) ⟨hd.1, hd.2.1⟩ (g := F0 K.m pc ls (As.reverse ++ rest)) rfl (argsL := As) (rest := rest) hlen rfl (by rw [C.bc]; exact d)
  obtain ⟨v2, ⟨U', l2, c2, s2⟩, X', ⟨g', mk', t, L, e1, e2, hq, h1, hL, h2, h3⟩, hsteps⟩ := hB K.m K.meth K.c ⟨T.setVm vm₁, locs, n, k⟩ (F0 K.m pc ls rest) (.invokestatic index) mk As.toArray X₁ rfl hl.1 (by rw [C.bc]; exact d) (lv_room hwt) (X₁.named hnamed) ⟨hf.1, hf.2, by rw [hav], by show T.heap.size = _; rw [hT], by show va_P _ _ _ T.heap; rw [hT]; exact hP, C.at (U := T.setVm vm₁) hF hT X₁.warmed⟩
  dsimp only [Pt.U, Pt.locs, Pt.cells, Pt.slots] at X' e1 e2 h1 h2 h3 hsteps hq
  subst h1; subst h2; subst h3
  obtain ⟨⟨r2, u, hv, ⟨rfl, rfl⟩, hPu⟩, hFq⟩ := hq
  cases hv
  have hH0 : ((T.setVm vm₁).calling g' mk' As.toArray).heap = H := hT
  have hS1 : va_S (gx_AB v E K.s.heap.size) K.s.heap t.heap (locs ++ L) := by
    refine ⟨Nat.le_trans hF.1 (by have := hFq.1; rw [hH0] at this; exact this), fun q h1 h2 => ?_, fun z hz => ?_⟩
    · have hq2 := hFq.2 q (by rw [hH0]; exact Nat.lt_of_lt_of_le h1 hF.1) (fun z => h2 (hsub q z))
      rw [hH0] at hq2
      rw [hq2]; exact hF.2.1 q h1 h2
    · rcases List.mem_append.mp hz with hz | hz
      · exact hF.2.2 z hz
      · exact hsub _ (hL z hz)
  obtain ⟨tt, hs2, hQ2⟩ := kk t.heap (locs ++ L) ls hPu hS1 hl U' e1 X'
  exact ⟨tt, hstep₁ _ (fun acts => by rw [doInvoke_state]; exact hsteps.trans hs2), hQ2⟩
end GX9
