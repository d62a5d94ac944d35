/-! constructors: what the static helpers answer, over any heap -/
def ct_Q (r : Int32) : Array Value → State → Outcome → State → Prop := fun _ st o t => o = .returned (some (.int r)) ∧ t.heap = st.heap
theorem ct_id {D : va_G} {cl : List vw_C} {tys : List (ClassId × FieldType)} {c c' : ClassId} {ty : FieldType} {s : State} (h : va_K D cl (tys ++ [(c', ty)]) s) (i : Nat) (hi : tys[i]? = some (c, ty)) (hty : refKind ty = false) : c' = c := by
  have h1 := (h.2 tys.length (c', ty) (by simp)).2
  have h2 := (h.2 i (c, ty) (by rw [List.getElem?_append_left (List.getElem?_eq_some_iff.mp hi).1]; exact hi)).2
  cases ty <;> first | (exact absurd (show true = false from hty) (by decide)) | exact Option.some.inj (h1.symm.trans h2)
section CT
variable {p : Program} {l : Launch} {e : Env} {R : Room} {s : State} {m : MethodId} {args : Array Value} {below : List Frame} {meth : Method} {c : Code} {H : Heap} {locs : List Loc} {cells slots : Nat} {Q : State → Prop}
/-- a static call of a method that changes nothing -/
theorem ct_call {own : String} {cc bytes : ByteArray} {nL maxL index pc : Nat} {ret : Option FieldType} {y : MethodName} {rm : Room} {Pc : Array Value → State → Prop} {r : Int32} {ls : Array Slot} {As rest : List Value} (nn : Nat) (hx : p.tables.exec = Jvm.exec) (hb : c.code = cc) (hml : c.maxLocals = nL) (hown : s.vm.findClass own = some m.cls) (hts : ∀ w ∈ gx_T, w.before args s = true)
    (hM : Met l y (.code y bytes maxL ret :: gx_T) rm Pc (ct_Q r) 0 0 (fun _ => False)) (hw : GoodIn gx_T (va_wsS own index y (.code y bytes maxL ret :: gx_T))) (hrc : rm.cells = 0) (hrs : rm.slots = 0) (hd : y.cls ≠ "java/lang/invoke/MethodHandle" ∧ y.cls ≠ "java/lang/invoke/VarHandle" ∧ (parseMethodDescriptor y.desc).map (fun d => d.parameters.length) = some nn) (hR : rm.frames + 1 ≤ R.frames ∧ 8 + (maxL + 11) + rm.locals ≤ R.locals) (hbl : FrameBlind Pc) (hpc : ∀ U : State, U.heap = H → s.WarmedH U.vm → Pc As.toArray U) (hn : As.length = nn) (hls : ls.size = nL) (hwt : (rest.map fun v => v.category).sum ≤ 8) (d : decode cc pc = .ok (.invokestatic index, 3)) (hc : cells ≤ R.cells) (hs : slots ≤ R.slots)
    (kk : W p l e R s m args below meth c H locs cells slots Q (F0 m (pc + 3) ls (.int r :: rest))) : W p l e R s m args below meth c H locs cells slots Q (F0 m pc ls (As.reverse ++ rest)) := by
  have hr := va_runS (mc := 0) (ms := 0) (As := As) (rest := rest) (g := F0 m pc ls (As.reverse ++ rest)) (l := l) (e := e) (R := R) (below := below) (meth := meth) (H := H) (locs := locs) (cells := cells) (slots := slots) ⟨hx, hb, hml, hown, hts⟩ hM (va_cwS nn hts hw rfl hrc hrs hd hR) ⟨hbl, hpc⟩ rfl hn hls rfl (lv_room hwt) d ⟨hc, hs⟩
  intro T hT X
  obtain ⟨v, st₀, t, T', L, h0, X', hL, e1, e2, ⟨hv, hh⟩, st⟩ := hr T hT X
  cases hv
  have hL0 : L = [] := by
    cases L with
    | nil => rfl
    | cons a L => exact absurd (hL a List.mem_cons_self) id
  subst hL0
  rw [List.append_nil] at X'
  obtain ⟨t2, a1, b1⟩ := kk T' (by rw [e1, hh, h0]) X'
  exact ⟨t2, st t2 a1, b1⟩
end CT
def ct_Pre (dC : Nat → ClassId) (dI : Nat → Nat → Nat) (cI cZ cL : ClassId) (av : List Value) (ws : va_W) (sz : Nat) : Array Value → State → Prop := va_Pc av (fun U => U.heap.size = sz ∧ va_P (dC, dI) gx_cl ws U.heap ∧ va_K (dC, dI) gx_cl [(cI, .int), (cZ, .boolean), (cL, .long)] U ∧ (∀ w ∈ gx_NW, va_Nw w U) ∧ va_D (fun _ => True) ws)
theorem ct_blind {dC : Nat → ClassId} {dI : Nat → Nat → Nat} {cI cZ cL : ClassId} {av : List Value} {ws : va_W} {sz : Nat} : FrameBlind (ct_Pre dC dI cI cZ cL av ws sz) := by
  intro a U g mk q
  obtain ⟨q0, q1, q2, q3, q4, q5⟩ := q
  exact ⟨q0, q1, q2, va_K.moved (u := U) (U := U.calling g mk a) (Vm.Alike.refl U.vm) q3, fun w hw => gx_NW_same (u := U) rfl hw (q4 w hw), q5⟩
def cs_w (a b c : Int32) : Int32 := if b < (if a < c then a else c) then (if a < c then a else c) else b
def cs_h (a : Int32) : Int32 := if 1 ≤ a then (if a ≤ 9 then a else 9) else 1
set_option maxHeartbeats 4000000 in
set_option maxRecDepth 100000 in
theorem cs_within (l : Launch) (a0 a1 a2 : Int32) : Met l y_CaseLayout_within (.code y_CaseLayout_within prog_1_method_24_code 3 (some .int) :: gx_T) { frames := 1, cells := 0, slots := 0, locals := 15 } (fun v _ => v = ([.int a0, .int a1, .int a2] : List Value).toArray) (ct_Q (cs_w a0 a1 a2)) 0 0 (fun _ => False) := by
  refine Met.ofW (cc := prog_1_method_24_code) (maxL := 3) (ret := some .int) (by decide) rfl ?_
  intro p e s m args below meth c s₁ B hml hv
  have hx := B.exec
  have hb := B.bytes
  have hr := B.returns
  have hlocks := B.notSynchronized
  subst hv
  have hts0 := atoms_spec (ws := .code y_CaseLayout_within prog_1_method_24_code 3 (some .int) :: gx_T) B.pre
  have hts : ∀ w ∈ gx_T, w.before ([.int a0, .int a1, .int a2] : List Value).toArray s = true := fun w h => hts0 w (List.mem_cons_of_mem _ h)
  have hown : s.vm.findClass "CaseLayout" = some m.cls := findClass_of_methodNamed B.named
  have hl := lv_entry ([.int a0, .int a1, .int a2]) (n := 3) (Nat.le_of_ble_eq_true rfl)
  rw [lg_entry_eq]
  generalize (lg_sl ([.int a0, .int a1, .int a2]) ++ List.replicate (3 - (lg_sl ([.int a0, .int a1, .int a2])).length) Slot.unset).toArray = ls at hl ⊢
  have hl : lv_has ls 3 [(0, .int a0), (1, .int a1), (2, .int a2)] := hl
  refine lv_iload_n hx hb d_CaseLayout_within_0 rfl (lv_at hl 1 rfl) ?_
  refine lv_iload_n hx hb d_CaseLayout_within_1 rfl (lv_at hl 2 rfl) ?_
  refine lv_iload_n hx hb d_CaseLayout_within_2 rfl (lv_at hl 0 rfl) ?_
  refine va_mmin hx hb (by rw [hml, hl.1]) hown (hts _ gw_32) (hts _ gw_33) (hts _ gw_3) (hts _ gw_34) (Nat.le_of_ble_eq_true rfl) (Nat.le_of_ble_eq_true rfl) (Nat.le_of_ble_eq_true rfl) (Nat.le_of_ble_eq_true rfl) d_CaseLayout_within_3 ?_
  refine va_mmax hx hb (by rw [hml, hl.1]) hown (hts _ gw_35) (hts _ gw_36) (hts _ gw_3) (hts _ gw_37) (Nat.le_of_ble_eq_true rfl) (Nat.le_of_ble_eq_true rfl) (Nat.le_of_ble_eq_true rfl) (Nat.le_of_ble_eq_true rfl) d_CaseLayout_within_6 ?_
  exact W.iret hx hb hr (fun t ht hW => ⟨rfl, ht⟩) (fun q h => by cases h) d_CaseLayout_within_9
set_option maxHeartbeats 4000000 in
set_option maxRecDepth 100000 in
theorem cs_held (l : Launch) (a0 : Int32) : Met l y_Mod_held (.code y_Mod_held prog_10_method_2_code 1 (some .int) :: gx_T) { frames := 0, cells := 0, slots := 0, locals := 0 } (fun v _ => v = ([.int a0] : List Value).toArray) (ct_Q (cs_h a0)) 0 0 (fun _ => False) := by
  refine Met.ofW (cc := prog_10_method_2_code) (maxL := 1) (ret := some .int) (by decide) rfl ?_
  intro p e s m args below meth c s₁ B hml hv
  have hx := B.exec
  have hb := B.bytes
  have hr := B.returns
  have hlocks := B.notSynchronized
  subst hv
  have hl := lv_entry ([.int a0]) (n := 1) (Nat.le_of_ble_eq_true rfl)
  rw [lg_entry_eq]
  generalize (lg_sl ([.int a0]) ++ List.replicate (1 - (lg_sl ([.int a0])).length) Slot.unset).toArray = ls at hl ⊢
  have hl : lv_has ls 1 [(0, .int a0)] := hl
  refine lv_iload_n hx hb d_Mod_held_0 rfl (lv_at hl 0 rfl) ?_
  refine lv_iconst (v := 1) hx hb d_Mod_held_1 (by decide) ?_
  refine lv_icmp_ge (tgt := 9) hx hb d_Mod_held_2 (by decide) (fun h1 => ?_) (fun h1 => ?_)
  · refine lv_iload_n hx hb d_Mod_held_9 rfl (lv_at hl 0 rfl) ?_
    refine lv_bipush (v := 9) hx hb d_Mod_held_10 (by decide) ?_
    refine lv_icmp_le (tgt := 20) hx hb d_Mod_held_12 (by decide) (fun h2 => ?_) (fun h2 => ?_)
    · refine lv_iload_n hx hb d_Mod_held_20 rfl (lv_at hl 0 rfl) ?_
      exact W.iret (v := a0) hx hb hr (fun t ht hW => ⟨by unfold cs_h; rw [if_pos h1, if_pos h2], ht⟩) (fun q h => by cases h) d_Mod_held_21
    · refine lv_bipush (v := 9) hx hb d_Mod_held_15 (by decide) ?_
      refine lv_goto (tgt := 21) hx hb d_Mod_held_17 (by decide) ?_
      exact W.iret (v := 9) hx hb hr (fun t ht hW => ⟨by unfold cs_h; rw [if_pos h1, if_neg h2], ht⟩) (fun q h => by cases h) d_Mod_held_21
  · refine lv_iconst (v := 1) hx hb d_Mod_held_5 (by decide) ?_
    refine lv_goto (tgt := 21) hx hb d_Mod_held_6 (by decide) ?_
    exact W.iret (v := 1) hx hb hr (fun t ht hW => ⟨by unfold cs_h; rw [if_neg h1], ht⟩) (fun q h => by cases h) d_Mod_held_21
/-- the law's cell: the script's int, or 0 -/
def cs_c (L : Nat) (xs : Nat → Int32) (k : Nat) : Int32 := if k < L then xs k else 0
set_option maxHeartbeats 4000000 in
set_option maxRecDepth 100000 in
theorem cs_cell (l : Launch) {b L : Nat} {xs : Nat → Int32} (hL : L ≤ 2050) (k : Nat) (hk : k < 2) : Met l y_Law_cell (.code y_Law_cell method_2_code 2 (some .int) :: gx_T) { frames := 0, cells := 0, slots := 0, locals := 0 } (fun v U => v = ([.ref b, .int (nI k)] : List Value).toArray ∧ va_X b L xs U U.heap) (ct_Q (cs_c L xs k)) 0 0 (fun _ => False) := by
  refine Met.ofW (cc := method_2_code) (maxL := 2) (ret := some .int) (by decide) rfl ?_
  intro p e s m args below meth c s₁ B hml hv
  have hx := B.exec
  have hb := B.bytes
  have hr := B.returns
  have hlocks := B.notSynchronized
  obtain ⟨rfl, hX⟩ := hv
  have hbl : b < s.heap.size := by
    obtain ⟨scr, h1, -⟩ := hX
    exact (Array.getElem?_eq_some_iff.mp h1).1
  have hS : va_S (fun _ => False) s.heap s.heap [] := va_S.rf
  have hl := lv_entry ([.ref b, .int (nI k)]) (n := 2) (Nat.le_of_ble_eq_true rfl)
  rw [lg_entry_eq]
  generalize (lg_sl ([.ref b, .int (nI k)]) ++ List.replicate (2 - (lg_sl ([.ref b, .int (nI k)])).length) Slot.unset).toArray = ls at hl ⊢
  have hl : lv_has ls 2 [(0, .ref b), (1, .int (nI k))] := hl
  refine lv_iload_n hx hb d_Law_cell_0 rfl (lv_at hl 1 rfl) ?_
  refine lv_aload_n hx hb d_Law_cell_1 rfl (lv_at hl 0 rfl) ?_
  refine va_slen hx hb hX hbl id hS d_Law_cell_2 ?_
  refine lv_icmp_ge (tgt := 12) hx hb d_Law_cell_3 (by decide) (fun h1 => ?_) (fun h1 => ?_)
  · have hge : L ≤ k := (nI_leI (by omega) (by omega)).mp h1
    refine lv_iconst (v := 0) hx hb d_Law_cell_12 (by decide) ?_
    exact W.iret (v := 0) hx hb hr (fun t ht hW => ⟨by unfold cs_c; rw [if_neg (by omega)], ht⟩) (fun q h => by cases h) d_Law_cell_13
  · have hlt : k < L := Nat.not_le.mp (fun q => h1 ((nI_leI (by omega) (by omega)).mpr q))
    refine lv_aload_n hx hb d_Law_cell_6 rfl (lv_at hl 0 rfl) ?_
    refine lv_iload_n hx hb d_Law_cell_7 rfl (lv_at hl 1 rfl) ?_
    refine va_sld hx hb hX hbl id hS (vp_in_nI hlt (by omega)) d_Law_cell_8 ?_
    refine lv_goto (tgt := 13) hx hb d_Law_cell_9 (by decide) ?_
    exact W.iret hx hb hr (fun t ht hW => ⟨by unfold cs_c; rw [if_pos hlt, nI_clamp (by omega)], ht⟩) (fun q h => by cases h) d_Law_cell_13
