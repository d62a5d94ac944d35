abbrev at_Grid (dC : Nat → ClassId) (dI : Nat → Nat → Nat) (cI cZ cL : ClassId) (A : Nat → Prop) (h0 : Nat) (a0 : Int32) (a1 : Int32) (u : Nat × Nat) (t : State) : Prop := va_P (dC, dI) gx_cl [(h0, .inr (1, [.int a0, .int a1, .ref u.1, .ref u.2, .int 0])), (u.1, .inl (cZ, 81, .inl (fun _ => 0))), (u.2, .inl (cI, 81, .inl (fun _ => 0)))] t.heap ∧ va_D A [(h0, .inr (1, [.int a0, .int a1, .ref u.1, .ref u.2, .int 0])), (u.1, .inl (cZ, 81, .inl (fun _ => 0))), (u.2, .inl (cI, 81, .inl (fun _ => 0)))]
abbrev rmi_Grid : Room := { frames := 1, cells := 2, slots := 162, locals := 12 }
set_option maxHeartbeats 4000000 in
set_option maxRecDepth 100000 in
theorem ci_Grid (l : Launch) (dC : Nat → ClassId) (dI : Nat → Nat → Nat) (cI cZ cL : ClassId) (h0 sz : Nat) (a0 : Int32) (a1 : Int32) : Met l y_Grid_init (.code y_Grid_init prog_4_method_1_code 3 none :: gx_T) rmi_Grid (ct_Pre dC dI cI cZ cL [.ref h0, .int a0, .int a1] [(h0, .inr (1, [.int 0, .int 0, .null, .null, .int 0]))] sz) (va_Qv (fun _ : Nat × Nat => True) (at_Grid dC dI cI cZ cL (va_A [(h0, .inr (1, [.int 0, .int 0, .null, .null, .int 0]))] sz) h0 a0 a1) (va_A [(h0, .inr (1, [.int 0, .int 0, .null, .null, .int 0]))] sz)) 2 162 (va_A [(h0, .inr (1, [.int 0, .int 0, .null, .null, .int 0]))] sz) := by
  refine Met.ofW (cc := prog_4_method_1_code) (maxL := 3) (ret := none) (by decide) rfl ?_
  intro p e s m args below meth c s₁ B hml hv
  obtain ⟨rfl, hsz, hP, hK, hN, hD0⟩ := hv
  have hx := B.exec
  have hb := B.bytes
  have hr := B.returns
  have hts0 := atoms_spec (ws := .code y_Grid_init prog_4_method_1_code 3 none :: gx_T) B.pre
  have hts : ∀ w ∈ gx_T, w.before ([.ref h0, .int a0, .int a1] : List Value).toArray s = true := fun w h => hts0 w (List.mem_cons_of_mem _ h)
  have hown : s.vm.findClass "CaseLayout$Grid" = some m.cls := findClass_of_methodNamed B.named
  have hlocks := B.notSynchronized
  have hin : meth.name = "<init>" := (name_of_methodNamed B.named B.method).1
  subst hsz
  have hD := hD0.self (sz := s.heap.size)
  generalize hAe : va_A [(h0, .inr (1, [.int 0, .int 0, .null, .null, .int 0]))] s.heap.size = A at hD ⊢
  have hA : ∀ q : Nat, s.heap.size ≤ q → A q := fun q h => by rw [← hAe]; exact Or.inr h
  have hS : va_S A s.heap s.heap [] := va_S.rf
  have hl := lv_entry ([.ref h0, .int a0, .int a1]) (n := 3) (Nat.le_of_ble_eq_true rfl)
  rw [lg_entry_eq]
  generalize (lg_sl ([.ref h0, .int a0, .int a1]) ++ List.replicate (3 - (lg_sl ([.ref h0, .int a0, .int a1])).length) Slot.unset).toArray = ls at hl ⊢
  have hl : lv_has ls 3 [(0, .ref h0), (1, .int a0), (2, .int a1)] := hl
  refine lv_aload_n hx hb d_Grid_init_0 rfl (lv_at hl 0 rfl) ?_
  refine W.objInit hx hb hown (hts _ gw_41) (hts _ gw_25) (hts _ gw_26) rfl (by rw [hml]; exact hl.1) rfl d_Grid_init_1 (Nat.le_of_ble_eq_true rfl) (Nat.le_of_ble_eq_true rfl) ?_
  refine W.eq (g2 := F0 m 4 ls []) rfl ?_
  refine lv_aload_n hx hb d_Grid_init_4 rfl (lv_at hl 0 rfl) ?_
  refine lv_bipush (v := 81) hx hb d_Grid_init_5 (by decide) ?_
  refine va_newa (atype := .boolean) (ty := .boolean) (N' := 81) (a0 := (81, .inl (fun _ => 0))) hx hb (hts _ gw_64) rfl hK hP hD hS hA (fun _ => rfl) (by decide) (by decide) (by decide) (Nat.le_of_ble_eq_true rfl) (Nat.le_of_ble_eq_true rfl) d_Grid_init_7 (fun q1 cq1 H hK1 hP hD hS => ?_)
  have ec := (ct_id hK1 1 rfl rfl).symm
  subst ec
  have hP : va_P (dC, dI) gx_cl [(h0, .inr (1, [.int 0, .int 0, .null, .null, .int 0])), (q1, .inl (cZ, 81, .inl (fun _ => 0)))] H := hP
  have hD : va_D A [(h0, .inr (1, [.int 0, .int 0, .null, .null, .int 0])), (q1, .inl (cZ, 81, .inl (fun _ => 0)))] := hD
  refine W.widen (k := 1) (n := 81) (Nat.le_refl _) (Nat.le_refl _) ?_
  refine va_putF (D := (dC, dI)) (ci := 1) (v := .ref q1) (ty := .array .boolean) (C := "CaseLayout$Grid") (T := T_Grid) (N := 5) hx hb hts iw_Grid ty_Grid tk_Grid tn_Grid hown hK hP hD hS 0 rfl rfl 2 (by decide) (hts _ gw_46) (fun _ h9 => h9) rfl hin rfl (by decide +kernel) rfl rfl (Nat.le_of_ble_eq_true rfl) d_Grid_init_9 (fun H locs hP hD hS => ?_)
  have hP : va_P (dC, dI) gx_cl [(h0, .inr (1, [.int 0, .int 0, .ref q1, .null, .int 0])), (q1, .inl (cZ, 81, .inl (fun _ => 0)))] H := hP
  have hD : va_D A [(h0, .inr (1, [.int 0, .int 0, .ref q1, .null, .int 0])), (q1, .inl (cZ, 81, .inl (fun _ => 0)))] := hD
  refine lv_aload_n hx hb d_Grid_init_12 rfl (lv_at hl 0 rfl) ?_
  refine lv_bipush (v := 81) hx hb d_Grid_init_13 (by decide) ?_
  refine va_newa (atype := .int) (ty := .int) (N' := 81) (a0 := (81, .inl (fun _ => 0))) hx hb (hts _ gw_65) rfl hK hP hD hS hA (fun _ => rfl) (by decide) (by decide) (by decide) (Nat.le_of_ble_eq_true rfl) (Nat.le_of_ble_eq_true rfl) d_Grid_init_15 (fun q2 cq2 H hK1 hP hD hS => ?_)
  have ec := (ct_id hK1 0 rfl rfl).symm
  subst ec
  have hP : va_P (dC, dI) gx_cl [(h0, .inr (1, [.int 0, .int 0, .ref q1, .null, .int 0])), (q1, .inl (cZ, 81, .inl (fun _ => 0))), (q2, .inl (cI, 81, .inl (fun _ => 0)))] H := hP
  have hD : va_D A [(h0, .inr (1, [.int 0, .int 0, .ref q1, .null, .int 0])), (q1, .inl (cZ, 81, .inl (fun _ => 0))), (q2, .inl (cI, 81, .inl (fun _ => 0)))] := hD
  refine W.widen (k := 2) (n := 162) (Nat.le_refl _) (Nat.le_refl _) ?_
  refine va_putF (D := (dC, dI)) (ci := 1) (v := .ref q2) (ty := .array .int) (C := "CaseLayout$Grid") (T := T_Grid) (N := 5) hx hb hts iw_Grid ty_Grid tk_Grid tn_Grid hown hK hP hD hS 0 rfl rfl 3 (by decide) (hts _ gw_49) (fun _ h9 => h9) rfl hin rfl (by decide +kernel) rfl rfl (Nat.le_of_ble_eq_true rfl) d_Grid_init_17 (fun H locs hP hD hS => ?_)
  have hP : va_P (dC, dI) gx_cl [(h0, .inr (1, [.int 0, .int 0, .ref q1, .ref q2, .int 0])), (q1, .inl (cZ, 81, .inl (fun _ => 0))), (q2, .inl (cI, 81, .inl (fun _ => 0)))] H := hP
  have hD : va_D A [(h0, .inr (1, [.int 0, .int 0, .ref q1, .ref q2, .int 0])), (q1, .inl (cZ, 81, .inl (fun _ => 0))), (q2, .inl (cI, 81, .inl (fun _ => 0)))] := hD
  refine lv_aload_n hx hb d_Grid_init_20 rfl (lv_at hl 0 rfl) ?_
  refine lv_iconst (v := 0) hx hb d_Grid_init_21 (by decide) ?_
  refine va_put (D := (dC, dI)) (ci := 1) (v := .int 0) (ty := .int) (C := "CaseLayout$Grid") (T := T_Grid) (N := 5) hx hb hts iw_Grid ty_Grid tk_Grid tn_Grid hown hK hP hD hS 0 rfl rfl 4 (by decide) (hts _ gw_51) (fun _ h9 => h9) rfl (by decide +kernel) rfl rfl (Nat.le_of_ble_eq_true rfl) d_Grid_init_22 (fun H locs hP hD hS => ?_)
  have hP : va_P (dC, dI) gx_cl [(h0, .inr (1, [.int 0, .int 0, .ref q1, .ref q2, .int 0])), (q1, .inl (cZ, 81, .inl (fun _ => 0))), (q2, .inl (cI, 81, .inl (fun _ => 0)))] H := hP
  have hD : va_D A [(h0, .inr (1, [.int 0, .int 0, .ref q1, .ref q2, .int 0])), (q1, .inl (cZ, 81, .inl (fun _ => 0))), (q2, .inl (cI, 81, .inl (fun _ => 0)))] := hD
  refine lv_aload_n hx hb d_Grid_init_25 rfl (lv_at hl 0 rfl) ?_
  refine lv_iload_n hx hb d_Grid_init_26 rfl (lv_at hl 1 rfl) ?_
  refine va_putF (D := (dC, dI)) (ci := 1) (v := .int a0) (ty := .int) (C := "CaseLayout$Grid") (T := T_Grid) (N := 5) hx hb hts iw_Grid ty_Grid tk_Grid tn_Grid hown hK hP hD hS 0 rfl rfl 0 (by decide) (hts _ gw_42) (fun _ h9 => h9) rfl hin rfl (by decide +kernel) rfl rfl (Nat.le_of_ble_eq_true rfl) d_Grid_init_27 (fun H locs hP hD hS => ?_)
  have hP : va_P (dC, dI) gx_cl [(h0, .inr (1, [.int a0, .int 0, .ref q1, .ref q2, .int 0])), (q1, .inl (cZ, 81, .inl (fun _ => 0))), (q2, .inl (cI, 81, .inl (fun _ => 0)))] H := hP
  have hD : va_D A [(h0, .inr (1, [.int a0, .int 0, .ref q1, .ref q2, .int 0])), (q1, .inl (cZ, 81, .inl (fun _ => 0))), (q2, .inl (cI, 81, .inl (fun _ => 0)))] := hD
  refine lv_aload_n hx hb d_Grid_init_30 rfl (lv_at hl 0 rfl) ?_
  refine lv_iload_n hx hb d_Grid_init_31 rfl (lv_at hl 2 rfl) ?_
  refine va_putF (D := (dC, dI)) (ci := 1) (v := .int a1) (ty := .int) (C := "CaseLayout$Grid") (T := T_Grid) (N := 5) hx hb hts iw_Grid ty_Grid tk_Grid tn_Grid hown hK hP hD hS 0 rfl rfl 1 (by decide) (hts _ gw_44) (fun _ h9 => h9) rfl hin rfl (by decide +kernel) rfl rfl (Nat.le_of_ble_eq_true rfl) d_Grid_init_32 (fun H locs hP hD hS => ?_)
  have hP : va_P (dC, dI) gx_cl [(h0, .inr (1, [.int a0, .int a1, .ref q1, .ref q2, .int 0])), (q1, .inl (cZ, 81, .inl (fun _ => 0))), (q2, .inl (cI, 81, .inl (fun _ => 0)))] H := hP
  have hD : va_D A [(h0, .inr (1, [.int a0, .int a1, .ref q1, .ref q2, .int 0])), (q1, .inl (cZ, 81, .inl (fun _ => 0))), (q2, .inl (cI, 81, .inl (fun _ => 0)))] := hD
  exact W.vret hx hb hr (fun t ht hW => ⟨⟨(q1, q2), rfl, trivial, by subst ht; exact hP, hD⟩, hS.F ht⟩) hS.2.2 d_Grid_init_35

abbrev at_Things (dC : Nat → ClassId) (dI : Nat → Nat → Nat) (cI cZ cL : ClassId) (A : Nat → Prop) (h0 : Nat)  (u : Nat × Nat × Nat × Nat × Nat) (t : State) : Prop := va_P (dC, dI) gx_cl [(h0, .inr (2, [.ref u.1, .ref u.2.1, .ref u.2.2.1, .ref u.2.2.2.1, .ref u.2.2.2.2, .int 0])), (u.1, .inl (cI, 7, .inl (fun _ => 0))), (u.2.1, .inl (cI, 7, .inl (fun _ => 0))), (u.2.2.1, .inl (cI, 7, .inl (fun _ => 0))), (u.2.2.2.1, .inl (cI, 49, .inl (fun _ => 0))), (u.2.2.2.2, .inl (cI, 49, .inl (fun _ => 0)))] t.heap ∧ va_D A [(h0, .inr (2, [.ref u.1, .ref u.2.1, .ref u.2.2.1, .ref u.2.2.2.1, .ref u.2.2.2.2, .int 0])), (u.1, .inl (cI, 7, .inl (fun _ => 0))), (u.2.1, .inl (cI, 7, .inl (fun _ => 0))), (u.2.2.1, .inl (cI, 7, .inl (fun _ => 0))), (u.2.2.2.1, .inl (cI, 49, .inl (fun _ => 0))), (u.2.2.2.2, .inl (cI, 49, .inl (fun _ => 0)))]
abbrev rmi_Things : Room := { frames := 1, cells := 5, slots := 119, locals := 12 }
set_option maxHeartbeats 4000000 in
set_option maxRecDepth 100000 in
theorem ci_Things (l : Launch) (dC : Nat → ClassId) (dI : Nat → Nat → Nat) (cI cZ cL : ClassId) (h0 sz : Nat)  : Met l y_Things_init (.code y_Things_init prog_8_method_1_code 1 none :: gx_T) rmi_Things (ct_Pre dC dI cI cZ cL [.ref h0] [(h0, .inr (2, [.null, .null, .null, .null, .null, .int 0]))] sz) (va_Qv (fun _ : Nat × Nat × Nat × Nat × Nat => True) (at_Things dC dI cI cZ cL (va_A [(h0, .inr (2, [.null, .null, .null, .null, .null, .int 0]))] sz) h0 ) (va_A [(h0, .inr (2, [.null, .null, .null, .null, .null, .int 0]))] sz)) 5 119 (va_A [(h0, .inr (2, [.null, .null, .null, .null, .null, .int 0]))] sz) := by
  refine Met.ofW (cc := prog_8_method_1_code) (maxL := 1) (ret := none) (by decide) rfl ?_
  intro p e s m args below meth c s₁ B hml hv
  obtain ⟨rfl, hsz, hP, hK, hN, hD0⟩ := hv
  have hx := B.exec
  have hb := B.bytes
  have hr := B.returns
  have hts0 := atoms_spec (ws := .code y_Things_init prog_8_method_1_code 1 none :: gx_T) B.pre
  have hts : ∀ w ∈ gx_T, w.before ([.ref h0] : List Value).toArray s = true := fun w h => hts0 w (List.mem_cons_of_mem _ h)
  have hown : s.vm.findClass "CaseLayout$Things" = some m.cls := findClass_of_methodNamed B.named
  have hlocks := B.notSynchronized
  have hin : meth.name = "<init>" := (name_of_methodNamed B.named B.method).1
  subst hsz
  have hD := hD0.self (sz := s.heap.size)
  generalize hAe : va_A [(h0, .inr (2, [.null, .null, .null, .null, .null, .int 0]))] s.heap.size = A at hD ⊢
  have hA : ∀ q : Nat, s.heap.size ≤ q → A q := fun q h => by rw [← hAe]; exact Or.inr h
  have hS : va_S A s.heap s.heap [] := va_S.rf
  have hl := lv_entry ([.ref h0]) (n := 1) (Nat.le_of_ble_eq_true rfl)
  rw [lg_entry_eq]
  generalize (lg_sl ([.ref h0]) ++ List.replicate (1 - (lg_sl ([.ref h0])).length) Slot.unset).toArray = ls at hl ⊢
  have hl : lv_has ls 1 [(0, .ref h0)] := hl
  refine lv_aload_n hx hb d_Things_init_0 rfl (lv_at hl 0 rfl) ?_
  refine W.objInit hx hb hown (hts _ gw_71) (hts _ gw_25) (hts _ gw_26) rfl (by rw [hml]; exact hl.1) rfl d_Things_init_1 (Nat.le_of_ble_eq_true rfl) (Nat.le_of_ble_eq_true rfl) ?_
  refine W.eq (g2 := F0 m 4 ls []) rfl ?_
  refine lv_aload_n hx hb d_Things_init_4 rfl (lv_at hl 0 rfl) ?_
  refine lv_bipush (v := 7) hx hb d_Things_init_5 (by decide) ?_
  refine va_newa (atype := .int) (ty := .int) (N' := 7) (a0 := (7, .inl (fun _ => 0))) hx hb (hts _ gw_65) rfl hK hP hD hS hA (fun _ => rfl) (by decide) (by decide) (by decide) (Nat.le_of_ble_eq_true rfl) (Nat.le_of_ble_eq_true rfl) d_Things_init_7 (fun q1 cq1 H hK1 hP hD hS => ?_)
  have ec := (ct_id hK1 0 rfl rfl).symm
  subst ec
  have hP : va_P (dC, dI) gx_cl [(h0, .inr (2, [.null, .null, .null, .null, .null, .int 0])), (q1, .inl (cI, 7, .inl (fun _ => 0)))] H := hP
  have hD : va_D A [(h0, .inr (2, [.null, .null, .null, .null, .null, .int 0])), (q1, .inl (cI, 7, .inl (fun _ => 0)))] := hD
  refine W.widen (k := 1) (n := 7) (Nat.le_refl _) (Nat.le_refl _) ?_
  refine va_putF (D := (dC, dI)) (ci := 2) (v := .ref q1) (ty := .array .int) (C := "CaseLayout$Things") (T := T_Things) (N := 6) hx hb hts iw_Things ty_Things tk_Things tn_Things hown hK hP hD hS 0 rfl rfl 0 (by decide) (hts _ gw_72) (fun _ h9 => h9) rfl hin rfl (by decide +kernel) rfl rfl (Nat.le_of_ble_eq_true rfl) d_Things_init_9 (fun H locs hP hD hS => ?_)
  have hP : va_P (dC, dI) gx_cl [(h0, .inr (2, [.ref q1, .null, .null, .null, .null, .int 0])), (q1, .inl (cI, 7, .inl (fun _ => 0)))] H := hP
  have hD : va_D A [(h0, .inr (2, [.ref q1, .null, .null, .null, .null, .int 0])), (q1, .inl (cI, 7, .inl (fun _ => 0)))] := hD
  refine lv_aload_n hx hb d_Things_init_12 rfl (lv_at hl 0 rfl) ?_
  refine lv_bipush (v := 7) hx hb d_Things_init_13 (by decide) ?_
  refine va_newa (atype := .int) (ty := .int) (N' := 7) (a0 := (7, .inl (fun _ => 0))) hx hb (hts _ gw_65) rfl hK hP hD hS hA (fun _ => rfl) (by decide) (by decide) (by decide) (Nat.le_of_ble_eq_true rfl) (Nat.le_of_ble_eq_true rfl) d_Things_init_15 (fun q2 cq2 H hK1 hP hD hS => ?_)
  have ec := (ct_id hK1 0 rfl rfl).symm
  subst ec
  have hP : va_P (dC, dI) gx_cl [(h0, .inr (2, [.ref q1, .null, .null, .null, .null, .int 0])), (q1, .inl (cI, 7, .inl (fun _ => 0))), (q2, .inl (cI, 7, .inl (fun _ => 0)))] H := hP
  have hD : va_D A [(h0, .inr (2, [.ref q1, .null, .null, .null, .null, .int 0])), (q1, .inl (cI, 7, .inl (fun _ => 0))), (q2, .inl (cI, 7, .inl (fun _ => 0)))] := hD
  refine W.widen (k := 2) (n := 14) (Nat.le_refl _) (Nat.le_refl _) ?_
  refine va_putF (D := (dC, dI)) (ci := 2) (v := .ref q2) (ty := .array .int) (C := "CaseLayout$Things") (T := T_Things) (N := 6) hx hb hts iw_Things ty_Things tk_Things tn_Things hown hK hP hD hS 0 rfl rfl 1 (by decide) (hts _ gw_76) (fun _ h9 => h9) rfl hin rfl (by decide +kernel) rfl rfl (Nat.le_of_ble_eq_true rfl) d_Things_init_17 (fun H locs hP hD hS => ?_)
  have hP : va_P (dC, dI) gx_cl [(h0, .inr (2, [.ref q1, .ref q2, .null, .null, .null, .int 0])), (q1, .inl (cI, 7, .inl (fun _ => 0))), (q2, .inl (cI, 7, .inl (fun _ => 0)))] H := hP
  have hD : va_D A [(h0, .inr (2, [.ref q1, .ref q2, .null, .null, .null, .int 0])), (q1, .inl (cI, 7, .inl (fun _ => 0))), (q2, .inl (cI, 7, .inl (fun _ => 0)))] := hD
  refine lv_aload_n hx hb d_Things_init_20 rfl (lv_at hl 0 rfl) ?_
  refine lv_bipush (v := 7) hx hb d_Things_init_21 (by decide) ?_
  refine va_newa (atype := .int) (ty := .int) (N' := 7) (a0 := (7, .inl (fun _ => 0))) hx hb (hts _ gw_65) rfl hK hP hD hS hA (fun _ => rfl) (by decide) (by decide) (by decide) (Nat.le_of_ble_eq_true rfl) (Nat.le_of_ble_eq_true rfl) d_Things_init_23 (fun q3 cq3 H hK1 hP hD hS => ?_)
  have ec := (ct_id hK1 0 rfl rfl).symm
  subst ec
  have hP : va_P (dC, dI) gx_cl [(h0, .inr (2, [.ref q1, .ref q2, .null, .null, .null, .int 0])), (q1, .inl (cI, 7, .inl (fun _ => 0))), (q2, .inl (cI, 7, .inl (fun _ => 0))), (q3, .inl (cI, 7, .inl (fun _ => 0)))] H := hP
  have hD : va_D A [(h0, .inr (2, [.ref q1, .ref q2, .null, .null, .null, .int 0])), (q1, .inl (cI, 7, .inl (fun _ => 0))), (q2, .inl (cI, 7, .inl (fun _ => 0))), (q3, .inl (cI, 7, .inl (fun _ => 0)))] := hD
  refine W.widen (k := 3) (n := 21) (Nat.le_refl _) (Nat.le_refl _) ?_
  refine va_putF (D := (dC, dI)) (ci := 2) (v := .ref q3) (ty := .array .int) (C := "CaseLayout$Things") (T := T_Things) (N := 6) hx hb hts iw_Things ty_Things tk_Things tn_Things hown hK hP hD hS 0 rfl rfl 2 (by decide) (hts _ gw_80) (fun _ h9 => h9) rfl hin rfl (by decide +kernel) rfl rfl (Nat.le_of_ble_eq_true rfl) d_Things_init_25 (fun H locs hP hD hS => ?_)
  have hP : va_P (dC, dI) gx_cl [(h0, .inr (2, [.ref q1, .ref q2, .ref q3, .null, .null, .int 0])), (q1, .inl (cI, 7, .inl (fun _ => 0))), (q2, .inl (cI, 7, .inl (fun _ => 0))), (q3, .inl (cI, 7, .inl (fun _ => 0)))] H := hP
  have hD : va_D A [(h0, .inr (2, [.ref q1, .ref q2, .ref q3, .null, .null, .int 0])), (q1, .inl (cI, 7, .inl (fun _ => 0))), (q2, .inl (cI, 7, .inl (fun _ => 0))), (q3, .inl (cI, 7, .inl (fun _ => 0)))] := hD
  refine lv_aload_n hx hb d_Things_init_28 rfl (lv_at hl 0 rfl) ?_
  refine lv_bipush (v := 49) hx hb d_Things_init_29 (by decide) ?_
  refine va_newa (atype := .int) (ty := .int) (N' := 49) (a0 := (49, .inl (fun _ => 0))) hx hb (hts _ gw_65) rfl hK hP hD hS hA (fun _ => rfl) (by decide) (by decide) (by decide) (Nat.le_of_ble_eq_true rfl) (Nat.le_of_ble_eq_true rfl) d_Things_init_31 (fun q4 cq4 H hK1 hP hD hS => ?_)
  have ec := (ct_id hK1 0 rfl rfl).symm
  subst ec
  have hP : va_P (dC, dI) gx_cl [(h0, .inr (2, [.ref q1, .ref q2, .ref q3, .null, .null, .int 0])), (q1, .inl (cI, 7, .inl (fun _ => 0))), (q2, .inl (cI, 7, .inl (fun _ => 0))), (q3, .inl (cI, 7, .inl (fun _ => 0))), (q4, .inl (cI, 49, .inl (fun _ => 0)))] H := hP
  have hD : va_D A [(h0, .inr (2, [.ref q1, .ref q2, .ref q3, .null, .null, .int 0])), (q1, .inl (cI, 7, .inl (fun _ => 0))), (q2, .inl (cI, 7, .inl (fun _ => 0))), (q3, .inl (cI, 7, .inl (fun _ => 0))), (q4, .inl (cI, 49, .inl (fun _ => 0)))] := hD
  refine W.widen (k := 4) (n := 70) (Nat.le_refl _) (Nat.le_refl _) ?_
  refine va_putF (D := (dC, dI)) (ci := 2) (v := .ref q4) (ty := .array .int) (C := "CaseLayout$Things") (T := T_Things) (N := 6) hx hb hts iw_Things ty_Things tk_Things tn_Things hown hK hP hD hS 0 rfl rfl 3 (by decide) (hts _ gw_82) (fun _ h9 => h9) rfl hin rfl (by decide +kernel) rfl rfl (Nat.le_of_ble_eq_true rfl) d_Things_init_33 (fun H locs hP hD hS => ?_)
  have hP : va_P (dC, dI) gx_cl [(h0, .inr (2, [.ref q1, .ref q2, .ref q3, .ref q4, .null, .int 0])), (q1, .inl (cI, 7, .inl (fun _ => 0))), (q2, .inl (cI, 7, .inl (fun _ => 0))), (q3, .inl (cI, 7, .inl (fun _ => 0))), (q4, .inl (cI, 49, .inl (fun _ => 0)))] H := hP
  have hD : va_D A [(h0, .inr (2, [.ref q1, .ref q2, .ref q3, .ref q4, .null, .int 0])), (q1, .inl (cI, 7, .inl (fun _ => 0))), (q2, .inl (cI, 7, .inl (fun _ => 0))), (q3, .inl (cI, 7, .inl (fun _ => 0))), (q4, .inl (cI, 49, .inl (fun _ => 0)))] := hD
  refine lv_aload_n hx hb d_Things_init_36 rfl (lv_at hl 0 rfl) ?_
  refine lv_bipush (v := 49) hx hb d_Things_init_37 (by decide) ?_
  refine va_newa (atype := .int) (ty := .int) (N' := 49) (a0 := (49, .inl (fun _ => 0))) hx hb (hts _ gw_65) rfl hK hP hD hS hA (fun _ => rfl) (by decide) (by decide) (by decide) (Nat.le_of_ble_eq_true rfl) (Nat.le_of_ble_eq_true rfl) d_Things_init_39 (fun q5 cq5 H hK1 hP hD hS => ?_)
  have ec := (ct_id hK1 0 rfl rfl).symm
  subst ec
  have hP : va_P (dC, dI) gx_cl [(h0, .inr (2, [.ref q1, .ref q2, .ref q3, .ref q4, .null, .int 0])), (q1, .inl (cI, 7, .inl (fun _ => 0))), (q2, .inl (cI, 7, .inl (fun _ => 0))), (q3, .inl (cI, 7, .inl (fun _ => 0))), (q4, .inl (cI, 49, .inl (fun _ => 0))), (q5, .inl (cI, 49, .inl (fun _ => 0)))] H := hP
  have hD : va_D A [(h0, .inr (2, [.ref q1, .ref q2, .ref q3, .ref q4, .null, .int 0])), (q1, .inl (cI, 7, .inl (fun _ => 0))), (q2, .inl (cI, 7, .inl (fun _ => 0))), (q3, .inl (cI, 7, .inl (fun _ => 0))), (q4, .inl (cI, 49, .inl (fun _ => 0))), (q5, .inl (cI, 49, .inl (fun _ => 0)))] := hD
  refine W.widen (k := 5) (n := 119) (Nat.le_refl _) (Nat.le_refl _) ?_
  refine va_putF (D := (dC, dI)) (ci := 2) (v := .ref q5) (ty := .array .int) (C := "CaseLayout$Things") (T := T_Things) (N := 6) hx hb hts iw_Things ty_Things tk_Things tn_Things hown hK hP hD hS 0 rfl rfl 4 (by decide) (hts _ gw_85) (fun _ h9 => h9) rfl hin rfl (by decide +kernel) rfl rfl (Nat.le_of_ble_eq_true rfl) d_Things_init_41 (fun H locs hP hD hS => ?_)
  have hP : va_P (dC, dI) gx_cl [(h0, .inr (2, [.ref q1, .ref q2, .ref q3, .ref q4, .ref q5, .int 0])), (q1, .inl (cI, 7, .inl (fun _ => 0))), (q2, .inl (cI, 7, .inl (fun _ => 0))), (q3, .inl (cI, 7, .inl (fun _ => 0))), (q4, .inl (cI, 49, .inl (fun _ => 0))), (q5, .inl (cI, 49, .inl (fun _ => 0)))] H := hP
  have hD : va_D A [(h0, .inr (2, [.ref q1, .ref q2, .ref q3, .ref q4, .ref q5, .int 0])), (q1, .inl (cI, 7, .inl (fun _ => 0))), (q2, .inl (cI, 7, .inl (fun _ => 0))), (q3, .inl (cI, 7, .inl (fun _ => 0))), (q4, .inl (cI, 49, .inl (fun _ => 0))), (q5, .inl (cI, 49, .inl (fun _ => 0)))] := hD
  refine lv_aload_n hx hb d_Things_init_44 rfl (lv_at hl 0 rfl) ?_
  refine lv_iconst (v := 0) hx hb d_Things_init_45 (by decide) ?_
  refine va_put (D := (dC, dI)) (ci := 2) (v := .int 0) (ty := .int) (C := "CaseLayout$Things") (T := T_Things) (N := 6) hx hb hts iw_Things ty_Things tk_Things tn_Things hown hK hP hD hS 0 rfl rfl 5 (by decide) (hts _ gw_88) (fun _ h9 => h9) rfl (by decide +kernel) rfl rfl (Nat.le_of_ble_eq_true rfl) d_Things_init_46 (fun H locs hP hD hS => ?_)
  have hP : va_P (dC, dI) gx_cl [(h0, .inr (2, [.ref q1, .ref q2, .ref q3, .ref q4, .ref q5, .int 0])), (q1, .inl (cI, 7, .inl (fun _ => 0))), (q2, .inl (cI, 7, .inl (fun _ => 0))), (q3, .inl (cI, 7, .inl (fun _ => 0))), (q4, .inl (cI, 49, .inl (fun _ => 0))), (q5, .inl (cI, 49, .inl (fun _ => 0)))] H := hP
  have hD : va_D A [(h0, .inr (2, [.ref q1, .ref q2, .ref q3, .ref q4, .ref q5, .int 0])), (q1, .inl (cI, 7, .inl (fun _ => 0))), (q2, .inl (cI, 7, .inl (fun _ => 0))), (q3, .inl (cI, 7, .inl (fun _ => 0))), (q4, .inl (cI, 49, .inl (fun _ => 0))), (q5, .inl (cI, 49, .inl (fun _ => 0)))] := hD
  exact W.vret hx hb hr (fun t ht hW => ⟨⟨(q1, q2, q3, q4, q5), rfl, trivial, by subst ht; exact hP, hD⟩, hS.F ht⟩) hS.2.2 d_Things_init_49

abbrev at_Places (dC : Nat → ClassId) (dI : Nat → Nat → Nat) (cI cZ cL : ClassId) (A : Nat → Prop) (h0 : Nat)  (u : Nat × Nat × Nat) (t : State) : Prop := va_P (dC, dI) gx_cl [(h0, .inr (3, [.ref u.1, .ref u.2.1, .ref u.2.2, .int 0])), (u.1, .inl (cI, 8, .inl (fun _ => 0))), (u.2.1, .inl (cI, 8, .inl (fun _ => 0))), (u.2.2, .inl (cZ, 56, .inl (fun _ => 0)))] t.heap ∧ va_D A [(h0, .inr (3, [.ref u.1, .ref u.2.1, .ref u.2.2, .int 0])), (u.1, .inl (cI, 8, .inl (fun _ => 0))), (u.2.1, .inl (cI, 8, .inl (fun _ => 0))), (u.2.2, .inl (cZ, 56, .inl (fun _ => 0)))]
abbrev rmi_Places : Room := { frames := 1, cells := 3, slots := 72, locals := 12 }
set_option maxHeartbeats 4000000 in
set_option maxRecDepth 100000 in
theorem ci_Places (l : Launch) (dC : Nat → ClassId) (dI : Nat → Nat → Nat) (cI cZ cL : ClassId) (h0 sz : Nat)  : Met l y_Places_init (.code y_Places_init prog_6_method_1_code 1 none :: gx_T) rmi_Places (ct_Pre dC dI cI cZ cL [.ref h0] [(h0, .inr (3, [.null, .null, .null, .int 0]))] sz) (va_Qv (fun _ : Nat × Nat × Nat => True) (at_Places dC dI cI cZ cL (va_A [(h0, .inr (3, [.null, .null, .null, .int 0]))] sz) h0 ) (va_A [(h0, .inr (3, [.null, .null, .null, .int 0]))] sz)) 3 72 (va_A [(h0, .inr (3, [.null, .null, .null, .int 0]))] sz) := by
  refine Met.ofW (cc := prog_6_method_1_code) (maxL := 1) (ret := none) (by decide) rfl ?_
  intro p e s m args below meth c s₁ B hml hv
  obtain ⟨rfl, hsz, hP, hK, hN, hD0⟩ := hv
  have hx := B.exec
  have hb := B.bytes
  have hr := B.returns
  have hts0 := atoms_spec (ws := .code y_Places_init prog_6_method_1_code 1 none :: gx_T) B.pre
  have hts : ∀ w ∈ gx_T, w.before ([.ref h0] : List Value).toArray s = true := fun w h => hts0 w (List.mem_cons_of_mem _ h)
  have hown : s.vm.findClass "CaseLayout$Places" = some m.cls := findClass_of_methodNamed B.named
  have hlocks := B.notSynchronized
  have hin : meth.name = "<init>" := (name_of_methodNamed B.named B.method).1
  subst hsz
  have hD := hD0.self (sz := s.heap.size)
  generalize hAe : va_A [(h0, .inr (3, [.null, .null, .null, .int 0]))] s.heap.size = A at hD ⊢
  have hA : ∀ q : Nat, s.heap.size ≤ q → A q := fun q h => by rw [← hAe]; exact Or.inr h
  have hS : va_S A s.heap s.heap [] := va_S.rf
  have hl := lv_entry ([.ref h0]) (n := 1) (Nat.le_of_ble_eq_true rfl)
  rw [lg_entry_eq]
  generalize (lg_sl ([.ref h0]) ++ List.replicate (1 - (lg_sl ([.ref h0])).length) Slot.unset).toArray = ls at hl ⊢
  have hl : lv_has ls 1 [(0, .ref h0)] := hl
  refine lv_aload_n hx hb d_Places_init_0 rfl (lv_at hl 0 rfl) ?_
  refine W.objInit hx hb hown (hts _ gw_110) (hts _ gw_25) (hts _ gw_26) rfl (by rw [hml]; exact hl.1) rfl d_Places_init_1 (Nat.le_of_ble_eq_true rfl) (Nat.le_of_ble_eq_true rfl) ?_
  refine W.eq (g2 := F0 m 4 ls []) rfl ?_
  refine lv_aload_n hx hb d_Places_init_4 rfl (lv_at hl 0 rfl) ?_
  refine lv_bipush (v := 8) hx hb d_Places_init_5 (by decide) ?_
  refine va_newa (atype := .int) (ty := .int) (N' := 8) (a0 := (8, .inl (fun _ => 0))) hx hb (hts _ gw_65) rfl hK hP hD hS hA (fun _ => rfl) (by decide) (by decide) (by decide) (Nat.le_of_ble_eq_true rfl) (Nat.le_of_ble_eq_true rfl) d_Places_init_7 (fun q1 cq1 H hK1 hP hD hS => ?_)
  have ec := (ct_id hK1 0 rfl rfl).symm
  subst ec
  have hP : va_P (dC, dI) gx_cl [(h0, .inr (3, [.null, .null, .null, .int 0])), (q1, .inl (cI, 8, .inl (fun _ => 0)))] H := hP
  have hD : va_D A [(h0, .inr (3, [.null, .null, .null, .int 0])), (q1, .inl (cI, 8, .inl (fun _ => 0)))] := hD
  refine W.widen (k := 1) (n := 8) (Nat.le_refl _) (Nat.le_refl _) ?_
  refine va_putF (D := (dC, dI)) (ci := 3) (v := .ref q1) (ty := .array .int) (C := "CaseLayout$Places") (T := T_Places) (N := 4) hx hb hts iw_Places ty_Places tk_Places tn_Places hown hK hP hD hS 0 rfl rfl 0 (by decide) (hts _ gw_111) (fun _ h9 => h9) rfl hin rfl (by decide +kernel) rfl rfl (Nat.le_of_ble_eq_true rfl) d_Places_init_9 (fun H locs hP hD hS => ?_)
  have hP : va_P (dC, dI) gx_cl [(h0, .inr (3, [.ref q1, .null, .null, .int 0])), (q1, .inl (cI, 8, .inl (fun _ => 0)))] H := hP
  have hD : va_D A [(h0, .inr (3, [.ref q1, .null, .null, .int 0])), (q1, .inl (cI, 8, .inl (fun _ => 0)))] := hD
  refine lv_aload_n hx hb d_Places_init_12 rfl (lv_at hl 0 rfl) ?_
  refine lv_bipush (v := 8) hx hb d_Places_init_13 (by decide) ?_
  refine va_newa (atype := .int) (ty := .int) (N' := 8) (a0 := (8, .inl (fun _ => 0))) hx hb (hts _ gw_65) rfl hK hP hD hS hA (fun _ => rfl) (by decide) (by decide) (by decide) (Nat.le_of_ble_eq_true rfl) (Nat.le_of_ble_eq_true rfl) d_Places_init_15 (fun q2 cq2 H hK1 hP hD hS => ?_)
  have ec := (ct_id hK1 0 rfl rfl).symm
  subst ec
  have hP : va_P (dC, dI) gx_cl [(h0, .inr (3, [.ref q1, .null, .null, .int 0])), (q1, .inl (cI, 8, .inl (fun _ => 0))), (q2, .inl (cI, 8, .inl (fun _ => 0)))] H := hP
  have hD : va_D A [(h0, .inr (3, [.ref q1, .null, .null, .int 0])), (q1, .inl (cI, 8, .inl (fun _ => 0))), (q2, .inl (cI, 8, .inl (fun _ => 0)))] := hD
  refine W.widen (k := 2) (n := 16) (Nat.le_refl _) (Nat.le_refl _) ?_
  refine va_putF (D := (dC, dI)) (ci := 3) (v := .ref q2) (ty := .array .int) (C := "CaseLayout$Places") (T := T_Places) (N := 4) hx hb hts iw_Places ty_Places tk_Places tn_Places hown hK hP hD hS 0 rfl rfl 1 (by decide) (hts _ gw_114) (fun _ h9 => h9) rfl hin rfl (by decide +kernel) rfl rfl (Nat.le_of_ble_eq_true rfl) d_Places_init_17 (fun H locs hP hD hS => ?_)
  have hP : va_P (dC, dI) gx_cl [(h0, .inr (3, [.ref q1, .ref q2, .null, .int 0])), (q1, .inl (cI, 8, .inl (fun _ => 0))), (q2, .inl (cI, 8, .inl (fun _ => 0)))] H := hP
  have hD : va_D A [(h0, .inr (3, [.ref q1, .ref q2, .null, .int 0])), (q1, .inl (cI, 8, .inl (fun _ => 0))), (q2, .inl (cI, 8, .inl (fun _ => 0)))] := hD
  refine lv_aload_n hx hb d_Places_init_20 rfl (lv_at hl 0 rfl) ?_
  refine lv_bipush (v := 56) hx hb d_Places_init_21 (by decide) ?_
  refine va_newa (atype := .boolean) (ty := .boolean) (N' := 56) (a0 := (56, .inl (fun _ => 0))) hx hb (hts _ gw_64) rfl hK hP hD hS hA (fun _ => rfl) (by decide) (by decide) (by decide) (Nat.le_of_ble_eq_true rfl) (Nat.le_of_ble_eq_true rfl) d_Places_init_23 (fun q3 cq3 H hK1 hP hD hS => ?_)
  have ec := (ct_id hK1 1 rfl rfl).symm
  subst ec
  have hP : va_P (dC, dI) gx_cl [(h0, .inr (3, [.ref q1, .ref q2, .null, .int 0])), (q1, .inl (cI, 8, .inl (fun _ => 0))), (q2, .inl (cI, 8, .inl (fun _ => 0))), (q3, .inl (cZ, 56, .inl (fun _ => 0)))] H := hP
  have hD : va_D A [(h0, .inr (3, [.ref q1, .ref q2, .null, .int 0])), (q1, .inl (cI, 8, .inl (fun _ => 0))), (q2, .inl (cI, 8, .inl (fun _ => 0))), (q3, .inl (cZ, 56, .inl (fun _ => 0)))] := hD
  refine W.widen (k := 3) (n := 72) (Nat.le_refl _) (Nat.le_refl _) ?_
  refine va_putF (D := (dC, dI)) (ci := 3) (v := .ref q3) (ty := .array .boolean) (C := "CaseLayout$Places") (T := T_Places) (N := 4) hx hb hts iw_Places ty_Places tk_Places tn_Places hown hK hP hD hS 0 rfl rfl 2 (by decide) (hts _ gw_117) (fun _ h9 => h9) rfl hin rfl (by decide +kernel) rfl rfl (Nat.le_of_ble_eq_true rfl) d_Places_init_25 (fun H locs hP hD hS => ?_)
  have hP : va_P (dC, dI) gx_cl [(h0, .inr (3, [.ref q1, .ref q2, .ref q3, .int 0])), (q1, .inl (cI, 8, .inl (fun _ => 0))), (q2, .inl (cI, 8, .inl (fun _ => 0))), (q3, .inl (cZ, 56, .inl (fun _ => 0)))] H := hP
  have hD : va_D A [(h0, .inr (3, [.ref q1, .ref q2, .ref q3, .int 0])), (q1, .inl (cI, 8, .inl (fun _ => 0))), (q2, .inl (cI, 8, .inl (fun _ => 0))), (q3, .inl (cZ, 56, .inl (fun _ => 0)))] := hD
  refine lv_aload_n hx hb d_Places_init_28 rfl (lv_at hl 0 rfl) ?_
  refine lv_iconst (v := 0) hx hb d_Places_init_29 (by decide) ?_
  refine va_put (D := (dC, dI)) (ci := 3) (v := .int 0) (ty := .int) (C := "CaseLayout$Places") (T := T_Places) (N := 4) hx hb hts iw_Places ty_Places tk_Places tn_Places hown hK hP hD hS 0 rfl rfl 3 (by decide) (hts _ gw_120) (fun _ h9 => h9) rfl (by decide +kernel) rfl rfl (Nat.le_of_ble_eq_true rfl) d_Places_init_30 (fun H locs hP hD hS => ?_)
  have hP : va_P (dC, dI) gx_cl [(h0, .inr (3, [.ref q1, .ref q2, .ref q3, .int 0])), (q1, .inl (cI, 8, .inl (fun _ => 0))), (q2, .inl (cI, 8, .inl (fun _ => 0))), (q3, .inl (cZ, 56, .inl (fun _ => 0)))] H := hP
  have hD : va_D A [(h0, .inr (3, [.ref q1, .ref q2, .ref q3, .int 0])), (q1, .inl (cI, 8, .inl (fun _ => 0))), (q2, .inl (cI, 8, .inl (fun _ => 0))), (q3, .inl (cZ, 56, .inl (fun _ => 0)))] := hD
  exact W.vret hx hb hr (fun t ht hW => ⟨⟨(q1, q2, q3), rfl, trivial, by subst ht; exact hP, hD⟩, hS.F ht⟩) hS.2.2 d_Places_init_33

abbrev at_Exits (dC : Nat → ClassId) (dI : Nat → Nat → Nat) (cI cZ cL : ClassId) (A : Nat → Prop) (h0 : Nat)  (u : Nat) (t : State) : Prop := va_P (dC, dI) gx_cl [(h0, .inr (4, [.ref u, .int 0, .int 99])), (u, .inl (cI, 6, .inl (fun _ => 0)))] t.heap ∧ va_D A [(h0, .inr (4, [.ref u, .int 0, .int 99])), (u, .inl (cI, 6, .inl (fun _ => 0)))]
abbrev rmi_Exits : Room := { frames := 1, cells := 1, slots := 6, locals := 12 }
set_option maxHeartbeats 4000000 in
set_option maxRecDepth 100000 in
theorem ci_Exits (l : Launch) (dC : Nat → ClassId) (dI : Nat → Nat → Nat) (cI cZ cL : ClassId) (h0 sz : Nat)  : Met l y_Exits_init (.code y_Exits_init prog_2_method_1_code 1 none :: gx_T) rmi_Exits (ct_Pre dC dI cI cZ cL [.ref h0] [(h0, .inr (4, [.null, .int 0, .int 0]))] sz) (va_Qv (fun _ : Nat => True) (at_Exits dC dI cI cZ cL (va_A [(h0, .inr (4, [.null, .int 0, .int 0]))] sz) h0 ) (va_A [(h0, .inr (4, [.null, .int 0, .int 0]))] sz)) 1 6 (va_A [(h0, .inr (4, [.null, .int 0, .int 0]))] sz) := by
  refine Met.ofW (cc := prog_2_method_1_code) (maxL := 1) (ret := none) (by decide) rfl ?_
  intro p e s m args below meth c s₁ B hml hv
  obtain ⟨rfl, hsz, hP, hK, hN, hD0⟩ := hv
  have hx := B.exec
  have hb := B.bytes
  have hr := B.returns
  have hts0 := atoms_spec (ws := .code y_Exits_init prog_2_method_1_code 1 none :: gx_T) B.pre
  have hts : ∀ w ∈ gx_T, w.before ([.ref h0] : List Value).toArray s = true := fun w h => hts0 w (List.mem_cons_of_mem _ h)
  have hown : s.vm.findClass "CaseLayout$Exits" = some m.cls := findClass_of_methodNamed B.named
  have hlocks := B.notSynchronized
  have hin : meth.name = "<init>" := (name_of_methodNamed B.named B.method).1
  subst hsz
  have hD := hD0.self (sz := s.heap.size)
  generalize hAe : va_A [(h0, .inr (4, [.null, .int 0, .int 0]))] s.heap.size = A at hD ⊢
  have hA : ∀ q : Nat, s.heap.size ≤ q → A q := fun q h => by rw [← hAe]; exact Or.inr h
  have hS : va_S A s.heap s.heap [] := va_S.rf
  have hl := lv_entry ([.ref h0]) (n := 1) (Nat.le_of_ble_eq_true rfl)
  rw [lg_entry_eq]
  generalize (lg_sl ([.ref h0]) ++ List.replicate (1 - (lg_sl ([.ref h0])).length) Slot.unset).toArray = ls at hl ⊢
  have hl : lv_has ls 1 [(0, .ref h0)] := hl
  refine lv_aload_n hx hb d_Exits_init_0 rfl (lv_at hl 0 rfl) ?_
  refine W.objInit hx hb hown (hts _ gw_137) (hts _ gw_25) (hts _ gw_26) rfl (by rw [hml]; exact hl.1) rfl d_Exits_init_1 (Nat.le_of_ble_eq_true rfl) (Nat.le_of_ble_eq_true rfl) ?_
  refine W.eq (g2 := F0 m 4 ls []) rfl ?_
  refine lv_aload_n hx hb d_Exits_init_4 rfl (lv_at hl 0 rfl) ?_
  refine lv_bipush (v := 6) hx hb d_Exits_init_5 (by decide) ?_
  refine va_newa (atype := .int) (ty := .int) (N' := 6) (a0 := (6, .inl (fun _ => 0))) hx hb (hts _ gw_65) rfl hK hP hD hS hA (fun _ => rfl) (by decide) (by decide) (by decide) (Nat.le_of_ble_eq_true rfl) (Nat.le_of_ble_eq_true rfl) d_Exits_init_7 (fun q1 cq1 H hK1 hP hD hS => ?_)
  have ec := (ct_id hK1 0 rfl rfl).symm
  subst ec
  have hP : va_P (dC, dI) gx_cl [(h0, .inr (4, [.null, .int 0, .int 0])), (q1, .inl (cI, 6, .inl (fun _ => 0)))] H := hP
  have hD : va_D A [(h0, .inr (4, [.null, .int 0, .int 0])), (q1, .inl (cI, 6, .inl (fun _ => 0)))] := hD
  refine W.widen (k := 1) (n := 6) (Nat.le_refl _) (Nat.le_refl _) ?_
  refine va_putF (D := (dC, dI)) (ci := 4) (v := .ref q1) (ty := .array .int) (C := "CaseLayout$Exits") (T := T_Exits) (N := 3) hx hb hts iw_Exits ty_Exits tk_Exits tn_Exits hown hK hP hD hS 0 rfl rfl 0 (by decide) (hts _ gw_138) (fun _ h9 => h9) rfl hin rfl (by decide +kernel) rfl rfl (Nat.le_of_ble_eq_true rfl) d_Exits_init_9 (fun H locs hP hD hS => ?_)
  have hP : va_P (dC, dI) gx_cl [(h0, .inr (4, [.ref q1, .int 0, .int 0])), (q1, .inl (cI, 6, .inl (fun _ => 0)))] H := hP
  have hD : va_D A [(h0, .inr (4, [.ref q1, .int 0, .int 0])), (q1, .inl (cI, 6, .inl (fun _ => 0)))] := hD
  refine lv_aload_n hx hb d_Exits_init_12 rfl (lv_at hl 0 rfl) ?_
  refine lv_iconst (v := 0) hx hb d_Exits_init_13 (by decide) ?_
  refine va_put (D := (dC, dI)) (ci := 4) (v := .int 0) (ty := .int) (C := "CaseLayout$Exits") (T := T_Exits) (N := 3) hx hb hts iw_Exits ty_Exits tk_Exits tn_Exits hown hK hP hD hS 0 rfl rfl 1 (by decide) (hts _ gw_140) (fun _ h9 => h9) rfl (by decide +kernel) rfl rfl (Nat.le_of_ble_eq_true rfl) d_Exits_init_14 (fun H locs hP hD hS => ?_)
  have hP : va_P (dC, dI) gx_cl [(h0, .inr (4, [.ref q1, .int 0, .int 0])), (q1, .inl (cI, 6, .inl (fun _ => 0)))] H := hP
  have hD : va_D A [(h0, .inr (4, [.ref q1, .int 0, .int 0])), (q1, .inl (cI, 6, .inl (fun _ => 0)))] := hD
  refine lv_aload_n hx hb d_Exits_init_17 rfl (lv_at hl 0 rfl) ?_
  refine lv_bipush (v := 99) hx hb d_Exits_init_18 (by decide) ?_
  refine va_put (D := (dC, dI)) (ci := 4) (v := .int 99) (ty := .int) (C := "CaseLayout$Exits") (T := T_Exits) (N := 3) hx hb hts iw_Exits ty_Exits tk_Exits tn_Exits hown hK hP hD hS 0 rfl rfl 2 (by decide) (hts _ gw_144) (fun _ h9 => h9) rfl (by decide +kernel) rfl rfl (Nat.le_of_ble_eq_true rfl) d_Exits_init_20 (fun H locs hP hD hS => ?_)
  have hP : va_P (dC, dI) gx_cl [(h0, .inr (4, [.ref q1, .int 0, .int 99])), (q1, .inl (cI, 6, .inl (fun _ => 0)))] H := hP
  have hD : va_D A [(h0, .inr (4, [.ref q1, .int 0, .int 99])), (q1, .inl (cI, 6, .inl (fun _ => 0)))] := hD
  exact W.vret hx hb hr (fun t ht hW => ⟨⟨(q1), rfl, trivial, by subst ht; exact hP, hD⟩, hS.F ht⟩) hS.2.2 d_Exits_init_23

abbrev at_Floor (dC : Nat → ClassId) (dI : Nat → Nat → Nat) (cI cZ cL : ClassId) (A : Nat → Prop) (h0 : Nat) (b0 : Nat) (u : Nat × Nat × Nat) (t : State) : Prop := va_P (dC, dI) gx_cl [(h0, .inr (5, [.ref b0, .ref u.1, .ref u.2.1, .ref u.2.2, .int 0])), (u.1, .inl (cI, 81, .inl (fun _ => 0))), (u.2.1, .inl (cI, 81, .inl (fun _ => 0))), (u.2.2, .inl (cI, 81, .inl (fun _ => 0)))] t.heap ∧ va_D A [(h0, .inr (5, [.ref b0, .ref u.1, .ref u.2.1, .ref u.2.2, .int 0])), (u.1, .inl (cI, 81, .inl (fun _ => 0))), (u.2.1, .inl (cI, 81, .inl (fun _ => 0))), (u.2.2, .inl (cI, 81, .inl (fun _ => 0)))]
abbrev rmi_Floor : Room := { frames := 1, cells := 3, slots := 243, locals := 12 }
set_option maxHeartbeats 4000000 in
set_option maxRecDepth 100000 in
theorem ci_Floor (l : Launch) (dC : Nat → ClassId) (dI : Nat → Nat → Nat) (cI cZ cL : ClassId) (h0 sz : Nat) (b0 : Nat) : Met l y_Floor_init (.code y_Floor_init prog_3_method_1_code 2 none :: gx_T) rmi_Floor (ct_Pre dC dI cI cZ cL [.ref h0, .ref b0] [(h0, .inr (5, [.null, .null, .null, .null, .int 0]))] sz) (va_Qv (fun _ : Nat × Nat × Nat => True) (at_Floor dC dI cI cZ cL (va_A [(h0, .inr (5, [.null, .null, .null, .null, .int 0]))] sz) h0 b0) (va_A [(h0, .inr (5, [.null, .null, .null, .null, .int 0]))] sz)) 3 243 (va_A [(h0, .inr (5, [.null, .null, .null, .null, .int 0]))] sz) := by
  refine Met.ofW (cc := prog_3_method_1_code) (maxL := 2) (ret := none) (by decide) rfl ?_
  intro p e s m args below meth c s₁ B hml hv
  obtain ⟨rfl, hsz, hP, hK, hN, hD0⟩ := hv
  have hx := B.exec
  have hb := B.bytes
  have hr := B.returns
  have hts0 := atoms_spec (ws := .code y_Floor_init prog_3_method_1_code 2 none :: gx_T) B.pre
  have hts : ∀ w ∈ gx_T, w.before ([.ref h0, .ref b0] : List Value).toArray s = true := fun w h => hts0 w (List.mem_cons_of_mem _ h)
  have hown : s.vm.findClass "CaseLayout$Floor" = some m.cls := findClass_of_methodNamed B.named
  have hlocks := B.notSynchronized
  have hin : meth.name = "<init>" := (name_of_methodNamed B.named B.method).1
  subst hsz
  have hD := hD0.self (sz := s.heap.size)
  generalize hAe : va_A [(h0, .inr (5, [.null, .null, .null, .null, .int 0]))] s.heap.size = A at hD ⊢
  have hA : ∀ q : Nat, s.heap.size ≤ q → A q := fun q h => by rw [← hAe]; exact Or.inr h
  have hS : va_S A s.heap s.heap [] := va_S.rf
  have hl := lv_entry ([.ref h0, .ref b0]) (n := 2) (Nat.le_of_ble_eq_true rfl)
  rw [lg_entry_eq]
  generalize (lg_sl ([.ref h0, .ref b0]) ++ List.replicate (2 - (lg_sl ([.ref h0, .ref b0])).length) Slot.unset).toArray = ls at hl ⊢
  have hl : lv_has ls 2 [(0, .ref h0), (1, .ref b0)] := hl
  refine lv_aload_n hx hb d_Floor_init_0 rfl (lv_at hl 0 rfl) ?_
  refine W.objInit hx hb hown (hts _ gw_159) (hts _ gw_25) (hts _ gw_26) rfl (by rw [hml]; exact hl.1) rfl d_Floor_init_1 (Nat.le_of_ble_eq_true rfl) (Nat.le_of_ble_eq_true rfl) ?_
  refine W.eq (g2 := F0 m 4 ls []) rfl ?_
  refine lv_aload_n hx hb d_Floor_init_4 rfl (lv_at hl 0 rfl) ?_
  refine lv_bipush (v := 81) hx hb d_Floor_init_5 (by decide) ?_
  refine va_newa (atype := .int) (ty := .int) (N' := 81) (a0 := (81, .inl (fun _ => 0))) hx hb (hts _ gw_65) rfl hK hP hD hS hA (fun _ => rfl) (by decide) (by decide) (by decide) (Nat.le_of_ble_eq_true rfl) (Nat.le_of_ble_eq_true rfl) d_Floor_init_7 (fun q1 cq1 H hK1 hP hD hS => ?_)
  have ec := (ct_id hK1 0 rfl rfl).symm
  subst ec
  have hP : va_P (dC, dI) gx_cl [(h0, .inr (5, [.null, .null, .null, .null, .int 0])), (q1, .inl (cI, 81, .inl (fun _ => 0)))] H := hP
  have hD : va_D A [(h0, .inr (5, [.null, .null, .null, .null, .int 0])), (q1, .inl (cI, 81, .inl (fun _ => 0)))] := hD
  refine W.widen (k := 1) (n := 81) (Nat.le_refl _) (Nat.le_refl _) ?_
  refine va_putF (D := (dC, dI)) (ci := 5) (v := .ref q1) (ty := .array .int) (C := "CaseLayout$Floor") (T := T_Floor) (N := 5) hx hb hts iw_Floor ty_Floor tk_Floor tn_Floor hown hK hP hD hS 0 rfl rfl 1 (by decide) (hts _ gw_161) (fun _ h9 => h9) rfl hin rfl (by decide +kernel) rfl rfl (Nat.le_of_ble_eq_true rfl) d_Floor_init_9 (fun H locs hP hD hS => ?_)
  have hP : va_P (dC, dI) gx_cl [(h0, .inr (5, [.null, .ref q1, .null, .null, .int 0])), (q1, .inl (cI, 81, .inl (fun _ => 0)))] H := hP
  have hD : va_D A [(h0, .inr (5, [.null, .ref q1, .null, .null, .int 0])), (q1, .inl (cI, 81, .inl (fun _ => 0)))] := hD
  refine lv_aload_n hx hb d_Floor_init_12 rfl (lv_at hl 0 rfl) ?_
  refine lv_bipush (v := 81) hx hb d_Floor_init_13 (by decide) ?_
  refine va_newa (atype := .int) (ty := .int) (N' := 81) (a0 := (81, .inl (fun _ => 0))) hx hb (hts _ gw_65) rfl hK hP hD hS hA (fun _ => rfl) (by decide) (by decide) (by decide) (Nat.le_of_ble_eq_true rfl) (Nat.le_of_ble_eq_true rfl) d_Floor_init_15 (fun q2 cq2 H hK1 hP hD hS => ?_)
  have ec := (ct_id hK1 0 rfl rfl).symm
  subst ec
  have hP : va_P (dC, dI) gx_cl [(h0, .inr (5, [.null, .ref q1, .null, .null, .int 0])), (q1, .inl (cI, 81, .inl (fun _ => 0))), (q2, .inl (cI, 81, .inl (fun _ => 0)))] H := hP
  have hD : va_D A [(h0, .inr (5, [.null, .ref q1, .null, .null, .int 0])), (q1, .inl (cI, 81, .inl (fun _ => 0))), (q2, .inl (cI, 81, .inl (fun _ => 0)))] := hD
  refine W.widen (k := 2) (n := 162) (Nat.le_refl _) (Nat.le_refl _) ?_
  refine va_putF (D := (dC, dI)) (ci := 5) (v := .ref q2) (ty := .array .int) (C := "CaseLayout$Floor") (T := T_Floor) (N := 5) hx hb hts iw_Floor ty_Floor tk_Floor tn_Floor hown hK hP hD hS 0 rfl rfl 2 (by decide) (hts _ gw_162) (fun _ h9 => h9) rfl hin rfl (by decide +kernel) rfl rfl (Nat.le_of_ble_eq_true rfl) d_Floor_init_17 (fun H locs hP hD hS => ?_)
  have hP : va_P (dC, dI) gx_cl [(h0, .inr (5, [.null, .ref q1, .ref q2, .null, .int 0])), (q1, .inl (cI, 81, .inl (fun _ => 0))), (q2, .inl (cI, 81, .inl (fun _ => 0)))] H := hP
  have hD : va_D A [(h0, .inr (5, [.null, .ref q1, .ref q2, .null, .int 0])), (q1, .inl (cI, 81, .inl (fun _ => 0))), (q2, .inl (cI, 81, .inl (fun _ => 0)))] := hD
  refine lv_aload_n hx hb d_Floor_init_20 rfl (lv_at hl 0 rfl) ?_
  refine lv_bipush (v := 81) hx hb d_Floor_init_21 (by decide) ?_
  refine va_newa (atype := .int) (ty := .int) (N' := 81) (a0 := (81, .inl (fun _ => 0))) hx hb (hts _ gw_65) rfl hK hP hD hS hA (fun _ => rfl) (by decide) (by decide) (by decide) (Nat.le_of_ble_eq_true rfl) (Nat.le_of_ble_eq_true rfl) d_Floor_init_23 (fun q3 cq3 H hK1 hP hD hS => ?_)
  have ec := (ct_id hK1 0 rfl rfl).symm
  subst ec
  have hP : va_P (dC, dI) gx_cl [(h0, .inr (5, [.null, .ref q1, .ref q2, .null, .int 0])), (q1, .inl (cI, 81, .inl (fun _ => 0))), (q2, .inl (cI, 81, .inl (fun _ => 0))), (q3, .inl (cI, 81, .inl (fun _ => 0)))] H := hP
  have hD : va_D A [(h0, .inr (5, [.null, .ref q1, .ref q2, .null, .int 0])), (q1, .inl (cI, 81, .inl (fun _ => 0))), (q2, .inl (cI, 81, .inl (fun _ => 0))), (q3, .inl (cI, 81, .inl (fun _ => 0)))] := hD
  refine W.widen (k := 3) (n := 243) (Nat.le_refl _) (Nat.le_refl _) ?_
  refine va_putF (D := (dC, dI)) (ci := 5) (v := .ref q3) (ty := .array .int) (C := "CaseLayout$Floor") (T := T_Floor) (N := 5) hx hb hts iw_Floor ty_Floor tk_Floor tn_Floor hown hK hP hD hS 0 rfl rfl 3 (by decide) (hts _ gw_164) (fun _ h9 => h9) rfl hin rfl (by decide +kernel) rfl rfl (Nat.le_of_ble_eq_true rfl) d_Floor_init_25 (fun H locs hP hD hS => ?_)
  have hP : va_P (dC, dI) gx_cl [(h0, .inr (5, [.null, .ref q1, .ref q2, .ref q3, .int 0])), (q1, .inl (cI, 81, .inl (fun _ => 0))), (q2, .inl (cI, 81, .inl (fun _ => 0))), (q3, .inl (cI, 81, .inl (fun _ => 0)))] H := hP
  have hD : va_D A [(h0, .inr (5, [.null, .ref q1, .ref q2, .ref q3, .int 0])), (q1, .inl (cI, 81, .inl (fun _ => 0))), (q2, .inl (cI, 81, .inl (fun _ => 0))), (q3, .inl (cI, 81, .inl (fun _ => 0)))] := hD
  refine lv_aload_n hx hb d_Floor_init_28 rfl (lv_at hl 0 rfl) ?_
  refine lv_iconst (v := 0) hx hb d_Floor_init_29 (by decide) ?_
  refine va_put (D := (dC, dI)) (ci := 5) (v := .int 0) (ty := .int) (C := "CaseLayout$Floor") (T := T_Floor) (N := 5) hx hb hts iw_Floor ty_Floor tk_Floor tn_Floor hown hK hP hD hS 0 rfl rfl 4 (by decide) (hts _ gw_165) (fun _ h9 => h9) rfl (by decide +kernel) rfl rfl (Nat.le_of_ble_eq_true rfl) d_Floor_init_30 (fun H locs hP hD hS => ?_)
  have hP : va_P (dC, dI) gx_cl [(h0, .inr (5, [.null, .ref q1, .ref q2, .ref q3, .int 0])), (q1, .inl (cI, 81, .inl (fun _ => 0))), (q2, .inl (cI, 81, .inl (fun _ => 0))), (q3, .inl (cI, 81, .inl (fun _ => 0)))] H := hP
  have hD : va_D A [(h0, .inr (5, [.null, .ref q1, .ref q2, .ref q3, .int 0])), (q1, .inl (cI, 81, .inl (fun _ => 0))), (q2, .inl (cI, 81, .inl (fun _ => 0))), (q3, .inl (cI, 81, .inl (fun _ => 0)))] := hD
  refine lv_aload_n hx hb d_Floor_init_33 rfl (lv_at hl 0 rfl) ?_
  refine lv_aload_n hx hb d_Floor_init_34 rfl (lv_at hl 1 rfl) ?_
  refine va_putF (D := (dC, dI)) (ci := 5) (v := .ref b0) (ty := .object "CaseLayout$Grid") (C := "CaseLayout$Floor") (T := T_Floor) (N := 5) hx hb hts iw_Floor ty_Floor tk_Floor tn_Floor hown hK hP hD hS 0 rfl rfl 0 (by decide) (hts _ gw_160) (fun _ h9 => h9) rfl hin rfl (by decide +kernel) rfl rfl (Nat.le_of_ble_eq_true rfl) d_Floor_init_35 (fun H locs hP hD hS => ?_)
  have hP : va_P (dC, dI) gx_cl [(h0, .inr (5, [.ref b0, .ref q1, .ref q2, .ref q3, .int 0])), (q1, .inl (cI, 81, .inl (fun _ => 0))), (q2, .inl (cI, 81, .inl (fun _ => 0))), (q3, .inl (cI, 81, .inl (fun _ => 0)))] H := hP
  have hD : va_D A [(h0, .inr (5, [.ref b0, .ref q1, .ref q2, .ref q3, .int 0])), (q1, .inl (cI, 81, .inl (fun _ => 0))), (q2, .inl (cI, 81, .inl (fun _ => 0))), (q3, .inl (cI, 81, .inl (fun _ => 0)))] := hD
  exact W.vret hx hb hr (fun t ht hW => ⟨⟨(q1, q2, q3), rfl, trivial, by subst ht; exact hP, hD⟩, hS.F ht⟩) hS.2.2 d_Floor_init_38

abbrev at_Layout (dC : Nat → ClassId) (dI : Nat → Nat → Nat) (cI cZ cL : ClassId) (A : Nat → Prop) (h0 : Nat) (b0 : Nat) (u : Nat × Nat) (t : State) : Prop := va_P (dC, dI) gx_cl [(h0, .inr (7, [.ref b0, .ref u.1, .ref u.2])), (u.1, .inl (cI, 7, .inl (fun _ => 0))), (u.2, .inl (cI, 7, .inl (fun _ => 0)))] t.heap ∧ va_D A [(h0, .inr (7, [.ref b0, .ref u.1, .ref u.2])), (u.1, .inl (cI, 7, .inl (fun _ => 0))), (u.2, .inl (cI, 7, .inl (fun _ => 0)))]
abbrev rmi_Layout : Room := { frames := 1, cells := 2, slots := 14, locals := 12 }
set_option maxHeartbeats 4000000 in
set_option maxRecDepth 100000 in
theorem ci_Layout (l : Launch) (dC : Nat → ClassId) (dI : Nat → Nat → Nat) (cI cZ cL : ClassId) (h0 sz : Nat) (b0 : Nat) : Met l y_Layout_init (.code y_Layout_init prog_5_method_1_code 2 none :: gx_T) rmi_Layout (ct_Pre dC dI cI cZ cL [.ref h0, .ref b0] [(h0, .inr (7, [.null, .null, .null]))] sz) (va_Qv (fun _ : Nat × Nat => True) (at_Layout dC dI cI cZ cL (va_A [(h0, .inr (7, [.null, .null, .null]))] sz) h0 b0) (va_A [(h0, .inr (7, [.null, .null, .null]))] sz)) 2 14 (va_A [(h0, .inr (7, [.null, .null, .null]))] sz) := by
  refine Met.ofW (cc := prog_5_method_1_code) (maxL := 2) (ret := none) (by decide) rfl ?_
  intro p e s m args below meth c s₁ B hml hv
  obtain ⟨rfl, hsz, hP, hK, hN, hD0⟩ := hv
  have hx := B.exec
  have hb := B.bytes
  have hr := B.returns
  have hts0 := atoms_spec (ws := .code y_Layout_init prog_5_method_1_code 2 none :: gx_T) B.pre
  have hts : ∀ w ∈ gx_T, w.before ([.ref h0, .ref b0] : List Value).toArray s = true := fun w h => hts0 w (List.mem_cons_of_mem _ h)
  have hown : s.vm.findClass "CaseLayout$Layout" = some m.cls := findClass_of_methodNamed B.named
  have hlocks := B.notSynchronized
  have hin : meth.name = "<init>" := (name_of_methodNamed B.named B.method).1
  subst hsz
  have hD := hD0.self (sz := s.heap.size)
  generalize hAe : va_A [(h0, .inr (7, [.null, .null, .null]))] s.heap.size = A at hD ⊢
  have hA : ∀ q : Nat, s.heap.size ≤ q → A q := fun q h => by rw [← hAe]; exact Or.inr h
  have hS : va_S A s.heap s.heap [] := va_S.rf
  have hl := lv_entry ([.ref h0, .ref b0]) (n := 2) (Nat.le_of_ble_eq_true rfl)
  rw [lg_entry_eq]
  generalize (lg_sl ([.ref h0, .ref b0]) ++ List.replicate (2 - (lg_sl ([.ref h0, .ref b0])).length) Slot.unset).toArray = ls at hl ⊢
  have hl : lv_has ls 2 [(0, .ref h0), (1, .ref b0)] := hl
  refine lv_aload_n hx hb d_Layout_init_0 rfl (lv_at hl 0 rfl) ?_
  refine W.objInit hx hb hown (hts _ gw_188) (hts _ gw_25) (hts _ gw_26) rfl (by rw [hml]; exact hl.1) rfl d_Layout_init_1 (Nat.le_of_ble_eq_true rfl) (Nat.le_of_ble_eq_true rfl) ?_
  refine W.eq (g2 := F0 m 4 ls []) rfl ?_
  refine lv_aload_n hx hb d_Layout_init_4 rfl (lv_at hl 0 rfl) ?_
  refine lv_bipush (v := 7) hx hb d_Layout_init_5 (by decide) ?_
  refine va_newa (atype := .int) (ty := .int) (N' := 7) (a0 := (7, .inl (fun _ => 0))) hx hb (hts _ gw_65) rfl hK hP hD hS hA (fun _ => rfl) (by decide) (by decide) (by decide) (Nat.le_of_ble_eq_true rfl) (Nat.le_of_ble_eq_true rfl) d_Layout_init_7 (fun q1 cq1 H hK1 hP hD hS => ?_)
  have ec := (ct_id hK1 0 rfl rfl).symm
  subst ec
  have hP : va_P (dC, dI) gx_cl [(h0, .inr (7, [.null, .null, .null])), (q1, .inl (cI, 7, .inl (fun _ => 0)))] H := hP
  have hD : va_D A [(h0, .inr (7, [.null, .null, .null])), (q1, .inl (cI, 7, .inl (fun _ => 0)))] := hD
  refine W.widen (k := 1) (n := 7) (Nat.le_refl _) (Nat.le_refl _) ?_
  refine va_putF (D := (dC, dI)) (ci := 7) (v := .ref q1) (ty := .array .int) (C := "CaseLayout$Layout") (T := T_Layout) (N := 3) hx hb hts iw_Layout ty_Layout tk_Layout tn_Layout hown hK hP hD hS 0 rfl rfl 1 (by decide) (hts _ gw_191) (fun _ h9 => h9) rfl hin rfl (by decide +kernel) rfl rfl (Nat.le_of_ble_eq_true rfl) d_Layout_init_9 (fun H locs hP hD hS => ?_)
  have hP : va_P (dC, dI) gx_cl [(h0, .inr (7, [.null, .ref q1, .null])), (q1, .inl (cI, 7, .inl (fun _ => 0)))] H := hP
  have hD : va_D A [(h0, .inr (7, [.null, .ref q1, .null])), (q1, .inl (cI, 7, .inl (fun _ => 0)))] := hD
  refine lv_aload_n hx hb d_Layout_init_12 rfl (lv_at hl 0 rfl) ?_
  refine lv_bipush (v := 7) hx hb d_Layout_init_13 (by decide) ?_
  refine va_newa (atype := .int) (ty := .int) (N' := 7) (a0 := (7, .inl (fun _ => 0))) hx hb (hts _ gw_65) rfl hK hP hD hS hA (fun _ => rfl) (by decide) (by decide) (by decide) (Nat.le_of_ble_eq_true rfl) (Nat.le_of_ble_eq_true rfl) d_Layout_init_15 (fun q2 cq2 H hK1 hP hD hS => ?_)
  have ec := (ct_id hK1 0 rfl rfl).symm
  subst ec
  have hP : va_P (dC, dI) gx_cl [(h0, .inr (7, [.null, .ref q1, .null])), (q1, .inl (cI, 7, .inl (fun _ => 0))), (q2, .inl (cI, 7, .inl (fun _ => 0)))] H := hP
  have hD : va_D A [(h0, .inr (7, [.null, .ref q1, .null])), (q1, .inl (cI, 7, .inl (fun _ => 0))), (q2, .inl (cI, 7, .inl (fun _ => 0)))] := hD
  refine W.widen (k := 2) (n := 14) (Nat.le_refl _) (Nat.le_refl _) ?_
  refine va_putF (D := (dC, dI)) (ci := 7) (v := .ref q2) (ty := .array .int) (C := "CaseLayout$Layout") (T := T_Layout) (N := 3) hx hb hts iw_Layout ty_Layout tk_Layout tn_Layout hown hK hP hD hS 0 rfl rfl 2 (by decide) (hts _ gw_195) (fun _ h9 => h9) rfl hin rfl (by decide +kernel) rfl rfl (Nat.le_of_ble_eq_true rfl) d_Layout_init_17 (fun H locs hP hD hS => ?_)
  have hP : va_P (dC, dI) gx_cl [(h0, .inr (7, [.null, .ref q1, .ref q2])), (q1, .inl (cI, 7, .inl (fun _ => 0))), (q2, .inl (cI, 7, .inl (fun _ => 0)))] H := hP
  have hD : va_D A [(h0, .inr (7, [.null, .ref q1, .ref q2])), (q1, .inl (cI, 7, .inl (fun _ => 0))), (q2, .inl (cI, 7, .inl (fun _ => 0)))] := hD
  refine lv_aload_n hx hb d_Layout_init_20 rfl (lv_at hl 0 rfl) ?_
  refine lv_aload_n hx hb d_Layout_init_21 rfl (lv_at hl 1 rfl) ?_
  refine va_putF (D := (dC, dI)) (ci := 7) (v := .ref b0) (ty := .object "CaseLayout$Things") (C := "CaseLayout$Layout") (T := T_Layout) (N := 3) hx hb hts iw_Layout ty_Layout tk_Layout tn_Layout hown hK hP hD hS 0 rfl rfl 0 (by decide) (hts _ gw_189) (fun _ h9 => h9) rfl hin rfl (by decide +kernel) rfl rfl (Nat.le_of_ble_eq_true rfl) d_Layout_init_22 (fun H locs hP hD hS => ?_)
  have hP : va_P (dC, dI) gx_cl [(h0, .inr (7, [.ref b0, .ref q1, .ref q2])), (q1, .inl (cI, 7, .inl (fun _ => 0))), (q2, .inl (cI, 7, .inl (fun _ => 0)))] H := hP
  have hD : va_D A [(h0, .inr (7, [.ref b0, .ref q1, .ref q2])), (q1, .inl (cI, 7, .inl (fun _ => 0))), (q2, .inl (cI, 7, .inl (fun _ => 0)))] := hD
  exact W.vret hx hb hr (fun t ht hW => ⟨⟨(q1, q2), rfl, trivial, by subst ht; exact hP, hD⟩, hS.F ht⟩) hS.2.2 d_Layout_init_25

abbrev at_Search (dC : Nat → ClassId) (dI : Nat → Nat → Nat) (cI cZ cL : ClassId) (A : Nat → Prop) (h0 : Nat) (b0 : Nat) (b1 : Nat) (b2 : Nat) (b3 : Nat) (b4 : Nat) (u : Nat × Nat × Nat × Nat × Nat × Nat × Nat × Nat) (t : State) : Prop := va_P (dC, dI) gx_cl [(h0, .inr (6, [.ref b0, .ref b1, .ref b2, .ref b3, .ref b4, .ref u.2.2.1, .ref u.2.2.2.2.2.1, .ref u.1, .ref u.2.1, .int 0, .int 0, .int (-1)])), (u.1, .inl (cI, 567, .inl (fun _ => 0))), (u.2.1, .inl (cI, 7, .inl (fun _ => 0))), (u.2.2.1, .inr (7, [.ref b1, .ref u.2.2.2.1, .ref u.2.2.2.2.1])), (u.2.2.2.1, .inl (cI, 7, .inl (fun _ => 0))), (u.2.2.2.2.1, .inl (cI, 7, .inl (fun _ => 0))), (u.2.2.2.2.2.1, .inr (7, [.ref b1, .ref u.2.2.2.2.2.2.1, .ref u.2.2.2.2.2.2.2])), (u.2.2.2.2.2.2.1, .inl (cI, 7, .inl (fun _ => 0))), (u.2.2.2.2.2.2.2, .inl (cI, 7, .inl (fun _ => 0)))] t.heap ∧ va_D A [(h0, .inr (6, [.ref b0, .ref b1, .ref b2, .ref b3, .ref b4, .ref u.2.2.1, .ref u.2.2.2.2.2.1, .ref u.1, .ref u.2.1, .int 0, .int 0, .int (-1)])), (u.1, .inl (cI, 567, .inl (fun _ => 0))), (u.2.1, .inl (cI, 7, .inl (fun _ => 0))), (u.2.2.1, .inr (7, [.ref b1, .ref u.2.2.2.1, .ref u.2.2.2.2.1])), (u.2.2.2.1, .inl (cI, 7, .inl (fun _ => 0))), (u.2.2.2.2.1, .inl (cI, 7, .inl (fun _ => 0))), (u.2.2.2.2.2.1, .inr (7, [.ref b1, .ref u.2.2.2.2.2.2.1, .ref u.2.2.2.2.2.2.2])), (u.2.2.2.2.2.2.1, .inl (cI, 7, .inl (fun _ => 0))), (u.2.2.2.2.2.2.2, .inl (cI, 7, .inl (fun _ => 0)))]
abbrev rmi_Search : Room := { frames := 2, cells := 8, slots := 608, locals := 33 }
set_option maxHeartbeats 4000000 in
set_option maxRecDepth 100000 in
theorem ci_Search (l : Launch) (dC : Nat → ClassId) (dI : Nat → Nat → Nat) (cI cZ cL : ClassId) (h0 sz : Nat) (b0 : Nat) (b1 : Nat) (b2 : Nat) (b3 : Nat) (b4 : Nat) : Met l y_Search_init (.code y_Search_init prog_7_method_1_code 6 none :: gx_T) rmi_Search (ct_Pre dC dI cI cZ cL [.ref h0, .ref b0, .ref b1, .ref b2, .ref b3, .ref b4] [(h0, .inr (6, [.null, .null, .null, .null, .null, .null, .null, .null, .null, .int 0, .int 0, .int 0]))] sz) (va_Qv (fun _ : Nat × Nat × Nat × Nat × Nat × Nat × Nat × Nat => True) (at_Search dC dI cI cZ cL (va_A [(h0, .inr (6, [.null, .null, .null, .null, .null, .null, .null, .null, .null, .int 0, .int 0, .int 0]))] sz) h0 b0 b1 b2 b3 b4) (va_A [(h0, .inr (6, [.null, .null, .null, .null, .null, .null, .null, .null, .null, .int 0, .int 0, .int 0]))] sz)) 8 608 (va_A [(h0, .inr (6, [.null, .null, .null, .null, .null, .null, .null, .null, .null, .int 0, .int 0, .int 0]))] sz) := by
  refine Met.ofW (cc := prog_7_method_1_code) (maxL := 6) (ret := none) (by decide) rfl ?_
  intro p e s m args below meth c s₁ B hml hv
  obtain ⟨rfl, hsz, hP, hK, hN, hD0⟩ := hv
  have hx := B.exec
  have hb := B.bytes
  have hr := B.returns
  have hts0 := atoms_spec (ws := .code y_Search_init prog_7_method_1_code 6 none :: gx_T) B.pre
  have hts : ∀ w ∈ gx_T, w.before ([.ref h0, .ref b0, .ref b1, .ref b2, .ref b3, .ref b4] : List Value).toArray s = true := fun w h => hts0 w (List.mem_cons_of_mem _ h)
  have hown : s.vm.findClass "CaseLayout$Search" = some m.cls := findClass_of_methodNamed B.named
  have hlocks := B.notSynchronized
  have hin : meth.name = "<init>" := (name_of_methodNamed B.named B.method).1
  subst hsz
  have hD := hD0.self (sz := s.heap.size)
  generalize hAe : va_A [(h0, .inr (6, [.null, .null, .null, .null, .null, .null, .null, .null, .null, .int 0, .int 0, .int 0]))] s.heap.size = A at hD ⊢
  have hA : ∀ q : Nat, s.heap.size ≤ q → A q := fun q h => by rw [← hAe]; exact Or.inr h
  have hS : va_S A s.heap s.heap [] := va_S.rf
  have hl := lv_entry ([.ref h0, .ref b0, .ref b1, .ref b2, .ref b3, .ref b4]) (n := 6) (Nat.le_of_ble_eq_true rfl)
  rw [lg_entry_eq]
  generalize (lg_sl ([.ref h0, .ref b0, .ref b1, .ref b2, .ref b3, .ref b4]) ++ List.replicate (6 - (lg_sl ([.ref h0, .ref b0, .ref b1, .ref b2, .ref b3, .ref b4])).length) Slot.unset).toArray = ls at hl ⊢
  have hl : lv_has ls 6 [(0, .ref h0), (1, .ref b0), (2, .ref b1), (3, .ref b2), (4, .ref b3), (5, .ref b4)] := hl
  refine lv_aload_n hx hb d_Search_init_0 rfl (lv_at hl 0 rfl) ?_
  refine W.objInit hx hb hown (hts _ gw_182) (hts _ gw_25) (hts _ gw_26) rfl (by rw [hml]; exact hl.1) rfl d_Search_init_1 (Nat.le_of_ble_eq_true rfl) (Nat.le_of_ble_eq_true rfl) ?_
  refine W.eq (g2 := F0 m 4 ls []) rfl ?_
  refine lv_aload_n hx hb d_Search_init_4 rfl (lv_at hl 0 rfl) ?_
  refine lv_sipush (v := 567) hx hb d_Search_init_5 (by decide) ?_
  refine va_newa (atype := .int) (ty := .int) (N' := 567) (a0 := (567, .inl (fun _ => 0))) hx hb (hts _ gw_65) rfl hK hP hD hS hA (fun _ => rfl) (by decide) (by decide) (by decide) (Nat.le_of_ble_eq_true rfl) (Nat.le_of_ble_eq_true rfl) d_Search_init_8 (fun q1 cq1 H hK1 hP hD hS => ?_)
  have ec := (ct_id hK1 0 rfl rfl).symm
  subst ec
  have hP : va_P (dC, dI) gx_cl [(h0, .inr (6, [.null, .null, .null, .null, .null, .null, .null, .null, .null, .int 0, .int 0, .int 0])), (q1, .inl (cI, 567, .inl (fun _ => 0)))] H := hP
  have hD : va_D A [(h0, .inr (6, [.null, .null, .null, .null, .null, .null, .null, .null, .null, .int 0, .int 0, .int 0])), (q1, .inl (cI, 567, .inl (fun _ => 0)))] := hD
  refine W.widen (k := 1) (n := 567) (Nat.le_refl _) (Nat.le_refl _) ?_
  refine va_putF (D := (dC, dI)) (ci := 6) (v := .ref q1) (ty := .array .int) (C := "CaseLayout$Search") (T := T_Search) (N := 12) hx hb hts iw_Search ty_Search tk_Search tn_Search hown hK hP hD hS 0 rfl rfl 7 (by decide) (hts _ gw_214) (fun _ h9 => h9) rfl hin rfl (by decide +kernel) rfl rfl (Nat.le_of_ble_eq_true rfl) d_Search_init_10 (fun H locs hP hD hS => ?_)
  have hP : va_P (dC, dI) gx_cl [(h0, .inr (6, [.null, .null, .null, .null, .null, .null, .null, .ref q1, .null, .int 0, .int 0, .int 0])), (q1, .inl (cI, 567, .inl (fun _ => 0)))] H := hP
  have hD : va_D A [(h0, .inr (6, [.null, .null, .null, .null, .null, .null, .null, .ref q1, .null, .int 0, .int 0, .int 0])), (q1, .inl (cI, 567, .inl (fun _ => 0)))] := hD
  refine lv_aload_n hx hb d_Search_init_13 rfl (lv_at hl 0 rfl) ?_
  refine lv_bipush (v := 7) hx hb d_Search_init_14 (by decide) ?_
  refine va_newa (atype := .int) (ty := .int) (N' := 7) (a0 := (7, .inl (fun _ => 0))) hx hb (hts _ gw_65) rfl hK hP hD hS hA (fun _ => rfl) (by decide) (by decide) (by decide) (Nat.le_of_ble_eq_true rfl) (Nat.le_of_ble_eq_true rfl) d_Search_init_16 (fun q2 cq2 H hK1 hP hD hS => ?_)
  have ec := (ct_id hK1 0 rfl rfl).symm
  subst ec
  have hP : va_P (dC, dI) gx_cl [(h0, .inr (6, [.null, .null, .null, .null, .null, .null, .null, .ref q1, .null, .int 0, .int 0, .int 0])), (q1, .inl (cI, 567, .inl (fun _ => 0))), (q2, .inl (cI, 7, .inl (fun _ => 0)))] H := hP
  have hD : va_D A [(h0, .inr (6, [.null, .null, .null, .null, .null, .null, .null, .ref q1, .null, .int 0, .int 0, .int 0])), (q1, .inl (cI, 567, .inl (fun _ => 0))), (q2, .inl (cI, 7, .inl (fun _ => 0)))] := hD
  refine W.widen (k := 2) (n := 574) (Nat.le_refl _) (Nat.le_refl _) ?_
  refine va_putF (D := (dC, dI)) (ci := 6) (v := .ref q2) (ty := .array .int) (C := "CaseLayout$Search") (T := T_Search) (N := 12) hx hb hts iw_Search ty_Search tk_Search tn_Search hown hK hP hD hS 0 rfl rfl 8 (by decide) (hts _ gw_215) (fun _ h9 => h9) rfl hin rfl (by decide +kernel) rfl rfl (Nat.le_of_ble_eq_true rfl) d_Search_init_18 (fun H locs hP hD hS => ?_)
  have hP : va_P (dC, dI) gx_cl [(h0, .inr (6, [.null, .null, .null, .null, .null, .null, .null, .ref q1, .ref q2, .int 0, .int 0, .int 0])), (q1, .inl (cI, 567, .inl (fun _ => 0))), (q2, .inl (cI, 7, .inl (fun _ => 0)))] H := hP
  have hD : va_D A [(h0, .inr (6, [.null, .null, .null, .null, .null, .null, .null, .ref q1, .ref q2, .int 0, .int 0, .int 0])), (q1, .inl (cI, 567, .inl (fun _ => 0))), (q2, .inl (cI, 7, .inl (fun _ => 0)))] := hD
  refine lv_aload_n hx hb d_Search_init_21 rfl (lv_at hl 0 rfl) ?_
  refine lv_iconst (v := 0) hx hb d_Search_init_22 (by decide) ?_
  refine va_put (D := (dC, dI)) (ci := 6) (v := .int 0) (ty := .int) (C := "CaseLayout$Search") (T := T_Search) (N := 12) hx hb hts iw_Search ty_Search tk_Search tn_Search hown hK hP hD hS 0 rfl rfl 9 (by decide) (hts _ gw_216) (fun _ h9 => h9) rfl (by decide +kernel) rfl rfl (Nat.le_of_ble_eq_true rfl) d_Search_init_23 (fun H locs hP hD hS => ?_)
  have hP : va_P (dC, dI) gx_cl [(h0, .inr (6, [.null, .null, .null, .null, .null, .null, .null, .ref q1, .ref q2, .int 0, .int 0, .int 0])), (q1, .inl (cI, 567, .inl (fun _ => 0))), (q2, .inl (cI, 7, .inl (fun _ => 0)))] H := hP
  have hD : va_D A [(h0, .inr (6, [.null, .null, .null, .null, .null, .null, .null, .ref q1, .ref q2, .int 0, .int 0, .int 0])), (q1, .inl (cI, 567, .inl (fun _ => 0))), (q2, .inl (cI, 7, .inl (fun _ => 0)))] := hD
  refine lv_aload_n hx hb d_Search_init_26 rfl (lv_at hl 0 rfl) ?_
  refine lv_iconst (v := 0) hx hb d_Search_init_27 (by decide) ?_
  refine va_put (D := (dC, dI)) (ci := 6) (v := .int 0) (ty := .int) (C := "CaseLayout$Search") (T := T_Search) (N := 12) hx hb hts iw_Search ty_Search tk_Search tn_Search hown hK hP hD hS 0 rfl rfl 10 (by decide) (hts _ gw_217) (fun _ h9 => h9) rfl (by decide +kernel) rfl rfl (Nat.le_of_ble_eq_true rfl) d_Search_init_28 (fun H locs hP hD hS => ?_)
  have hP : va_P (dC, dI) gx_cl [(h0, .inr (6, [.null, .null, .null, .null, .null, .null, .null, .ref q1, .ref q2, .int 0, .int 0, .int 0])), (q1, .inl (cI, 567, .inl (fun _ => 0))), (q2, .inl (cI, 7, .inl (fun _ => 0)))] H := hP
  have hD : va_D A [(h0, .inr (6, [.null, .null, .null, .null, .null, .null, .null, .ref q1, .ref q2, .int 0, .int 0, .int 0])), (q1, .inl (cI, 567, .inl (fun _ => 0))), (q2, .inl (cI, 7, .inl (fun _ => 0)))] := hD
  refine lv_aload_n hx hb d_Search_init_31 rfl (lv_at hl 0 rfl) ?_
  refine lv_iconst (v := (-1)) hx hb d_Search_init_32 (by decide) ?_
  refine va_put (D := (dC, dI)) (ci := 6) (v := .int (-1)) (ty := .int) (C := "CaseLayout$Search") (T := T_Search) (N := 12) hx hb hts iw_Search ty_Search tk_Search tn_Search hown hK hP hD hS 0 rfl rfl 11 (by decide) (hts _ gw_219) (fun _ h9 => h9) rfl (by decide +kernel) rfl rfl (Nat.le_of_ble_eq_true rfl) d_Search_init_33 (fun H locs hP hD hS => ?_)
  have hP : va_P (dC, dI) gx_cl [(h0, .inr (6, [.null, .null, .null, .null, .null, .null, .null, .ref q1, .ref q2, .int 0, .int 0, .int (-1)])), (q1, .inl (cI, 567, .inl (fun _ => 0))), (q2, .inl (cI, 7, .inl (fun _ => 0)))] H := hP
  have hD : va_D A [(h0, .inr (6, [.null, .null, .null, .null, .null, .null, .null, .ref q1, .ref q2, .int 0, .int 0, .int (-1)])), (q1, .inl (cI, 567, .inl (fun _ => 0))), (q2, .inl (cI, 7, .inl (fun _ => 0)))] := hD
  refine lv_aload_n hx hb d_Search_init_36 rfl (lv_at hl 0 rfl) ?_
  refine lv_aload_n hx hb d_Search_init_37 rfl (lv_at hl 1 rfl) ?_
  refine va_putF (D := (dC, dI)) (ci := 6) (v := .ref b0) (ty := .object "CaseLayout$Grid") (C := "CaseLayout$Search") (T := T_Search) (N := 12) hx hb hts iw_Search ty_Search tk_Search tn_Search hown hK hP hD hS 0 rfl rfl 0 (by decide) (hts _ gw_206) (fun _ h9 => h9) rfl hin rfl (by decide +kernel) rfl rfl (Nat.le_of_ble_eq_true rfl) d_Search_init_38 (fun H locs hP hD hS => ?_)
  have hP : va_P (dC, dI) gx_cl [(h0, .inr (6, [.ref b0, .null, .null, .null, .null, .null, .null, .ref q1, .ref q2, .int 0, .int 0, .int (-1)])), (q1, .inl (cI, 567, .inl (fun _ => 0))), (q2, .inl (cI, 7, .inl (fun _ => 0)))] H := hP
  have hD : va_D A [(h0, .inr (6, [.ref b0, .null, .null, .null, .null, .null, .null, .ref q1, .ref q2, .int 0, .int 0, .int (-1)])), (q1, .inl (cI, 567, .inl (fun _ => 0))), (q2, .inl (cI, 7, .inl (fun _ => 0)))] := hD
  refine lv_aload_n hx hb d_Search_init_41 rfl (lv_at hl 0 rfl) ?_
  refine lv_aload_n hx hb d_Search_init_42 rfl (lv_at hl 2 rfl) ?_
  refine va_putF (D := (dC, dI)) (ci := 6) (v := .ref b1) (ty := .object "CaseLayout$Things") (C := "CaseLayout$Search") (T := T_Search) (N := 12) hx hb hts iw_Search ty_Search tk_Search tn_Search hown hK hP hD hS 0 rfl rfl 1 (by decide) (hts _ gw_207) (fun _ h9 => h9) rfl hin rfl (by decide +kernel) rfl rfl (Nat.le_of_ble_eq_true rfl) d_Search_init_43 (fun H locs hP hD hS => ?_)
  have hP : va_P (dC, dI) gx_cl [(h0, .inr (6, [.ref b0, .ref b1, .null, .null, .null, .null, .null, .ref q1, .ref q2, .int 0, .int 0, .int (-1)])), (q1, .inl (cI, 567, .inl (fun _ => 0))), (q2, .inl (cI, 7, .inl (fun _ => 0)))] H := hP
  have hD : va_D A [(h0, .inr (6, [.ref b0, .ref b1, .null, .null, .null, .null, .null, .ref q1, .ref q2, .int 0, .int 0, .int (-1)])), (q1, .inl (cI, 567, .inl (fun _ => 0))), (q2, .inl (cI, 7, .inl (fun _ => 0)))] := hD
  refine lv_aload_n hx hb d_Search_init_46 rfl (lv_at hl 0 rfl) ?_
  refine lv_aload_n hx hb d_Search_init_47 rfl (lv_at hl 3 rfl) ?_
  refine va_putF (D := (dC, dI)) (ci := 6) (v := .ref b2) (ty := .object "CaseLayout$Places") (C := "CaseLayout$Search") (T := T_Search) (N := 12) hx hb hts iw_Search ty_Search tk_Search tn_Search hown hK hP hD hS 0 rfl rfl 2 (by decide) (hts _ gw_208) (fun _ h9 => h9) rfl hin rfl (by decide +kernel) rfl rfl (Nat.le_of_ble_eq_true rfl) d_Search_init_48 (fun H locs hP hD hS => ?_)
  have hP : va_P (dC, dI) gx_cl [(h0, .inr (6, [.ref b0, .ref b1, .ref b2, .null, .null, .null, .null, .ref q1, .ref q2, .int 0, .int 0, .int (-1)])), (q1, .inl (cI, 567, .inl (fun _ => 0))), (q2, .inl (cI, 7, .inl (fun _ => 0)))] H := hP
  have hD : va_D A [(h0, .inr (6, [.ref b0, .ref b1, .ref b2, .null, .null, .null, .null, .ref q1, .ref q2, .int 0, .int 0, .int (-1)])), (q1, .inl (cI, 567, .inl (fun _ => 0))), (q2, .inl (cI, 7, .inl (fun _ => 0)))] := hD
  refine lv_aload_n hx hb d_Search_init_51 rfl (lv_at hl 0 rfl) ?_
  refine lv_aload hx hb d_Search_init_52 (lv_at hl 4 rfl) ?_
  refine va_putF (D := (dC, dI)) (ci := 6) (v := .ref b3) (ty := .object "CaseLayout$Exits") (C := "CaseLayout$Search") (T := T_Search) (N := 12) hx hb hts iw_Search ty_Search tk_Search tn_Search hown hK hP hD hS 0 rfl rfl 3 (by decide) (hts _ gw_209) (fun _ h9 => h9) rfl hin rfl (by decide +kernel) rfl rfl (Nat.le_of_ble_eq_true rfl) d_Search_init_54 (fun H locs hP hD hS => ?_)
  have hP : va_P (dC, dI) gx_cl [(h0, .inr (6, [.ref b0, .ref b1, .ref b2, .ref b3, .null, .null, .null, .ref q1, .ref q2, .int 0, .int 0, .int (-1)])), (q1, .inl (cI, 567, .inl (fun _ => 0))), (q2, .inl (cI, 7, .inl (fun _ => 0)))] H := hP
  have hD : va_D A [(h0, .inr (6, [.ref b0, .ref b1, .ref b2, .ref b3, .null, .null, .null, .ref q1, .ref q2, .int 0, .int 0, .int (-1)])), (q1, .inl (cI, 567, .inl (fun _ => 0))), (q2, .inl (cI, 7, .inl (fun _ => 0)))] := hD
  refine lv_aload_n hx hb d_Search_init_57 rfl (lv_at hl 0 rfl) ?_
  refine lv_aload hx hb d_Search_init_58 (lv_at hl 5 rfl) ?_
  refine va_putF (D := (dC, dI)) (ci := 6) (v := .ref b4) (ty := .object "CaseLayout$Floor") (C := "CaseLayout$Search") (T := T_Search) (N := 12) hx hb hts iw_Search ty_Search tk_Search tn_Search hown hK hP hD hS 0 rfl rfl 4 (by decide) (hts _ gw_210) (fun _ h9 => h9) rfl hin rfl (by decide +kernel) rfl rfl (Nat.le_of_ble_eq_true rfl) d_Search_init_60 (fun H locs hP hD hS => ?_)
  have hP : va_P (dC, dI) gx_cl [(h0, .inr (6, [.ref b0, .ref b1, .ref b2, .ref b3, .ref b4, .null, .null, .ref q1, .ref q2, .int 0, .int 0, .int (-1)])), (q1, .inl (cI, 567, .inl (fun _ => 0))), (q2, .inl (cI, 7, .inl (fun _ => 0)))] H := hP
  have hD : va_D A [(h0, .inr (6, [.ref b0, .ref b1, .ref b2, .ref b3, .ref b4, .null, .null, .ref q1, .ref q2, .int 0, .int 0, .int (-1)])), (q1, .inl (cI, 567, .inl (fun _ => 0))), (q2, .inl (cI, 7, .inl (fun _ => 0)))] := hD
  refine lv_aload_n hx hb d_Search_init_63 rfl (lv_at hl 0 rfl) ?_
  refine va_new (ci := 7) (fs := [.null, .null, .null]) (C := "CaseLayout$Layout") (T := T_Layout) (N := 3) hx hb hts iw_Layout ty_Layout tk_Layout hown (hts _ gw_183) (hts _ gw_184) (hts _ gw_9) hK hP hD hS hA rfl (fun j hj => by rcases (show j = 0 ∨ j = 1 ∨ j = 2 by omega) with rfl | rfl | rfl <;> rfl) (Nat.le_of_ble_eq_true rfl) (Nat.le_of_ble_eq_true rfl) d_Search_init_64 (fun q3 H hP hD hS => ?_)
  have hP : va_P (dC, dI) gx_cl [(h0, .inr (6, [.ref b0, .ref b1, .ref b2, .ref b3, .ref b4, .null, .null, .ref q1, .ref q2, .int 0, .int 0, .int (-1)])), (q1, .inl (cI, 567, .inl (fun _ => 0))), (q2, .inl (cI, 7, .inl (fun _ => 0))), (q3, .inr (7, [.null, .null, .null]))] H := hP
  have hD : va_D A [(h0, .inr (6, [.ref b0, .ref b1, .ref b2, .ref b3, .ref b4, .null, .null, .ref q1, .ref q2, .int 0, .int 0, .int (-1)])), (q1, .inl (cI, 567, .inl (fun _ => 0))), (q2, .inl (cI, 7, .inl (fun _ => 0))), (q3, .inr (7, [.null, .null, .null]))] := hD
  refine W.widen (k := 3) (n := 577) (Nat.le_refl _) (Nat.le_refl _) ?_
  refine lv_dup hx hb d_Search_init_67 rfl ?_
  refine lv_aload_n hx hb d_Search_init_68 rfl (lv_at hl 2 rfl) ?_
  have hPc := hP.sub (ws' := [(q3, .inr (7, [.null, .null, .null]))]) [3] rfl
  have hDc := hD.sub (ws' := [(q3, .inr (7, [.null, .null, .null]))]) [3] (by decide) rfl
  have hFc := va_free (wc := [(q3, .inr (7, [.null, .null, .null]))]) hD hS hA [3] rfl
  refine va_callv (va_runI (As := [.ref b1]) (rest := [.ref q3, .ref h0]) ⟨hx, hb, hml, hown, hts⟩ (ci_Layout l dC dI cI cZ cL q3 H.size b1) (cwI 1 hts (gx_goodC gw_187) rfl rfl rfl (hts _ gw_9) (hts _ gw_185) (hts _ gw_186) rfl (by decide +kernel) ⟨Nat.le_of_ble_eq_true rfl, Nat.le_of_ble_eq_true rfl⟩) ⟨ct_blind, fun U hU hW => ⟨rfl, by rw [hU], by rw [hU]; exact hPc, va_K.moved hW.alike hK, fun w hw => gx_NW_warm hW hw (hN w hw), hDc.weaken (fun _ _ _ _ => trivial)⟩⟩ rfl rfl hl.1 rfl (lv_room (Nat.le_of_ble_eq_true rfl)) d_Search_init_69 ⟨Nat.le_of_ble_eq_true rfl, Nat.le_of_ble_eq_true rfl⟩) hS (fun q _ h => hFc q h) hFc (fun u t H1 locs ht hvm hw hB hz1 hk1 hS => ?_)
  obtain ⟨q4, q5⟩ := u
  obtain ⟨hP1, hD1⟩ := hB
  rw [ht] at hP1
  obtain ⟨hP, hD⟩ := va_join (wr := [(h0, .inr (6, [.ref b0, .ref b1, .ref b2, .ref b3, .ref b4, .null, .null, .ref q1, .ref q2, .int 0, .int 0, .int (-1)])), (q1, .inl (cI, 567, .inl (fun _ => 0))), (q2, .inl (cI, 7, .inl (fun _ => 0)))]) (w1 := [(q3, .inr (7, [.ref b1, .ref q4, .ref q5])), (q4, .inl (cI, 7, .inl (fun _ => 0))), (q5, .inl (cI, 7, .inl (fun _ => 0)))]) hP hD [3] [0, 1, 2] rfl rfl (by decide) (by decide) hk1 hFc hP1 hD1
  generalize H1 = H at hP hS ⊢
  have hP : va_P (dC, dI) gx_cl [(h0, .inr (6, [.ref b0, .ref b1, .ref b2, .ref b3, .ref b4, .null, .null, .ref q1, .ref q2, .int 0, .int 0, .int (-1)])), (q1, .inl (cI, 567, .inl (fun _ => 0))), (q2, .inl (cI, 7, .inl (fun _ => 0))), (q3, .inr (7, [.ref b1, .ref q4, .ref q5])), (q4, .inl (cI, 7, .inl (fun _ => 0))), (q5, .inl (cI, 7, .inl (fun _ => 0)))] H := hP
  have hD : va_D A [(h0, .inr (6, [.ref b0, .ref b1, .ref b2, .ref b3, .ref b4, .null, .null, .ref q1, .ref q2, .int 0, .int 0, .int (-1)])), (q1, .inl (cI, 567, .inl (fun _ => 0))), (q2, .inl (cI, 7, .inl (fun _ => 0))), (q3, .inr (7, [.ref b1, .ref q4, .ref q5])), (q4, .inl (cI, 7, .inl (fun _ => 0))), (q5, .inl (cI, 7, .inl (fun _ => 0)))] := hD
  refine W.widen (k := 5) (n := 591) (Nat.le_refl _) (Nat.le_refl _) ?_
  refine va_putF (D := (dC, dI)) (ci := 6) (v := .ref q3) (ty := .object "CaseLayout$Layout") (C := "CaseLayout$Search") (T := T_Search) (N := 12) hx hb hts iw_Search ty_Search tk_Search tn_Search hown hK hP hD hS 0 rfl rfl 5 (by decide) (hts _ gw_211) (fun _ h9 => h9) rfl hin rfl (by decide +kernel) rfl rfl (Nat.le_of_ble_eq_true rfl) d_Search_init_72 (fun H locs hP hD hS => ?_)
  have hP : va_P (dC, dI) gx_cl [(h0, .inr (6, [.ref b0, .ref b1, .ref b2, .ref b3, .ref b4, .ref q3, .null, .ref q1, .ref q2, .int 0, .int 0, .int (-1)])), (q1, .inl (cI, 567, .inl (fun _ => 0))), (q2, .inl (cI, 7, .inl (fun _ => 0))), (q3, .inr (7, [.ref b1, .ref q4, .ref q5])), (q4, .inl (cI, 7, .inl (fun _ => 0))), (q5, .inl (cI, 7, .inl (fun _ => 0)))] H := hP
  have hD : va_D A [(h0, .inr (6, [.ref b0, .ref b1, .ref b2, .ref b3, .ref b4, .ref q3, .null, .ref q1, .ref q2, .int 0, .int 0, .int (-1)])), (q1, .inl (cI, 567, .inl (fun _ => 0))), (q2, .inl (cI, 7, .inl (fun _ => 0))), (q3, .inr (7, [.ref b1, .ref q4, .ref q5])), (q4, .inl (cI, 7, .inl (fun _ => 0))), (q5, .inl (cI, 7, .inl (fun _ => 0)))] := hD
  refine lv_aload_n hx hb d_Search_init_75 rfl (lv_at hl 0 rfl) ?_
  refine va_new (ci := 7) (fs := [.null, .null, .null]) (C := "CaseLayout$Layout") (T := T_Layout) (N := 3) hx hb hts iw_Layout ty_Layout tk_Layout hown (hts _ gw_183) (hts _ gw_184) (hts _ gw_9) hK hP hD hS hA rfl (fun j hj => by rcases (show j = 0 ∨ j = 1 ∨ j = 2 by omega) with rfl | rfl | rfl <;> rfl) (Nat.le_of_ble_eq_true rfl) (Nat.le_of_ble_eq_true rfl) d_Search_init_76 (fun q6 H hP hD hS => ?_)
  have hP : va_P (dC, dI) gx_cl [(h0, .inr (6, [.ref b0, .ref b1, .ref b2, .ref b3, .ref b4, .ref q3, .null, .ref q1, .ref q2, .int 0, .int 0, .int (-1)])), (q1, .inl (cI, 567, .inl (fun _ => 0))), (q2, .inl (cI, 7, .inl (fun _ => 0))), (q3, .inr (7, [.ref b1, .ref q4, .ref q5])), (q4, .inl (cI, 7, .inl (fun _ => 0))), (q5, .inl (cI, 7, .inl (fun _ => 0))), (q6, .inr (7, [.null, .null, .null]))] H := hP
  have hD : va_D A [(h0, .inr (6, [.ref b0, .ref b1, .ref b2, .ref b3, .ref b4, .ref q3, .null, .ref q1, .ref q2, .int 0, .int 0, .int (-1)])), (q1, .inl (cI, 567, .inl (fun _ => 0))), (q2, .inl (cI, 7, .inl (fun _ => 0))), (q3, .inr (7, [.ref b1, .ref q4, .ref q5])), (q4, .inl (cI, 7, .inl (fun _ => 0))), (q5, .inl (cI, 7, .inl (fun _ => 0))), (q6, .inr (7, [.null, .null, .null]))] := hD
  refine W.widen (k := 6) (n := 594) (Nat.le_refl _) (Nat.le_refl _) ?_
  refine lv_dup hx hb d_Search_init_79 rfl ?_
  refine lv_aload_n hx hb d_Search_init_80 rfl (lv_at hl 2 rfl) ?_
  have hPc := hP.sub (ws' := [(q6, .inr (7, [.null, .null, .null]))]) [6] rfl
  have hDc := hD.sub (ws' := [(q6, .inr (7, [.null, .null, .null]))]) [6] (by decide) rfl
  have hFc := va_free (wc := [(q6, .inr (7, [.null, .null, .null]))]) hD hS hA [6] rfl
  refine va_callv (va_runI (As := [.ref b1]) (rest := [.ref q6, .ref h0]) ⟨hx, hb, hml, hown, hts⟩ (ci_Layout l dC dI cI cZ cL q6 H.size b1) (cwI 1 hts (gx_goodC gw_187) rfl rfl rfl (hts _ gw_9) (hts _ gw_185) (hts _ gw_186) rfl (by decide +kernel) ⟨Nat.le_of_ble_eq_true rfl, Nat.le_of_ble_eq_true rfl⟩) ⟨ct_blind, fun U hU hW => ⟨rfl, by rw [hU], by rw [hU]; exact hPc, va_K.moved hW.alike hK, fun w hw => gx_NW_warm hW hw (hN w hw), hDc.weaken (fun _ _ _ _ => trivial)⟩⟩ rfl rfl hl.1 rfl (lv_room (Nat.le_of_ble_eq_true rfl)) d_Search_init_81 ⟨Nat.le_of_ble_eq_true rfl, Nat.le_of_ble_eq_true rfl⟩) hS (fun q _ h => hFc q h) hFc (fun u t H1 locs ht hvm hw hB hz1 hk1 hS => ?_)
  obtain ⟨q7, q8⟩ := u
  obtain ⟨hP1, hD1⟩ := hB
  rw [ht] at hP1
  obtain ⟨hP, hD⟩ := va_join (wr := [(h0, .inr (6, [.ref b0, .ref b1, .ref b2, .ref b3, .ref b4, .ref q3, .null, .ref q1, .ref q2, .int 0, .int 0, .int (-1)])), (q1, .inl (cI, 567, .inl (fun _ => 0))), (q2, .inl (cI, 7, .inl (fun _ => 0))), (q3, .inr (7, [.ref b1, .ref q4, .ref q5])), (q4, .inl (cI, 7, .inl (fun _ => 0))), (q5, .inl (cI, 7, .inl (fun _ => 0)))]) (w1 := [(q6, .inr (7, [.ref b1, .ref q7, .ref q8])), (q7, .inl (cI, 7, .inl (fun _ => 0))), (q8, .inl (cI, 7, .inl (fun _ => 0)))]) hP hD [6] [0, 1, 2, 3, 4, 5] rfl rfl (by decide) (by decide) hk1 hFc hP1 hD1
  generalize H1 = H at hP hS ⊢
  have hP : va_P (dC, dI) gx_cl [(h0, .inr (6, [.ref b0, .ref b1, .ref b2, .ref b3, .ref b4, .ref q3, .null, .ref q1, .ref q2, .int 0, .int 0, .int (-1)])), (q1, .inl (cI, 567, .inl (fun _ => 0))), (q2, .inl (cI, 7, .inl (fun _ => 0))), (q3, .inr (7, [.ref b1, .ref q4, .ref q5])), (q4, .inl (cI, 7, .inl (fun _ => 0))), (q5, .inl (cI, 7, .inl (fun _ => 0))), (q6, .inr (7, [.ref b1, .ref q7, .ref q8])), (q7, .inl (cI, 7, .inl (fun _ => 0))), (q8, .inl (cI, 7, .inl (fun _ => 0)))] H := hP
  have hD : va_D A [(h0, .inr (6, [.ref b0, .ref b1, .ref b2, .ref b3, .ref b4, .ref q3, .null, .ref q1, .ref q2, .int 0, .int 0, .int (-1)])), (q1, .inl (cI, 567, .inl (fun _ => 0))), (q2, .inl (cI, 7, .inl (fun _ => 0))), (q3, .inr (7, [.ref b1, .ref q4, .ref q5])), (q4, .inl (cI, 7, .inl (fun _ => 0))), (q5, .inl (cI, 7, .inl (fun _ => 0))), (q6, .inr (7, [.ref b1, .ref q7, .ref q8])), (q7, .inl (cI, 7, .inl (fun _ => 0))), (q8, .inl (cI, 7, .inl (fun _ => 0)))] := hD
  refine W.widen (k := 8) (n := 608) (Nat.le_refl _) (Nat.le_refl _) ?_
  refine va_putF (D := (dC, dI)) (ci := 6) (v := .ref q6) (ty := .object "CaseLayout$Layout") (C := "CaseLayout$Search") (T := T_Search) (N := 12) hx hb hts iw_Search ty_Search tk_Search tn_Search hown hK hP hD hS 0 rfl rfl 6 (by decide) (hts _ gw_212) (fun _ h9 => h9) rfl hin rfl (by decide +kernel) rfl rfl (Nat.le_of_ble_eq_true rfl) d_Search_init_84 (fun H locs hP hD hS => ?_)
  have hP : va_P (dC, dI) gx_cl [(h0, .inr (6, [.ref b0, .ref b1, .ref b2, .ref b3, .ref b4, .ref q3, .ref q6, .ref q1, .ref q2, .int 0, .int 0, .int (-1)])), (q1, .inl (cI, 567, .inl (fun _ => 0))), (q2, .inl (cI, 7, .inl (fun _ => 0))), (q3, .inr (7, [.ref b1, .ref q4, .ref q5])), (q4, .inl (cI, 7, .inl (fun _ => 0))), (q5, .inl (cI, 7, .inl (fun _ => 0))), (q6, .inr (7, [.ref b1, .ref q7, .ref q8])), (q7, .inl (cI, 7, .inl (fun _ => 0))), (q8, .inl (cI, 7, .inl (fun _ => 0)))] H := hP
  have hD : va_D A [(h0, .inr (6, [.ref b0, .ref b1, .ref b2, .ref b3, .ref b4, .ref q3, .ref q6, .ref q1, .ref q2, .int 0, .int 0, .int (-1)])), (q1, .inl (cI, 567, .inl (fun _ => 0))), (q2, .inl (cI, 7, .inl (fun _ => 0))), (q3, .inr (7, [.ref b1, .ref q4, .ref q5])), (q4, .inl (cI, 7, .inl (fun _ => 0))), (q5, .inl (cI, 7, .inl (fun _ => 0))), (q6, .inr (7, [.ref b1, .ref q7, .ref q8])), (q7, .inl (cI, 7, .inl (fun _ => 0))), (q8, .inl (cI, 7, .inl (fun _ => 0)))] := hD
  exact W.vret hx hb hr (fun t ht hW => ⟨⟨(q1, q2, q3, q4, q5, q6, q7, q8), rfl, trivial, by subst ht; exact hP, hD⟩, hS.F ht⟩) hS.2.2 d_Search_init_87
