def f_Grid_holds (a1 : Int32) (a2 : Int32) (x : gx_S) : Option (Int32 × gx_S) :=
  if a1 < 0 then (some (0, x)) else (if (gx_gI x 0) ≤ a1 then (some (0, x)) else (if a2 < 0 then (some (0, x)) else (if (gx_gI x 1) ≤ a2 then (some (0, x)) else (some (1, x)))))
abbrev rm_Grid_holds : Room := { frames := 0, cells := 0, slots := 0, locals := 0 }
set_option maxHeartbeats 4000000 in
set_option maxRecDepth 100000 in
theorem c_Grid_holds (l : Launch) (a1 : Int32) (a2 : Int32) (x : gx_S) (o : Int32 × gx_S) (hf : f_Grid_holds a1 a2 x = some o) : gx_Mi false l y_Grid_holds prog_4_method_2_code 3 (some .boolean) rm_Grid_holds (fun E => [.ref (gx_ad E 0), .int a1, .int a2]) x o.1 o.2 := by
  refine gx_meti (own := "CaseLayout$Grid") (by decide) rfl (fun E => Nat.le_of_ble_eq_true rfl) (fun K E hl0 hR hr hlk hk C => ?_)
  subst hl0
  unfold f_Grid_holds at hf
  show gx_G K E _ 0 0 x 0 [(0, .ref (gx_ad E 0)), (1, .int a1), (2, .int a2)] []
  refine gx_iload_n C 1 d_Grid_holds_0 rfl rfl ?_
  refine gx_if_lt (tgt := 28) C d_Grid_holds_1 (by decide) (fun h1 => ?_) (fun h1 => ?_)
  · have hf := (if_pos h1).symm.trans hf
    refine gx_iconst C (v := 0) d_Grid_holds_28 (by decide) ?_
    cases hf
    exact gx_zret C hr hlk hk (by decide) d_Grid_holds_29
  · have hf := (if_neg h1).symm.trans hf
    refine gx_iload_n C 1 d_Grid_holds_4 rfl rfl ?_
    refine gx_aload_n C 0 d_Grid_holds_5 rfl rfl ?_
    refine gx_get C iw_Grid 0 (gx_w0 E _) rfl 0 (by decide) gw_42 rfl rfl d_Grid_holds_6 ?_
    refine gx_icmp_ge (tgt := 28) C d_Grid_holds_9 (by decide) (fun h2 => ?_) (fun h2 => ?_)
    · have hf := (if_pos h2).symm.trans hf
      refine gx_iconst C (v := 0) d_Grid_holds_28 (by decide) ?_
      cases hf
      exact gx_zret C hr hlk hk (by decide) d_Grid_holds_29
    · have hf := (if_neg h2).symm.trans hf
      refine gx_iload_n C 2 d_Grid_holds_12 rfl rfl ?_
      refine gx_if_lt (tgt := 28) C d_Grid_holds_13 (by decide) (fun h3 => ?_) (fun h3 => ?_)
      · have hf := (if_pos h3).symm.trans hf
        refine gx_iconst C (v := 0) d_Grid_holds_28 (by decide) ?_
        cases hf
        exact gx_zret C hr hlk hk (by decide) d_Grid_holds_29
      · have hf := (if_neg h3).symm.trans hf
        refine gx_iload_n C 2 d_Grid_holds_16 rfl rfl ?_
        refine gx_aload_n C 0 d_Grid_holds_17 rfl rfl ?_
        refine gx_get C iw_Grid 0 (gx_w0 E _) rfl 1 (by decide) gw_44 rfl rfl d_Grid_holds_18 ?_
        refine gx_icmp_ge (tgt := 28) C d_Grid_holds_21 (by decide) (fun h4 => ?_) (fun h4 => ?_)
        · have hf := (if_pos h4).symm.trans hf
          refine gx_iconst C (v := 0) d_Grid_holds_28 (by decide) ?_
          cases hf
          exact gx_zret C hr hlk hk (by decide) d_Grid_holds_29
        · have hf := (if_neg h4).symm.trans hf
          refine gx_iconst C (v := 1) d_Grid_holds_24 (by decide) ?_
          refine gx_goto (tgt := 29) C d_Grid_holds_25 (by decide) ?_
          cases hf
          exact gx_zret C hr hlk hk (by decide) d_Grid_holds_29

def f_Grid_setWall (a1 : Int32) (a2 : Int32) (x : gx_S) : Option (Int32 × gx_S) :=
  gx_ck a1 81 (if a2 = 0 then (some (0, gx_sI (gx_sA x 0 (a1 : Int32).toNatClampNeg (vp_nar .boolean a2)) 2 ((gx_gI (gx_sA x 0 (a1 : Int32).toNatClampNeg (vp_nar .boolean a2)) 2) + (-1)))) else (some (0, gx_sI (gx_sA x 0 (a1 : Int32).toNatClampNeg (vp_nar .boolean a2)) 2 ((gx_gI (gx_sA x 0 (a1 : Int32).toNatClampNeg (vp_nar .boolean a2)) 2) + 1))))
abbrev rm_Grid_setWall : Room := { frames := 0, cells := 0, slots := 0, locals := 0 }
set_option maxHeartbeats 4000000 in
set_option maxRecDepth 100000 in
theorem c_Grid_setWall (l : Launch) (a1 : Int32) (a2 : Int32) (x : gx_S) (o : Int32 × gx_S) (hf : f_Grid_setWall a1 a2 x = some o) : gx_Mv true l y_Grid_setWall prog_4_method_3_code 3 rm_Grid_setWall (fun E => [.ref (gx_ad E 0), .int a1, .int a2]) x o.2 := by
  refine gx_metv (own := "CaseLayout$Grid") (by decide) rfl (fun E => Nat.le_of_ble_eq_true rfl) (fun K E hl0 hR hr hlk hk C => ?_)
  subst hl0
  unfold f_Grid_setWall at hf
  show gx_G K E _ 0 0 x 0 [(0, .ref (gx_ad E 0)), (1, .int a1), (2, .int a2)] []
  refine gx_aload_n C 0 d_Grid_setWall_0 rfl rfl ?_
  refine gx_get C iw_Grid 0 (gx_w0 E _) rfl 2 (by decide) gw_46 rfl rfl d_Grid_setWall_1 ?_
  refine gx_iload_n C 1 d_Grid_setWall_4 rfl rfl ?_
  refine gx_iload_n C 2 d_Grid_setWall_5 rfl rfl ?_
  obtain ⟨hi1, hf⟩ := gx_ck_some hf
  refine gx_zast C (x' := gx_sA x 0 (a1 : Int32).toNatClampNeg (vp_nar .boolean a2)) 1 1 (gx_w1 E _) rfl hi1 (gx_q1 E _ _ _) d_Grid_setWall_6 ?_
  refine gx_aload_n C 0 d_Grid_setWall_7 rfl rfl ?_
  refine gx_dup C d_Grid_setWall_8 rfl ?_
  refine gx_get C iw_Grid 0 (gx_w0 E _) rfl 4 (by decide) gw_51 rfl rfl d_Grid_setWall_9 ?_
  refine gx_iload_n C 2 d_Grid_setWall_12 rfl rfl ?_
  refine gx_if_eq (tgt := 20) C d_Grid_setWall_13 (by decide) (fun h2 => ?_) (fun h2 => ?_)
  · have hf := (if_pos h2).symm.trans hf
    refine gx_iconst C (v := (-1)) d_Grid_setWall_20 (by decide) ?_
    refine gx_iadd C d_Grid_setWall_21 ?_
    refine gx_put C (ty := .int) (x' := gx_sI (gx_sA x 0 (a1 : Int32).toNatClampNeg (vp_nar .boolean a2)) 2 ((gx_gI (gx_sA x 0 (a1 : Int32).toNatClampNeg (vp_nar .boolean a2)) 2) + (-1))) iw_Grid ty_Grid tk_Grid tn_Grid 0 (gx_w0 E _) rfl 4 (by decide) gw_51 rfl rfl (by decide +kernel) rfl rfl (Nat.le_of_ble_eq_true rfl) (gx_p0_4 E _ _) d_Grid_setWall_22 ?_
    cases hf
    exact gx_vret C hr hlk hk d_Grid_setWall_25
  · have hf := (if_neg h2).symm.trans hf
    refine gx_iconst C (v := 1) d_Grid_setWall_16 (by decide) ?_
    refine gx_goto (tgt := 21) C d_Grid_setWall_17 (by decide) ?_
    refine gx_iadd C d_Grid_setWall_21 ?_
    refine gx_put C (ty := .int) (x' := gx_sI (gx_sA x 0 (a1 : Int32).toNatClampNeg (vp_nar .boolean a2)) 2 ((gx_gI (gx_sA x 0 (a1 : Int32).toNatClampNeg (vp_nar .boolean a2)) 2) + 1)) iw_Grid ty_Grid tk_Grid tn_Grid 0 (gx_w0 E _) rfl 4 (by decide) gw_51 rfl rfl (by decide +kernel) rfl rfl (Nat.le_of_ble_eq_true rfl) (gx_p0_4 E _ _) d_Grid_setWall_22 ?_
    cases hf
    exact gx_vret C hr hlk hk d_Grid_setWall_25

def f_Things_add (a1 : Int32) (a2 : Int32) (a3 : Int32) (x : gx_S) : Option (Int32 × gx_S) :=
  gx_ck (gx_gI x 3) 7 (gx_ck (gx_gI x 3) 7 (gx_ck (gx_gI x 3) 7 (some (gx_gI x 3, gx_sI (gx_sA (gx_sA (gx_sA x 2 (gx_gI x 3 : Int32).toNatClampNeg a1) 3 (gx_gI x 3 : Int32).toNatClampNeg a2) 4 (gx_gI x 3 : Int32).toNatClampNeg a3) 3 ((gx_gI (gx_sA (gx_sA (gx_sA x 2 (gx_gI x 3 : Int32).toNatClampNeg a1) 3 (gx_gI x 3 : Int32).toNatClampNeg a2) 4 (gx_gI x 3 : Int32).toNatClampNeg a3) 3) + 1)))))
abbrev rm_Things_add : Room := { frames := 0, cells := 0, slots := 0, locals := 0 }
set_option maxHeartbeats 4000000 in
set_option maxRecDepth 100000 in
theorem c_Things_add (l : Launch) (a1 : Int32) (a2 : Int32) (a3 : Int32) (x : gx_S) (o : Int32 × gx_S) (hf : f_Things_add a1 a2 a3 x = some o) : gx_Mi true l y_Things_add prog_8_method_2_code 5 (some .int) rm_Things_add (fun E => [.ref (gx_ad E 3), .int a1, .int a2, .int a3]) x o.1 o.2 := by
  refine gx_meti (own := "CaseLayout$Things") (by decide) rfl (fun E => Nat.le_of_ble_eq_true rfl) (fun K E hl0 hR hr hlk hk C => ?_)
  subst hl0
  unfold f_Things_add at hf
  show gx_G K E _ 0 0 x 0 [(0, .ref (gx_ad E 3)), (1, .int a1), (2, .int a2), (3, .int a3)] []
  refine gx_aload_n C 0 d_Things_add_0 rfl rfl ?_
  refine gx_get C iw_Things 3 (gx_w3 E _) rfl 5 (by decide) gw_88 rfl rfl d_Things_add_1 ?_
  refine gx_istore C (lv' := [(4, .int (gx_gI x 3)), (0, .ref (gx_ad E 3)), (1, .int a1), (2, .int a2), (3, .int a3)]) d_Things_add_4 (by decide) rfl ?_
  refine gx_aload_n C 1 d_Things_add_6 rfl rfl ?_
  refine gx_get C iw_Things 3 (gx_w3 E _) rfl 0 (by decide) gw_72 rfl rfl d_Things_add_7 ?_
  refine gx_iload C 0 d_Things_add_10 rfl ?_
  refine gx_iload_n C 2 d_Things_add_12 rfl rfl ?_
  obtain ⟨hi1, hf⟩ := gx_ck_some hf
  refine gx_iast C (x' := gx_sA x 2 (gx_gI x 3 : Int32).toNatClampNeg a1) 4 0 (gx_w4 E _) rfl hi1 (gx_q4 E _ _ _) d_Things_add_13 ?_
  refine gx_aload_n C 1 d_Things_add_14 rfl rfl ?_
  refine gx_get C iw_Things 3 (gx_w3 E _) rfl 1 (by decide) gw_76 rfl rfl d_Things_add_15 ?_
  refine gx_iload C 0 d_Things_add_18 rfl ?_
  refine gx_iload_n C 3 d_Things_add_20 rfl rfl ?_
  obtain ⟨hi2, hf⟩ := gx_ck_some hf
  refine gx_iast C (x' := gx_sA (gx_sA x 2 (gx_gI x 3 : Int32).toNatClampNeg a1) 3 (gx_gI x 3 : Int32).toNatClampNeg a2) 5 0 (gx_w5 E _) rfl hi2 (gx_q5 E _ _ _) d_Things_add_21 ?_
  refine gx_aload_n C 1 d_Things_add_22 rfl rfl ?_
  refine gx_get C iw_Things 3 (gx_w3 E _) rfl 2 (by decide) gw_80 rfl rfl d_Things_add_23 ?_
  refine gx_iload C 0 d_Things_add_26 rfl ?_
  refine gx_iload_n C 4 d_Things_add_28 rfl rfl ?_
  obtain ⟨hi3, hf⟩ := gx_ck_some hf
  refine gx_iast C (x' := gx_sA (gx_sA (gx_sA x 2 (gx_gI x 3 : Int32).toNatClampNeg a1) 3 (gx_gI x 3 : Int32).toNatClampNeg a2) 4 (gx_gI x 3 : Int32).toNatClampNeg a3) 6 0 (gx_w6 E _) rfl hi3 (gx_q6 E _ _ _) d_Things_add_29 ?_
  refine gx_aload_n C 1 d_Things_add_30 rfl rfl ?_
  refine gx_dup C d_Things_add_31 rfl ?_
  refine gx_get C iw_Things 3 (gx_w3 E _) rfl 5 (by decide) gw_88 rfl rfl d_Things_add_32 ?_
  refine gx_iconst C (v := 1) d_Things_add_35 (by decide) ?_
  refine gx_iadd C d_Things_add_36 ?_
  refine gx_put C (ty := .int) (x' := gx_sI (gx_sA (gx_sA (gx_sA x 2 (gx_gI x 3 : Int32).toNatClampNeg a1) 3 (gx_gI x 3 : Int32).toNatClampNeg a2) 4 (gx_gI x 3 : Int32).toNatClampNeg a3) 3 ((gx_gI (gx_sA (gx_sA (gx_sA x 2 (gx_gI x 3 : Int32).toNatClampNeg a1) 3 (gx_gI x 3 : Int32).toNatClampNeg a2) 4 (gx_gI x 3 : Int32).toNatClampNeg a3) 3) + 1)) iw_Things ty_Things tk_Things tn_Things 3 (gx_w3 E _) rfl 5 (by decide) gw_88 rfl rfl (by decide +kernel) rfl rfl (Nat.le_of_ble_eq_true rfl) (gx_p3_5 E _ _) d_Things_add_37 ?_
  refine gx_iload C 0 d_Things_add_40 rfl ?_
  cases hf
  exact gx_iret C hr hlk hk d_Things_add_42

def f_CaseLayout_cellOf (a0 : Int32) (a1 : Int32) (x : gx_S) : Option (Int32 × gx_S) :=
  some ((a1 * 9) + a0, x)
abbrev rm_CaseLayout_cellOf : Room := { frames := 0, cells := 0, slots := 0, locals := 0 }
set_option maxHeartbeats 4000000 in
set_option maxRecDepth 100000 in
theorem c_CaseLayout_cellOf (l : Launch) (a0 : Int32) (a1 : Int32) (x : gx_S) (o : Int32 × gx_S) (hf : f_CaseLayout_cellOf a0 a1 x = some o) : gx_Mi false l y_CaseLayout_cellOf prog_1_method_25_code 2 (some .int) rm_CaseLayout_cellOf (fun E => [.int a0, .int a1]) x o.1 o.2 := by
  refine gx_meti (own := "CaseLayout") (by decide) rfl (fun E => Nat.le_of_ble_eq_true rfl) (fun K E hl0 hR hr hlk hk C => ?_)
  subst hl0
  unfold f_CaseLayout_cellOf at hf
  show gx_G K E _ 0 0 x 0 [(0, .int a0), (1, .int a1)] []
  refine gx_iload_n C 1 d_CaseLayout_cellOf_0 rfl rfl ?_
  refine gx_bipush C (v := 9) d_CaseLayout_cellOf_1 (by decide) ?_
  refine gx_imul C d_CaseLayout_cellOf_3 ?_
  refine gx_iload_n C 0 d_CaseLayout_cellOf_4 rfl rfl ?_
  refine gx_iadd C d_CaseLayout_cellOf_5 ?_
  cases hf
  exact gx_iret C hr hlk hk d_CaseLayout_cellOf_6

def s_Places_standOn_2 (v1 : Int32) (a : Int32 × gx_S) : Option ((Int32 × gx_S) ⊕ (Nat × Int32 × gx_S)) :=
  if (gx_gI a.2 4) ≤ a.1 then (some (.inr (1, a.1, a.2))) else (gx_ck a.1 8 (gx_ck a.1 8 (gx_bd (f_CaseLayout_cellOf (gx_gA a.2 7 (a.1 : Int32).toNatClampNeg) (gx_gA a.2 8 (a.1 : Int32).toNatClampNeg) a.2) (fun r4 x4 => if r4 = v1 then (some (.inr (0, a.1, x4))) else (some (.inl (a.1 + 1, x4)))))))
def f_Places_standOn (a1 : Int32) (x : gx_S) : Option (Int32 × gx_S) :=
  gx_bl (gx_it (s_Places_standOn_2 a1) gx_fuel (0, x)) (fun e6 => if e6.1 = 0 then (some (1, e6.2.2)) else (some (0, e6.2.2)))
abbrev rm_Places_standOn : Room := { frames := 1, cells := 0, slots := 0, locals := 21 }
def pp_Places_standOn_2 (K : gx_K) (E : gx_E) (v1 : Int32) (a : Int32 × gx_S) : Prop := gx_G K E (gx_AB false E K.s.heap.size) 0 0 (a.2) 2 [(0, .ref (gx_ad E 9)), (1, .int v1), (2, .int a.1)] []
def pq_Places_standOn_2 (K : gx_K) (E : gx_E) (v1 : Int32) (b : Nat × Int32 × gx_S) : Prop := if b.1 = 0 then gx_G K E (gx_AB false E K.s.heap.size) 0 0 (b.2.2) 29 [] [] else (gx_G K E (gx_AB false E K.s.heap.size) 0 0 (b.2.2) 37 [] [])
set_option maxHeartbeats 4000000 in
set_option maxRecDepth 100000 in
theorem sc_Places_standOn_2 {K : gx_K} {E : gx_E} (C : gx_C K E "CaseLayout$Places" prog_6_method_3_code 3) (hR : K.R = rm_Places_standOn) (hr : K.meth.sig.returnType = (some .boolean)) (hlk : K.meth.locks = false) (v1 : Int32) (a : Int32 × gx_S) (o : (Int32 × gx_S) ⊕ (Nat × Int32 × gx_S)) (hf : s_Places_standOn_2 v1 a = some o) (hk : gx_or (pp_Places_standOn_2 K E v1) (pq_Places_standOn_2 K E v1) o) : pp_Places_standOn_2 K E v1 a := by
  unfold s_Places_standOn_2 at hf
  unfold pp_Places_standOn_2
  refine gx_iload_n C 2 d_Places_standOn_2 rfl rfl ?_
  refine gx_aload_n C 0 d_Places_standOn_3 rfl rfl ?_
  refine gx_get C iw_Places 9 (gx_w9 E _) rfl 3 (by decide) gw_120 rfl rfl d_Places_standOn_4 ?_
  refine gx_icmp_ge (tgt := 37) C d_Places_standOn_7 (by decide) (fun h1 => ?_) (fun h1 => ?_)
  · have hf := (if_pos h1).symm.trans hf
    cases hf
    have hk : pq_Places_standOn_2 K E v1 _ := hk
    unfold pq_Places_standOn_2 at hk
    have hk := gx_ifn (by decide : ¬ ((1 : Nat) = 0)) hk
    refine gx_lv (lv' := []) [] rfl ?_
    exact hk
  · have hf := (if_neg h1).symm.trans hf
    refine gx_aload_n C 0 d_Places_standOn_10 rfl rfl ?_
    refine gx_get C iw_Places 9 (gx_w9 E _) rfl 0 (by decide) gw_111 rfl rfl d_Places_standOn_11 ?_
    refine gx_iload_n C 2 d_Places_standOn_14 rfl rfl ?_
    obtain ⟨hi2, hf⟩ := gx_ck_some hf
    refine gx_iald C 10 0 (gx_w10 E _) rfl hi2 d_Places_standOn_15 ?_
    refine gx_aload_n C 0 d_Places_standOn_16 rfl rfl ?_
    refine gx_get C iw_Places 9 (gx_w9 E _) rfl 1 (by decide) gw_114 rfl rfl d_Places_standOn_17 ?_
    refine gx_iload_n C 2 d_Places_standOn_20 rfl rfl ?_
    obtain ⟨hi3, hf⟩ := gx_ck_some hf
    refine gx_iald C 11 0 (gx_w11 E _) rfl hi3 d_Places_standOn_21 ?_
    obtain ⟨r4, x4, hc4, hf⟩ := gx_bd_some hf
    refine gx_cSNi (n2 := 0) (k2 := 0) C (As := [.int (gx_gA a.2 7 (a.1 : Int32).toNatClampNeg), .int (gx_gA a.2 8 (a.1 : Int32).toNatClampNeg)]) (rest := []) 2 (c_CaseLayout_cellOf K.l (gx_gA a.2 7 (a.1 : Int32).toNatClampNeg) (gx_gA a.2 8 (a.1 : Int32).toNatClampNeg) a.2 _ hc4) (Or.inr rfl) rfl gw_362 gn_367 gw_1 gw_361 (by decide +kernel) (by rw [hR]; decide) rfl rfl (Nat.le_of_ble_eq_true rfl) d_Places_standOn_22 (by rw [hR]; decide) rfl rfl ?_
    refine gx_iload_n C 1 d_Places_standOn_25 rfl rfl ?_
    refine gx_icmp_ne (tgt := 31) C d_Places_standOn_26 (by decide) (fun h5 => ?_) (fun h5 => ?_)
    · have hf := (if_neg h5).symm.trans hf
      refine gx_iinc C (v := a.1 + 1) (lv' := [(2, .int (a.1 + 1)), (0, .ref (gx_ad E 9)), (1, .int v1)]) 2 d_Places_standOn_31 rfl rfl (by decide) rfl ?_
      refine gx_goto (tgt := 2) C d_Places_standOn_34 (by decide) ?_
      cases hf
      refine gx_lv (lv' := [(0, .ref (gx_ad E 9)), (1, .int v1), (2, .int (a.1 + 1))]) [1, 2, 0] rfl ?_
      exact hk
    · have hf := (if_pos h5).symm.trans hf
      cases hf
      have hk : pq_Places_standOn_2 K E v1 _ := hk
      unfold pq_Places_standOn_2 at hk
      have hk := gx_ifp (rfl : (0 : Nat) = 0) hk
      refine gx_lv (lv' := []) [] rfl ?_
      exact hk
set_option maxHeartbeats 4000000 in
set_option maxRecDepth 100000 in
theorem c_Places_standOn (l : Launch) (a1 : Int32) (x : gx_S) (o : Int32 × gx_S) (hf : f_Places_standOn a1 x = some o) : gx_Mi false l y_Places_standOn prog_6_method_3_code 3 (some .boolean) rm_Places_standOn (fun E => [.ref (gx_ad E 9), .int a1]) x o.1 o.2 := by
  refine gx_meti (own := "CaseLayout$Places") (by decide) rfl (fun E => Nat.le_of_ble_eq_true rfl) (fun K E hl0 hR hr hlk hk C => ?_)
  subst hl0
  unfold f_Places_standOn at hf
  show gx_G K E _ 0 0 x 0 [(0, .ref (gx_ad E 9)), (1, .int a1)] []
  refine gx_iconst C (v := 0) d_Places_standOn_0 (by decide) ?_
  refine gx_istore_n C (lv' := [(2, .int 0), (0, .ref (gx_ad E 9)), (1, .int a1)]) d_Places_standOn_1 rfl (by decide) rfl ?_
  refine gx_lv (lv' := [(0, .ref (gx_ad E 9)), (1, .int a1), (2, .int 0)]) [1, 2, 0] rfl ?_
  obtain ⟨e6, he6, hf⟩ := gx_bl_some hf
  refine (gx_loop (P := pp_Places_standOn_2 K E a1) (Q := pq_Places_standOn_2 K E a1) (fun a9 o9 h1 h2 => sc_Places_standOn_2 C hR hr hlk a1 a9 o9 h1 h2) gx_fuel (0, x) e6 he6 ?_ : pp_Places_standOn_2 K E a1 (0, x))
  unfold pq_Places_standOn_2
  by_cases ht7 : e6.1 = 0
  · rw [if_pos ht7]
    have hf := (if_pos ht7).symm.trans hf
    refine gx_iconst C (v := 1) d_Places_standOn_29 (by decide) ?_
    cases hf
    exact gx_zret C hr hlk hk (by decide) d_Places_standOn_30
  · rw [if_neg ht7]
    have hf := (if_neg ht7).symm.trans hf
    refine gx_iconst C (v := 0) d_Places_standOn_37 (by decide) ?_
    cases hf
    exact gx_zret C hr hlk hk (by decide) d_Places_standOn_38

def f_Places_add (a1 : Int32) (a2 : Int32) (x : gx_S) : Option (Int32 × gx_S) :=
  gx_ck (gx_gI x 4) 8 (gx_ck (gx_gI x 4) 8 (some (gx_gI x 4, gx_sI (gx_sA (gx_sA x 7 (gx_gI x 4 : Int32).toNatClampNeg a1) 8 (gx_gI x 4 : Int32).toNatClampNeg a2) 4 ((gx_gI (gx_sA (gx_sA x 7 (gx_gI x 4 : Int32).toNatClampNeg a1) 8 (gx_gI x 4 : Int32).toNatClampNeg a2) 4) + 1))))
abbrev rm_Places_add : Room := { frames := 0, cells := 0, slots := 0, locals := 0 }
set_option maxHeartbeats 4000000 in
set_option maxRecDepth 100000 in
theorem c_Places_add (l : Launch) (a1 : Int32) (a2 : Int32) (x : gx_S) (o : Int32 × gx_S) (hf : f_Places_add a1 a2 x = some o) : gx_Mi true l y_Places_add prog_6_method_2_code 4 (some .int) rm_Places_add (fun E => [.ref (gx_ad E 9), .int a1, .int a2]) x o.1 o.2 := by
  refine gx_meti (own := "CaseLayout$Places") (by decide) rfl (fun E => Nat.le_of_ble_eq_true rfl) (fun K E hl0 hR hr hlk hk C => ?_)
  subst hl0
  unfold f_Places_add at hf
  show gx_G K E _ 0 0 x 0 [(0, .ref (gx_ad E 9)), (1, .int a1), (2, .int a2)] []
  refine gx_aload_n C 0 d_Places_add_0 rfl rfl ?_
  refine gx_get C iw_Places 9 (gx_w9 E _) rfl 3 (by decide) gw_120 rfl rfl d_Places_add_1 ?_
  refine gx_istore_n C (lv' := [(3, .int (gx_gI x 4)), (0, .ref (gx_ad E 9)), (1, .int a1), (2, .int a2)]) d_Places_add_4 rfl (by decide) rfl ?_
  refine gx_aload_n C 1 d_Places_add_5 rfl rfl ?_
  refine gx_get C iw_Places 9 (gx_w9 E _) rfl 0 (by decide) gw_111 rfl rfl d_Places_add_6 ?_
  refine gx_iload_n C 0 d_Places_add_9 rfl rfl ?_
  refine gx_iload_n C 2 d_Places_add_10 rfl rfl ?_
  obtain ⟨hi1, hf⟩ := gx_ck_some hf
  refine gx_iast C (x' := gx_sA x 7 (gx_gI x 4 : Int32).toNatClampNeg a1) 10 0 (gx_w10 E _) rfl hi1 (gx_q10 E _ _ _) d_Places_add_11 ?_
  refine gx_aload_n C 1 d_Places_add_12 rfl rfl ?_
  refine gx_get C iw_Places 9 (gx_w9 E _) rfl 1 (by decide) gw_114 rfl rfl d_Places_add_13 ?_
  refine gx_iload_n C 0 d_Places_add_16 rfl rfl ?_
  refine gx_iload_n C 3 d_Places_add_17 rfl rfl ?_
  obtain ⟨hi2, hf⟩ := gx_ck_some hf
  refine gx_iast C (x' := gx_sA (gx_sA x 7 (gx_gI x 4 : Int32).toNatClampNeg a1) 8 (gx_gI x 4 : Int32).toNatClampNeg a2) 11 0 (gx_w11 E _) rfl hi2 (gx_q11 E _ _ _) d_Places_add_18 ?_
  refine gx_aload_n C 1 d_Places_add_19 rfl rfl ?_
  refine gx_dup C d_Places_add_20 rfl ?_
  refine gx_get C iw_Places 9 (gx_w9 E _) rfl 3 (by decide) gw_120 rfl rfl d_Places_add_21 ?_
  refine gx_iconst C (v := 1) d_Places_add_24 (by decide) ?_
  refine gx_iadd C d_Places_add_25 ?_
  refine gx_put C (ty := .int) (x' := gx_sI (gx_sA (gx_sA x 7 (gx_gI x 4 : Int32).toNatClampNeg a1) 8 (gx_gI x 4 : Int32).toNatClampNeg a2) 4 ((gx_gI (gx_sA (gx_sA x 7 (gx_gI x 4 : Int32).toNatClampNeg a1) 8 (gx_gI x 4 : Int32).toNatClampNeg a2) 4) + 1)) iw_Places ty_Places tk_Places tn_Places 9 (gx_w9 E _) rfl 3 (by decide) gw_120 rfl rfl (by decide +kernel) rfl rfl (Nat.le_of_ble_eq_true rfl) (gx_p9_3 E _ _) d_Places_add_26 ?_
  refine gx_iload_n C 0 d_Places_add_29 rfl rfl ?_
  cases hf
  exact gx_iret C hr hlk hk d_Places_add_30

def s_Exits_standOn_2 (v1 : Int32) (a : Int32 × gx_S) : Option ((Int32 × gx_S) ⊕ (Nat × Int32 × gx_S)) :=
  if (gx_gI a.2 5) ≤ a.1 then (some (.inr (1, a.1, a.2))) else (gx_ck a.1 6 (if (gx_gA a.2 10 (a.1 : Int32).toNatClampNeg) = v1 then (some (.inr (0, a.1, a.2))) else (some (.inl (a.1 + 1, a.2)))))
def f_Exits_standOn (a1 : Int32) (x : gx_S) : Option (Int32 × gx_S) :=
  gx_bl (gx_it (s_Exits_standOn_2 a1) gx_fuel (0, x)) (fun e4 => if e4.1 = 0 then (some (1, e4.2.2)) else (some (0, e4.2.2)))
abbrev rm_Exits_standOn : Room := { frames := 0, cells := 0, slots := 0, locals := 0 }
def pp_Exits_standOn_2 (K : gx_K) (E : gx_E) (v1 : Int32) (a : Int32 × gx_S) : Prop := gx_G K E (gx_AB false E K.s.heap.size) 0 0 (a.2) 2 [(0, .ref (gx_ad E 13)), (1, .int v1), (2, .int a.1)] []
def pq_Exits_standOn_2 (K : gx_K) (E : gx_E) (v1 : Int32) (b : Nat × Int32 × gx_S) : Prop := if b.1 = 0 then gx_G K E (gx_AB false E K.s.heap.size) 0 0 (b.2.2) 20 [] [] else (gx_G K E (gx_AB false E K.s.heap.size) 0 0 (b.2.2) 28 [] [])
set_option maxHeartbeats 4000000 in
set_option maxRecDepth 100000 in
theorem sc_Exits_standOn_2 {K : gx_K} {E : gx_E} (C : gx_C K E "CaseLayout$Exits" prog_2_method_3_code 3) (hR : K.R = rm_Exits_standOn) (hr : K.meth.sig.returnType = (some .boolean)) (hlk : K.meth.locks = false) (v1 : Int32) (a : Int32 × gx_S) (o : (Int32 × gx_S) ⊕ (Nat × Int32 × gx_S)) (hf : s_Exits_standOn_2 v1 a = some o) (hk : gx_or (pp_Exits_standOn_2 K E v1) (pq_Exits_standOn_2 K E v1) o) : pp_Exits_standOn_2 K E v1 a := by
  unfold s_Exits_standOn_2 at hf
  unfold pp_Exits_standOn_2
  refine gx_iload_n C 2 d_Exits_standOn_2 rfl rfl ?_
  refine gx_aload_n C 0 d_Exits_standOn_3 rfl rfl ?_
  refine gx_get C iw_Exits 13 (gx_w13 E _) rfl 1 (by decide) gw_140 rfl rfl d_Exits_standOn_4 ?_
  refine gx_icmp_ge (tgt := 28) C d_Exits_standOn_7 (by decide) (fun h1 => ?_) (fun h1 => ?_)
  · have hf := (if_pos h1).symm.trans hf
    cases hf
    have hk : pq_Exits_standOn_2 K E v1 _ := hk
    unfold pq_Exits_standOn_2 at hk
    have hk := gx_ifn (by decide : ¬ ((1 : Nat) = 0)) hk
    refine gx_lv (lv' := []) [] rfl ?_
    exact hk
  · have hf := (if_neg h1).symm.trans hf
    refine gx_aload_n C 0 d_Exits_standOn_10 rfl rfl ?_
    refine gx_get C iw_Exits 13 (gx_w13 E _) rfl 0 (by decide) gw_138 rfl rfl d_Exits_standOn_11 ?_
    refine gx_iload_n C 2 d_Exits_standOn_14 rfl rfl ?_
    obtain ⟨hi2, hf⟩ := gx_ck_some hf
    refine gx_iald C 14 0 (gx_w14 E _) rfl hi2 d_Exits_standOn_15 ?_
    refine gx_iload_n C 1 d_Exits_standOn_16 rfl rfl ?_
    refine gx_icmp_ne (tgt := 22) C d_Exits_standOn_17 (by decide) (fun h3 => ?_) (fun h3 => ?_)
    · have hf := (if_neg h3).symm.trans hf
      refine gx_iinc C (v := a.1 + 1) (lv' := [(2, .int (a.1 + 1)), (0, .ref (gx_ad E 13)), (1, .int v1)]) 2 d_Exits_standOn_22 rfl rfl (by decide) rfl ?_
      refine gx_goto (tgt := 2) C d_Exits_standOn_25 (by decide) ?_
      cases hf
      refine gx_lv (lv' := [(0, .ref (gx_ad E 13)), (1, .int v1), (2, .int (a.1 + 1))]) [1, 2, 0] rfl ?_
      exact hk
    · have hf := (if_pos h3).symm.trans hf
      cases hf
      have hk : pq_Exits_standOn_2 K E v1 _ := hk
      unfold pq_Exits_standOn_2 at hk
      have hk := gx_ifp (rfl : (0 : Nat) = 0) hk
      refine gx_lv (lv' := []) [] rfl ?_
      exact hk
set_option maxHeartbeats 4000000 in
set_option maxRecDepth 100000 in
theorem c_Exits_standOn (l : Launch) (a1 : Int32) (x : gx_S) (o : Int32 × gx_S) (hf : f_Exits_standOn a1 x = some o) : gx_Mi false l y_Exits_standOn prog_2_method_3_code 3 (some .boolean) rm_Exits_standOn (fun E => [.ref (gx_ad E 13), .int a1]) x o.1 o.2 := by
  refine gx_meti (own := "CaseLayout$Exits") (by decide) rfl (fun E => Nat.le_of_ble_eq_true rfl) (fun K E hl0 hR hr hlk hk C => ?_)
  subst hl0
  unfold f_Exits_standOn at hf
  show gx_G K E _ 0 0 x 0 [(0, .ref (gx_ad E 13)), (1, .int a1)] []
  refine gx_iconst C (v := 0) d_Exits_standOn_0 (by decide) ?_
  refine gx_istore_n C (lv' := [(2, .int 0), (0, .ref (gx_ad E 13)), (1, .int a1)]) d_Exits_standOn_1 rfl (by decide) rfl ?_
  refine gx_lv (lv' := [(0, .ref (gx_ad E 13)), (1, .int a1), (2, .int 0)]) [1, 2, 0] rfl ?_
  obtain ⟨e4, he4, hf⟩ := gx_bl_some hf
  refine (gx_loop (P := pp_Exits_standOn_2 K E a1) (Q := pq_Exits_standOn_2 K E a1) (fun a9 o9 h1 h2 => sc_Exits_standOn_2 C hR hr hlk a1 a9 o9 h1 h2) gx_fuel (0, x) e4 he4 ?_ : pp_Exits_standOn_2 K E a1 (0, x))
  unfold pq_Exits_standOn_2
  by_cases ht5 : e4.1 = 0
  · rw [if_pos ht5]
    have hf := (if_pos ht5).symm.trans hf
    refine gx_iconst C (v := 1) d_Exits_standOn_20 (by decide) ?_
    cases hf
    exact gx_zret C hr hlk hk (by decide) d_Exits_standOn_21
  · rw [if_neg ht5]
    have hf := (if_neg ht5).symm.trans hf
    refine gx_iconst C (v := 0) d_Exits_standOn_28 (by decide) ?_
    cases hf
    exact gx_zret C hr hlk hk (by decide) d_Exits_standOn_29

def f_Exits_add (a1 : Int32) (x : gx_S) : Option (Int32 × gx_S) :=
  gx_ck (gx_gI x 5) 6 (some (gx_gI (gx_sI (gx_sA x 10 (gx_gI x 5 : Int32).toNatClampNeg a1) 5 ((gx_gI (gx_sA x 10 (gx_gI x 5 : Int32).toNatClampNeg a1) 5) + 1)) 5, gx_sI (gx_sA x 10 (gx_gI x 5 : Int32).toNatClampNeg a1) 5 ((gx_gI (gx_sA x 10 (gx_gI x 5 : Int32).toNatClampNeg a1) 5) + 1)))
abbrev rm_Exits_add : Room := { frames := 0, cells := 0, slots := 0, locals := 0 }
set_option maxHeartbeats 4000000 in
set_option maxRecDepth 100000 in
theorem c_Exits_add (l : Launch) (a1 : Int32) (x : gx_S) (o : Int32 × gx_S) (hf : f_Exits_add a1 x = some o) : gx_Mi true l y_Exits_add prog_2_method_2_code 2 (some .int) rm_Exits_add (fun E => [.ref (gx_ad E 13), .int a1]) x o.1 o.2 := by
  refine gx_meti (own := "CaseLayout$Exits") (by decide) rfl (fun E => Nat.le_of_ble_eq_true rfl) (fun K E hl0 hR hr hlk hk C => ?_)
  subst hl0
  unfold f_Exits_add at hf
  show gx_G K E _ 0 0 x 0 [(0, .ref (gx_ad E 13)), (1, .int a1)] []
  refine gx_aload_n C 0 d_Exits_add_0 rfl rfl ?_
  refine gx_get C iw_Exits 13 (gx_w13 E _) rfl 0 (by decide) gw_138 rfl rfl d_Exits_add_1 ?_
  refine gx_aload_n C 0 d_Exits_add_4 rfl rfl ?_
  refine gx_get C iw_Exits 13 (gx_w13 E _) rfl 1 (by decide) gw_140 rfl rfl d_Exits_add_5 ?_
  refine gx_iload_n C 1 d_Exits_add_8 rfl rfl ?_
  obtain ⟨hi1, hf⟩ := gx_ck_some hf
  refine gx_iast C (x' := gx_sA x 10 (gx_gI x 5 : Int32).toNatClampNeg a1) 14 0 (gx_w14 E _) rfl hi1 (gx_q14 E _ _ _) d_Exits_add_9 ?_
  refine gx_aload_n C 0 d_Exits_add_10 rfl rfl ?_
  refine gx_dup C d_Exits_add_11 rfl ?_
  refine gx_get C iw_Exits 13 (gx_w13 E _) rfl 1 (by decide) gw_140 rfl rfl d_Exits_add_12 ?_
  refine gx_iconst C (v := 1) d_Exits_add_15 (by decide) ?_
  refine gx_iadd C d_Exits_add_16 ?_
  refine gx_put C (ty := .int) (x' := gx_sI (gx_sA x 10 (gx_gI x 5 : Int32).toNatClampNeg a1) 5 ((gx_gI (gx_sA x 10 (gx_gI x 5 : Int32).toNatClampNeg a1) 5) + 1)) iw_Exits ty_Exits tk_Exits tn_Exits 13 (gx_w13 E _) rfl 1 (by decide) gw_140 rfl rfl (by decide +kernel) rfl rfl (Nat.le_of_ble_eq_true rfl) (gx_p13_1 E _ _) d_Exits_add_17 ?_
  refine gx_aload_n C 0 d_Exits_add_20 rfl rfl ?_
  refine gx_get C iw_Exits 13 (gx_w13 E _) rfl 1 (by decide) gw_140 rfl rfl d_Exits_add_21 ?_
  cases hf
  exact gx_iret C hr hlk hk d_Exits_add_24

def s_Grid_carries_47 (v1 : Int32) (v2 : Int32) (v3 : Int32) (v4 : Int32) (v5 : Int32) (v6 : Int32) (a : Int32 × gx_S) : Option ((Int32 × gx_S) ⊕ (Nat × Int32 × gx_S)) :=
  if (v1 + v3) ≤ a.1 then (some (.inr (1, a.1, a.2))) else (gx_bd (f_CaseLayout_cellOf a.1 v6 a.2) (fun r7 x7 => gx_ck r7 81 (if (gx_gA x7 0 (r7 : Int32).toNatClampNeg) = 0 then (if v5 = 0 then (some (.inl (a.1 + 1, x7))) else (gx_ck r7 81 (if (gx_gA x7 1 (r7 : Int32).toNatClampNeg) = v5 then (some (.inl (a.1 + 1, x7))) else (some (.inr (0, a.1, x7)))))) else (some (.inr (0, a.1, x7))))))
def s_Grid_carries_35 (v1 : Int32) (v2 : Int32) (v3 : Int32) (v4 : Int32) (v5 : Int32) (a : Int32 × gx_S) : Option ((Int32 × gx_S) ⊕ (Nat × Int32 × gx_S)) :=
  if (v2 + v4) ≤ a.1 then (some (.inr (1, a.1, a.2))) else (gx_bl (gx_it (s_Grid_carries_47 v1 v2 v3 v4 v5 a.1) gx_fuel (v1, a.2)) (fun e13 => if e13.1 = 0 then (some (.inr (0, a.1, e13.2.2))) else (some (.inl (a.1 + 1, e13.2.2)))))
def f_Grid_carries (a1 : Int32) (a2 : Int32) (a3 : Int32) (a4 : Int32) (a5 : Int32) (x : gx_S) : Option (Int32 × gx_S) :=
  gx_bd (f_Grid_holds a1 a2 x) (fun r1 x1 => if r1 = 0 then (some (0, x1)) else (if (gx_gI x1 0) < (a1 + a3) then (some (0, x1)) else (if (a2 + a4) ≤ (gx_gI x1 1) then (gx_bl (gx_it (s_Grid_carries_35 a1 a2 a3 a4 a5) gx_fuel (a2, x1)) (fun e15 => if e15.1 = 0 then (some (0, e15.2.2)) else (some (1, e15.2.2)))) else (some (0, x1)))))
abbrev rm_Grid_carries : Room := { frames := 1, cells := 0, slots := 0, locals := 22 }
def pp_Grid_carries_47 (K : gx_K) (E : gx_E) (v1 : Int32) (v2 : Int32) (v3 : Int32) (v4 : Int32) (v5 : Int32) (v6 : Int32) (a : Int32 × gx_S) : Prop := gx_G K E (gx_AB false E K.s.heap.size) 0 0 (a.2) 47 [(0, .ref (gx_ad E 0)), (1, .int v1), (2, .int v2), (3, .int v3), (4, .int v4), (5, .int v5), (6, .int v6), (7, .int a.1)] []
def pq_Grid_carries_47 (K : gx_K) (E : gx_E) (v1 : Int32) (v2 : Int32) (v3 : Int32) (v4 : Int32) (v5 : Int32) (v6 : Int32) (b : Nat × Int32 × gx_S) : Prop := if b.1 = 0 then gx_G K E (gx_AB false E K.s.heap.size) 0 0 (b.2.2) 91 [(1, .int v1), (2, .int v2), (3, .int v3), (4, .int v4), (5, .int v5), (6, .int v6)] [] else (gx_G K E (gx_AB false E K.s.heap.size) 0 0 (b.2.2) 99 [(0, .ref (gx_ad E 0)), (1, .int v1), (2, .int v2), (3, .int v3), (4, .int v4), (5, .int v5), (6, .int v6)] [])
def pp_Grid_carries_35 (K : gx_K) (E : gx_E) (v1 : Int32) (v2 : Int32) (v3 : Int32) (v4 : Int32) (v5 : Int32) (a : Int32 × gx_S) : Prop := gx_G K E (gx_AB false E K.s.heap.size) 0 0 (a.2) 35 [(0, .ref (gx_ad E 0)), (1, .int v1), (2, .int v2), (3, .int v3), (4, .int v4), (5, .int v5), (6, .int a.1)] []
def pq_Grid_carries_35 (K : gx_K) (E : gx_E) (v1 : Int32) (v2 : Int32) (v3 : Int32) (v4 : Int32) (v5 : Int32) (b : Nat × Int32 × gx_S) : Prop := if b.1 = 0 then gx_G K E (gx_AB false E K.s.heap.size) 0 0 (b.2.2) 91 [] [] else (gx_G K E (gx_AB false E K.s.heap.size) 0 0 (b.2.2) 105 [] [])
set_option maxHeartbeats 4000000 in
set_option maxRecDepth 100000 in
theorem sc_Grid_carries_47 {K : gx_K} {E : gx_E} (C : gx_C K E "CaseLayout$Grid" prog_4_method_4_code 9) (hR : K.R = rm_Grid_carries) (hr : K.meth.sig.returnType = (some .boolean)) (hlk : K.meth.locks = false) (v1 : Int32) (v2 : Int32) (v3 : Int32) (v4 : Int32) (v5 : Int32) (v6 : Int32) (a : Int32 × gx_S) (o : (Int32 × gx_S) ⊕ (Nat × Int32 × gx_S)) (hf : s_Grid_carries_47 v1 v2 v3 v4 v5 v6 a = some o) (hk : gx_or (pp_Grid_carries_47 K E v1 v2 v3 v4 v5 v6) (pq_Grid_carries_47 K E v1 v2 v3 v4 v5 v6) o) : pp_Grid_carries_47 K E v1 v2 v3 v4 v5 v6 a := by
  unfold s_Grid_carries_47 at hf
  unfold pp_Grid_carries_47
  refine gx_iload C 7 d_Grid_carries_47 rfl ?_
  refine gx_iload_n C 1 d_Grid_carries_49 rfl rfl ?_
  refine gx_iload_n C 3 d_Grid_carries_50 rfl rfl ?_
  refine gx_iadd C d_Grid_carries_51 ?_
  refine gx_icmp_ge (tgt := 99) C d_Grid_carries_52 (by decide) (fun h6 => ?_) (fun h6 => ?_)
  · have hf := (if_pos h6).symm.trans hf
    cases hf
    have hk : pq_Grid_carries_47 K E v1 v2 v3 v4 v5 v6 _ := hk
    unfold pq_Grid_carries_47 at hk
    have hk := gx_ifn (by decide : ¬ ((1 : Nat) = 0)) hk
    refine gx_lv (lv' := [(0, .ref (gx_ad E 0)), (1, .int v1), (2, .int v2), (3, .int v3), (4, .int v4), (5, .int v5), (6, .int v6)]) [0, 1, 2, 3, 4, 5, 6] rfl ?_
    exact hk
  · have hf := (if_neg h6).symm.trans hf
    refine gx_iload C 7 d_Grid_carries_55 rfl ?_
    refine gx_iload C 6 d_Grid_carries_57 rfl ?_
    obtain ⟨r7, x7, hc7, hf⟩ := gx_bd_some hf
    refine gx_cSNi (n2 := 0) (k2 := 0) C (As := [.int a.1, .int v6]) (rest := []) 2 (c_CaseLayout_cellOf K.l a.1 v6 a.2 _ hc7) (Or.inr rfl) rfl gw_362 gn_534 gw_1 gw_361 (by decide +kernel) (by rw [hR]; decide) rfl rfl (Nat.le_of_ble_eq_true rfl) d_Grid_carries_59 (by rw [hR]; decide) rfl rfl ?_
    refine gx_istore C (lv' := [(8, .int r7), (0, .ref (gx_ad E 0)), (1, .int v1), (2, .int v2), (3, .int v3), (4, .int v4), (5, .int v5), (6, .int v6), (7, .int a.1)]) d_Grid_carries_62 (by decide) rfl ?_
    refine gx_aload_n C 1 d_Grid_carries_64 rfl rfl ?_
    refine gx_get C iw_Grid 0 (gx_w0 E _) rfl 2 (by decide) gw_46 rfl rfl d_Grid_carries_65 ?_
    refine gx_iload C 0 d_Grid_carries_68 rfl ?_
    obtain ⟨hi8, hf⟩ := gx_ck_some hf
    refine gx_zald C 1 1 (gx_w1 E _) rfl hi8 d_Grid_carries_70 ?_
    refine gx_if_ne (tgt := 91) C d_Grid_carries_71 (by decide) (fun h9 => ?_) (fun h9 => ?_)
    · have hf := (if_neg h9).symm.trans hf
      cases hf
      have hk : pq_Grid_carries_47 K E v1 v2 v3 v4 v5 v6 _ := hk
      unfold pq_Grid_carries_47 at hk
      have hk := gx_ifp (rfl : (0 : Nat) = 0) hk
      refine gx_lv (lv' := [(1, .int v1), (2, .int v2), (3, .int v3), (4, .int v4), (5, .int v5), (6, .int v6)]) [2, 3, 4, 5, 6, 7] rfl ?_
      exact hk
    · have hf := (if_pos h9).symm.trans hf
      refine gx_iload C 6 d_Grid_carries_74 rfl ?_
      refine gx_if_eq (tgt := 93) C d_Grid_carries_76 (by decide) (fun h10 => ?_) (fun h10 => ?_)
      · have hf := (if_pos h10).symm.trans hf
        refine gx_iinc C (v := a.1 + 1) (lv' := [(7, .int (a.1 + 1)), (8, .int r7), (0, .ref (gx_ad E 0)), (1, .int v1), (2, .int v2), (3, .int v3), (4, .int v4), (5, .int v5), (6, .int v6)]) 8 d_Grid_carries_93 rfl rfl (by decide) rfl ?_
        refine gx_goto (tgt := 47) C d_Grid_carries_96 (by decide) ?_
        cases hf
        refine gx_lv (lv' := [(0, .ref (gx_ad E 0)), (1, .int v1), (2, .int v2), (3, .int v3), (4, .int v4), (5, .int v5), (6, .int v6), (7, .int (a.1 + 1))]) [2, 3, 4, 5, 6, 7, 8, 0] rfl ?_
        exact hk
      · have hf := (if_neg h10).symm.trans hf
        refine gx_aload_n C 1 d_Grid_carries_79 rfl rfl ?_
        refine gx_get C iw_Grid 0 (gx_w0 E _) rfl 3 (by decide) gw_49 rfl rfl d_Grid_carries_80 ?_
        refine gx_iload C 0 d_Grid_carries_83 rfl ?_
        obtain ⟨hi11, hf⟩ := gx_ck_some hf
        refine gx_iald C 2 0 (gx_w2 E _) rfl hi11 d_Grid_carries_85 ?_
        refine gx_iload C 6 d_Grid_carries_86 rfl ?_
        refine gx_icmp_eq (tgt := 93) C d_Grid_carries_88 (by decide) (fun h12 => ?_) (fun h12 => ?_)
        · have hf := (if_pos h12).symm.trans hf
          refine gx_iinc C (v := a.1 + 1) (lv' := [(7, .int (a.1 + 1)), (8, .int r7), (0, .ref (gx_ad E 0)), (1, .int v1), (2, .int v2), (3, .int v3), (4, .int v4), (5, .int v5), (6, .int v6)]) 8 d_Grid_carries_93 rfl rfl (by decide) rfl ?_
          refine gx_goto (tgt := 47) C d_Grid_carries_96 (by decide) ?_
          cases hf
          refine gx_lv (lv' := [(0, .ref (gx_ad E 0)), (1, .int v1), (2, .int v2), (3, .int v3), (4, .int v4), (5, .int v5), (6, .int v6), (7, .int (a.1 + 1))]) [2, 3, 4, 5, 6, 7, 8, 0] rfl ?_
          exact hk
        · have hf := (if_neg h12).symm.trans hf
          cases hf
          have hk : pq_Grid_carries_47 K E v1 v2 v3 v4 v5 v6 _ := hk
          unfold pq_Grid_carries_47 at hk
          have hk := gx_ifp (rfl : (0 : Nat) = 0) hk
          refine gx_lv (lv' := [(1, .int v1), (2, .int v2), (3, .int v3), (4, .int v4), (5, .int v5), (6, .int v6)]) [2, 3, 4, 5, 6, 7] rfl ?_
          exact hk
set_option maxHeartbeats 4000000 in
set_option maxRecDepth 100000 in
theorem sc_Grid_carries_35 {K : gx_K} {E : gx_E} (C : gx_C K E "CaseLayout$Grid" prog_4_method_4_code 9) (hR : K.R = rm_Grid_carries) (hr : K.meth.sig.returnType = (some .boolean)) (hlk : K.meth.locks = false) (v1 : Int32) (v2 : Int32) (v3 : Int32) (v4 : Int32) (v5 : Int32) (a : Int32 × gx_S) (o : (Int32 × gx_S) ⊕ (Nat × Int32 × gx_S)) (hf : s_Grid_carries_35 v1 v2 v3 v4 v5 a = some o) (hk : gx_or (pp_Grid_carries_35 K E v1 v2 v3 v4 v5) (pq_Grid_carries_35 K E v1 v2 v3 v4 v5) o) : pp_Grid_carries_35 K E v1 v2 v3 v4 v5 a := by
  unfold s_Grid_carries_35 at hf
  unfold pp_Grid_carries_35
  refine gx_iload C 6 d_Grid_carries_35 rfl ?_
  refine gx_iload_n C 2 d_Grid_carries_37 rfl rfl ?_
  refine gx_iload C 4 d_Grid_carries_38 rfl ?_
  refine gx_iadd C d_Grid_carries_40 ?_
  refine gx_icmp_ge (tgt := 105) C d_Grid_carries_41 (by decide) (fun h5 => ?_) (fun h5 => ?_)
  · have hf := (if_pos h5).symm.trans hf
    cases hf
    have hk : pq_Grid_carries_35 K E v1 v2 v3 v4 v5 _ := hk
    unfold pq_Grid_carries_35 at hk
    have hk := gx_ifn (by decide : ¬ ((1 : Nat) = 0)) hk
    refine gx_lv (lv' := []) [] rfl ?_
    exact hk
  · have hf := (if_neg h5).symm.trans hf
    refine gx_iload_n C 1 d_Grid_carries_44 rfl rfl ?_
    refine gx_istore C (lv' := [(7, .int v1), (0, .ref (gx_ad E 0)), (1, .int v1), (2, .int v2), (3, .int v3), (4, .int v4), (5, .int v5), (6, .int a.1)]) d_Grid_carries_45 (by decide) rfl ?_
    refine gx_lv (lv' := [(0, .ref (gx_ad E 0)), (1, .int v1), (2, .int v2), (3, .int v3), (4, .int v4), (5, .int v5), (6, .int a.1), (7, .int v1)]) [1, 2, 3, 4, 5, 6, 7, 0] rfl ?_
    obtain ⟨e13, he13, hf⟩ := gx_bl_some hf
    refine (gx_loop (P := pp_Grid_carries_47 K E v1 v2 v3 v4 v5 a.1) (Q := pq_Grid_carries_47 K E v1 v2 v3 v4 v5 a.1) (fun a9 o9 h1 h2 => sc_Grid_carries_47 C hR hr hlk v1 v2 v3 v4 v5 a.1 a9 o9 h1 h2) gx_fuel (v1, a.2) e13 he13 ?_ : pp_Grid_carries_47 K E v1 v2 v3 v4 v5 a.1 (v1, a.2))
    unfold pq_Grid_carries_47
    by_cases ht14 : e13.1 = 0
    · rw [if_pos ht14]
      have hf := (if_pos ht14).symm.trans hf
      cases hf
      have hk : pq_Grid_carries_35 K E v1 v2 v3 v4 v5 _ := hk
      unfold pq_Grid_carries_35 at hk
      have hk := gx_ifp (rfl : (0 : Nat) = 0) hk
      refine gx_lv (lv' := []) [] rfl ?_
      exact hk
    · rw [if_neg ht14]
      have hf := (if_neg ht14).symm.trans hf
      refine gx_iinc C (v := a.1 + 1) (lv' := [(6, .int (a.1 + 1)), (0, .ref (gx_ad E 0)), (1, .int v1), (2, .int v2), (3, .int v3), (4, .int v4), (5, .int v5)]) 6 d_Grid_carries_99 rfl rfl (by decide) rfl ?_
      refine gx_goto (tgt := 35) C d_Grid_carries_102 (by decide) ?_
      cases hf
      refine gx_lv (lv' := [(0, .ref (gx_ad E 0)), (1, .int v1), (2, .int v2), (3, .int v3), (4, .int v4), (5, .int v5), (6, .int (a.1 + 1))]) [1, 2, 3, 4, 5, 6, 0] rfl ?_
      exact hk
set_option maxHeartbeats 4000000 in
set_option maxRecDepth 100000 in
theorem c_Grid_carries (l : Launch) (a1 : Int32) (a2 : Int32) (a3 : Int32) (a4 : Int32) (a5 : Int32) (x : gx_S) (o : Int32 × gx_S) (hf : f_Grid_carries a1 a2 a3 a4 a5 x = some o) : gx_Mi false l y_Grid_carries prog_4_method_4_code 9 (some .boolean) rm_Grid_carries (fun E => [.ref (gx_ad E 0), .int a1, .int a2, .int a3, .int a4, .int a5]) x o.1 o.2 := by
  refine gx_meti (own := "CaseLayout$Grid") (by decide) rfl (fun E => Nat.le_of_ble_eq_true rfl) (fun K E hl0 hR hr hlk hk C => ?_)
  subst hl0
  unfold f_Grid_carries at hf
  show gx_G K E _ 0 0 x 0 [(0, .ref (gx_ad E 0)), (1, .int a1), (2, .int a2), (3, .int a3), (4, .int a4), (5, .int a5)] []
  refine gx_aload_n C 0 d_Grid_carries_0 rfl rfl ?_
  refine gx_iload_n C 1 d_Grid_carries_1 rfl rfl ?_
  refine gx_iload_n C 2 d_Grid_carries_2 rfl rfl ?_
  obtain ⟨r1, x1, hc1, hf⟩ := gx_bd_some hf
  refine gx_cVi (n2 := 0) (k2 := 0) C (As := [.int a1, .int a2]) (rest := []) 0 2 (c_Grid_holds K.l a1 a2 x _ hc1) (Or.inr rfl) rfl (gx_goodV gw_533 gw_289 gw_290 gw_2 gw_291) (by decide +kernel) (gx_w0 E _) rfl (by rw [hR]; decide) rfl rfl (Nat.le_of_ble_eq_true rfl) d_Grid_carries_3 (by rw [hR]; decide) rfl rfl ?_
  refine gx_if_eq (tgt := 30) C d_Grid_carries_6 (by decide) (fun h2 => ?_) (fun h2 => ?_)
  · have hf := (if_pos h2).symm.trans hf
    refine gx_iconst C (v := 0) d_Grid_carries_30 (by decide) ?_
    cases hf
    exact gx_zret C hr hlk hk (by decide) d_Grid_carries_31
  · have hf := (if_neg h2).symm.trans hf
    refine gx_iload_n C 1 d_Grid_carries_9 rfl rfl ?_
    refine gx_iload_n C 3 d_Grid_carries_10 rfl rfl ?_
    refine gx_iadd C d_Grid_carries_11 ?_
    refine gx_aload_n C 0 d_Grid_carries_12 rfl rfl ?_
    refine gx_get C iw_Grid 0 (gx_w0 E _) rfl 0 (by decide) gw_42 rfl rfl d_Grid_carries_13 ?_
    refine gx_icmp_gt (tgt := 30) C d_Grid_carries_16 (by decide) (fun h3 => ?_) (fun h3 => ?_)
    · have hf := (if_pos h3).symm.trans hf
      refine gx_iconst C (v := 0) d_Grid_carries_30 (by decide) ?_
      cases hf
      exact gx_zret C hr hlk hk (by decide) d_Grid_carries_31
    · have hf := (if_neg h3).symm.trans hf
      refine gx_iload_n C 2 d_Grid_carries_19 rfl rfl ?_
      refine gx_iload C 4 d_Grid_carries_20 rfl ?_
      refine gx_iadd C d_Grid_carries_22 ?_
      refine gx_aload_n C 0 d_Grid_carries_23 rfl rfl ?_
      refine gx_get C iw_Grid 0 (gx_w0 E _) rfl 1 (by decide) gw_44 rfl rfl d_Grid_carries_24 ?_
      refine gx_icmp_le (tgt := 32) C d_Grid_carries_27 (by decide) (fun h4 => ?_) (fun h4 => ?_)
      · have hf := (if_pos h4).symm.trans hf
        refine gx_iload_n C 2 d_Grid_carries_32 rfl rfl ?_
        refine gx_istore C (lv' := [(6, .int a2), (0, .ref (gx_ad E 0)), (1, .int a1), (2, .int a2), (3, .int a3), (4, .int a4), (5, .int a5)]) d_Grid_carries_33 (by decide) rfl ?_
        refine gx_lv (lv' := [(0, .ref (gx_ad E 0)), (1, .int a1), (2, .int a2), (3, .int a3), (4, .int a4), (5, .int a5), (6, .int a2)]) [1, 2, 3, 4, 5, 6, 0] rfl ?_
        obtain ⟨e15, he15, hf⟩ := gx_bl_some hf
        refine (gx_loop (P := pp_Grid_carries_35 K E a1 a2 a3 a4 a5) (Q := pq_Grid_carries_35 K E a1 a2 a3 a4 a5) (fun a9 o9 h1 h2 => sc_Grid_carries_35 C hR hr hlk a1 a2 a3 a4 a5 a9 o9 h1 h2) gx_fuel (a2, x1) e15 he15 ?_ : pp_Grid_carries_35 K E a1 a2 a3 a4 a5 (a2, x1))
        unfold pq_Grid_carries_35
        by_cases ht16 : e15.1 = 0
        · rw [if_pos ht16]
          have hf := (if_pos ht16).symm.trans hf
          refine gx_iconst C (v := 0) d_Grid_carries_91 (by decide) ?_
          cases hf
          exact gx_zret C hr hlk hk (by decide) d_Grid_carries_92
        · rw [if_neg ht16]
          have hf := (if_neg ht16).symm.trans hf
          refine gx_iconst C (v := 1) d_Grid_carries_105 (by decide) ?_
          cases hf
          exact gx_zret C hr hlk hk (by decide) d_Grid_carries_106
      · have hf := (if_neg h4).symm.trans hf
        refine gx_iconst C (v := 0) d_Grid_carries_30 (by decide) ?_
        cases hf
        exact gx_zret C hr hlk hk (by decide) d_Grid_carries_31

def f_Search_forget  (x : gx_S) : Option (Int32 × gx_S) :=
  some (0, gx_sI (gx_sI x 9 0) 10 (-1))
abbrev rm_Search_forget : Room := { frames := 0, cells := 0, slots := 0, locals := 0 }
set_option maxHeartbeats 4000000 in
set_option maxRecDepth 100000 in
theorem c_Search_forget (l : Launch)  (x : gx_S) (o : Int32 × gx_S) (hf : f_Search_forget  x = some o) : gx_Mv true l y_Search_forget prog_7_method_2_code 1 rm_Search_forget (fun E => [.ref (gx_ad E 25)]) x o.2 := by
  refine gx_metv (own := "CaseLayout$Search") (by decide) rfl (fun E => Nat.le_of_ble_eq_true rfl) (fun K E hl0 hR hr hlk hk C => ?_)
  subst hl0
  unfold f_Search_forget at hf
  show gx_G K E _ 0 0 x 0 [(0, .ref (gx_ad E 25))] []
  refine gx_aload_n C 0 d_Search_forget_0 rfl rfl ?_
  refine gx_iconst C (v := 0) d_Search_forget_1 (by decide) ?_
  refine gx_put C (ty := .int) (x' := gx_sI x 9 0) iw_Search ty_Search tk_Search tn_Search 25 (gx_w25 E _) rfl 10 (by decide) gw_217 rfl rfl (by decide +kernel) rfl rfl (Nat.le_of_ble_eq_true rfl) (gx_p25_10 E _ _) d_Search_forget_2 ?_
  refine gx_aload_n C 0 d_Search_forget_5 rfl rfl ?_
  refine gx_iconst C (v := (-1)) d_Search_forget_6 (by decide) ?_
  refine gx_put C (ty := .int) (x' := gx_sI (gx_sI x 9 0) 10 (-1)) iw_Search ty_Search tk_Search tn_Search 25 (gx_w25 E _) rfl 11 (by decide) gw_219 rfl rfl (by decide +kernel) rfl rfl (Nat.le_of_ble_eq_true rfl) (gx_p25_11 E _ _) d_Search_forget_7 ?_
  cases hf
  exact gx_vret C hr hlk hk d_Search_forget_10

def f_Search_hasFound  (x : gx_S) : Option (Int32 × gx_S) :=
  if (gx_gI x 10) = (-1) then (some (0, x)) else (some (1, x))
abbrev rm_Search_hasFound : Room := { frames := 0, cells := 0, slots := 0, locals := 0 }
set_option maxHeartbeats 4000000 in
set_option maxRecDepth 100000 in
theorem c_Search_hasFound (l : Launch)  (x : gx_S) (o : Int32 × gx_S) (hf : f_Search_hasFound  x = some o) : gx_Mi false l y_Search_hasFound prog_7_method_3_code 1 (some .boolean) rm_Search_hasFound (fun E => [.ref (gx_ad E 25)]) x o.1 o.2 := by
  refine gx_meti (own := "CaseLayout$Search") (by decide) rfl (fun E => Nat.le_of_ble_eq_true rfl) (fun K E hl0 hR hr hlk hk C => ?_)
  subst hl0
  unfold f_Search_hasFound at hf
  show gx_G K E _ 0 0 x 0 [(0, .ref (gx_ad E 25))] []
  refine gx_aload_n C 0 d_Search_hasFound_0 rfl rfl ?_
  refine gx_get C iw_Search 25 (gx_w25 E _) rfl 11 (by decide) gw_219 rfl rfl d_Search_hasFound_1 ?_
  refine gx_iconst C (v := (-1)) d_Search_hasFound_4 (by decide) ?_
  refine gx_icmp_eq (tgt := 12) C d_Search_hasFound_5 (by decide) (fun h1 => ?_) (fun h1 => ?_)
  · have hf := (if_pos h1).symm.trans hf
    refine gx_iconst C (v := 0) d_Search_hasFound_12 (by decide) ?_
    cases hf
    exact gx_zret C hr hlk hk (by decide) d_Search_hasFound_13
  · have hf := (if_neg h1).symm.trans hf
    refine gx_iconst C (v := 1) d_Search_hasFound_8 (by decide) ?_
    refine gx_goto (tgt := 13) C d_Search_hasFound_9 (by decide) ?_
    cases hf
    exact gx_zret C hr hlk hk (by decide) d_Search_hasFound_13

def s_Search_listSpots_18 (v1 : Int32) (v3 : Int32) (a : Int32 × Int32 × gx_S) : Option ((Int32 × Int32 × gx_S) ⊕ (Nat × Int32 × Int32 × gx_S)) :=
  if (gx_gI a.2.2 0) ≤ a.2.1 then (some (.inr (0, a.1, a.2.1, a.2.2))) else (gx_ck v1 7 (gx_ck v1 7 (gx_ck v1 7 (gx_bd (f_Grid_carries a.2.1 v3 (gx_gA a.2.2 2 (v1 : Int32).toNatClampNeg) (gx_gA a.2.2 3 (v1 : Int32).toNatClampNeg) (gx_gA a.2.2 4 (v1 : Int32).toNatClampNeg) a.2.2) (fun r6 x6 => if r6 = 0 then (some (.inl (a.1, a.2.1 + 1, x6))) else (gx_bd (f_CaseLayout_cellOf a.2.1 v3 x6) (fun r8 x8 => gx_ck ((v1 * 81) + a.1) 567 (some (.inl (a.1 + 1, a.2.1 + 1, gx_sA x8 18 ((v1 * 81) + a.1 : Int32).toNatClampNeg r8))))))))))
def s_Search_listSpots_4 (v1 : Int32) (a : Int32 × Int32 × gx_S) : Option ((Int32 × Int32 × gx_S) ⊕ (Nat × Int32 × Int32 × gx_S)) :=
  if (gx_gI a.2.2 1) ≤ a.2.1 then (some (.inr (0, a.1, a.2.1, a.2.2))) else (gx_bl (gx_it (s_Search_listSpots_18 v1 a.2.1) gx_fuel (a.1, 0, a.2.2)) (fun e10 => some (.inl (e10.2.1, a.2.1 + 1, e10.2.2.2))))
def f_Search_listSpots (a1 : Int32) (x : gx_S) : Option (Int32 × gx_S) :=
  gx_bl (gx_it (s_Search_listSpots_4 a1) gx_fuel (0, 0, x)) (fun e11 => gx_ck a1 7 (some (0, gx_sA e11.2.2.2 19 (a1 : Int32).toNatClampNeg e11.2.1)))
abbrev rm_Search_listSpots : Room := { frames := 2, cells := 0, slots := 0, locals := 50 }
def pp_Search_listSpots_18 (K : gx_K) (E : gx_E) (v1 : Int32) (v3 : Int32) (a : Int32 × Int32 × gx_S) : Prop := gx_G K E (gx_AB true E K.s.heap.size) 0 0 (a.2.2) 18 [(0, .ref (gx_ad E 25)), (1, .int v1), (2, .int a.1), (3, .int v3), (4, .int a.2.1)] []
def pq_Search_listSpots_18 (K : gx_K) (E : gx_E) (v1 : Int32) (v3 : Int32) (b : Nat × Int32 × Int32 × gx_S) : Prop := gx_G K E (gx_AB true E K.s.heap.size) 0 0 (b.2.2.2) 96 [(0, .ref (gx_ad E 25)), (1, .int v1), (2, .int b.2.1), (3, .int v3)] []
def pp_Search_listSpots_4 (K : gx_K) (E : gx_E) (v1 : Int32) (a : Int32 × Int32 × gx_S) : Prop := gx_G K E (gx_AB true E K.s.heap.size) 0 0 (a.2.2) 4 [(0, .ref (gx_ad E 25)), (1, .int v1), (2, .int a.1), (3, .int a.2.1)] []
def pq_Search_listSpots_4 (K : gx_K) (E : gx_E) (v1 : Int32) (b : Nat × Int32 × Int32 × gx_S) : Prop := gx_G K E (gx_AB true E K.s.heap.size) 0 0 (b.2.2.2) 102 [(0, .ref (gx_ad E 25)), (1, .int v1), (2, .int b.2.1)] []
set_option maxHeartbeats 4000000 in
set_option maxRecDepth 100000 in
theorem sc_Search_listSpots_18 {K : gx_K} {E : gx_E} (C : gx_C K E "CaseLayout$Search" prog_7_method_5_code 5) (hR : K.R = rm_Search_listSpots) (hr : K.meth.sig.returnType = none) (hlk : K.meth.locks = false) (v1 : Int32) (v3 : Int32) (a : Int32 × Int32 × gx_S) (o : (Int32 × Int32 × gx_S) ⊕ (Nat × Int32 × Int32 × gx_S)) (hf : s_Search_listSpots_18 v1 v3 a = some o) (hk : gx_or (pp_Search_listSpots_18 K E v1 v3) (pq_Search_listSpots_18 K E v1 v3) o) : pp_Search_listSpots_18 K E v1 v3 a := by
  unfold s_Search_listSpots_18 at hf
  unfold pp_Search_listSpots_18
  refine gx_iload C 4 d_Search_listSpots_18 rfl ?_
  refine gx_aload_n C 0 d_Search_listSpots_20 rfl rfl ?_
  refine gx_get C iw_Search 25 (gx_w25 E _) rfl 0 (by decide) gw_206 rfl rfl d_Search_listSpots_21 ?_
  refine gx_getN C iw_Grid 0 (gx_w0 E _) rfl 0 (by decide) gn_43 rfl rfl d_Search_listSpots_24 ?_
  refine gx_icmp_ge (tgt := 96) C d_Search_listSpots_27 (by decide) (fun h2 => ?_) (fun h2 => ?_)
  · have hf := (if_pos h2).symm.trans hf
    cases hf
    have hk : pq_Search_listSpots_18 K E v1 v3 _ := hk
    unfold pq_Search_listSpots_18 at hk
    refine gx_lv (lv' := [(0, .ref (gx_ad E 25)), (1, .int v1), (2, .int a.1), (3, .int v3)]) [0, 1, 2, 3] rfl ?_
    exact hk
  · have hf := (if_neg h2).symm.trans hf
    refine gx_aload_n C 0 d_Search_listSpots_30 rfl rfl ?_
    refine gx_get C iw_Search 25 (gx_w25 E _) rfl 0 (by decide) gw_206 rfl rfl d_Search_listSpots_31 ?_
    refine gx_iload C 4 d_Search_listSpots_34 rfl ?_
    refine gx_iload_n C 3 d_Search_listSpots_36 rfl rfl ?_
    refine gx_aload_n C 0 d_Search_listSpots_37 rfl rfl ?_
    refine gx_get C iw_Search 25 (gx_w25 E _) rfl 1 (by decide) gw_207 rfl rfl d_Search_listSpots_38 ?_
    refine gx_getN C iw_Things 3 (gx_w3 E _) rfl 0 (by decide) gn_75 rfl rfl d_Search_listSpots_41 ?_
    refine gx_iload_n C 1 d_Search_listSpots_44 rfl rfl ?_
    obtain ⟨hi3, hf⟩ := gx_ck_some hf
    refine gx_iald C 4 0 (gx_w4 E _) rfl hi3 d_Search_listSpots_45 ?_
    refine gx_aload_n C 0 d_Search_listSpots_46 rfl rfl ?_
    refine gx_get C iw_Search 25 (gx_w25 E _) rfl 1 (by decide) gw_207 rfl rfl d_Search_listSpots_47 ?_
    refine gx_getN C iw_Things 3 (gx_w3 E _) rfl 1 (by decide) gn_79 rfl rfl d_Search_listSpots_50 ?_
    refine gx_iload_n C 1 d_Search_listSpots_53 rfl rfl ?_
    obtain ⟨hi4, hf⟩ := gx_ck_some hf
    refine gx_iald C 5 0 (gx_w5 E _) rfl hi4 d_Search_listSpots_54 ?_
    refine gx_aload_n C 0 d_Search_listSpots_55 rfl rfl ?_
    refine gx_get C iw_Search 25 (gx_w25 E _) rfl 1 (by decide) gw_207 rfl rfl d_Search_listSpots_56 ?_
    refine gx_getN C iw_Things 3 (gx_w3 E _) rfl 2 (by decide) gn_81 rfl rfl d_Search_listSpots_59 ?_
    refine gx_iload_n C 1 d_Search_listSpots_62 rfl rfl ?_
    obtain ⟨hi5, hf⟩ := gx_ck_some hf
    refine gx_iald C 6 0 (gx_w6 E _) rfl hi5 d_Search_listSpots_63 ?_
    obtain ⟨r6, x6, hc6, hf⟩ := gx_bd_some hf
    refine gx_cVi (n2 := 0) (k2 := 0) C (As := [.int a.2.1, .int v3, .int (gx_gA a.2.2 2 (v1 : Int32).toNatClampNeg), .int (gx_gA a.2.2 3 (v1 : Int32).toNatClampNeg), .int (gx_gA a.2.2 4 (v1 : Int32).toNatClampNeg)]) (rest := []) 0 5 (c_Grid_carries K.l a.2.1 v3 (gx_gA a.2.2 2 (v1 : Int32).toNatClampNeg) (gx_gA a.2.2 3 (v1 : Int32).toNatClampNeg) (gx_gA a.2.2 4 (v1 : Int32).toNatClampNeg) a.2.2 _ hc6) (Or.inl rfl) rfl (gx_goodV gw_529 gw_530 gw_531 gw_2 gw_532) (by decide +kernel) (gx_w0 E _) rfl (by rw [hR]; decide) rfl rfl (Nat.le_of_ble_eq_true rfl) d_Search_listSpots_64 (by rw [hR]; decide) rfl rfl ?_
    refine gx_if_eq (tgt := 90) C d_Search_listSpots_67 (by decide) (fun h7 => ?_) (fun h7 => ?_)
    · have hf := (if_pos h7).symm.trans hf
      refine gx_iinc C (v := a.2.1 + 1) (lv' := [(4, .int (a.2.1 + 1)), (0, .ref (gx_ad E 25)), (1, .int v1), (2, .int a.1), (3, .int v3)]) 4 d_Search_listSpots_90 rfl rfl (by decide) rfl ?_
      refine gx_goto (tgt := 18) C d_Search_listSpots_93 (by decide) ?_
      cases hf
      refine gx_lv (lv' := [(0, .ref (gx_ad E 25)), (1, .int v1), (2, .int a.1), (3, .int v3), (4, .int (a.2.1 + 1))]) [1, 2, 3, 4, 0] rfl ?_
      exact hk
    · have hf := (if_neg h7).symm.trans hf
      refine gx_aload_n C 0 d_Search_listSpots_70 rfl rfl ?_
      refine gx_get C iw_Search 25 (gx_w25 E _) rfl 7 (by decide) gw_214 rfl rfl d_Search_listSpots_71 ?_
      refine gx_iload_n C 1 d_Search_listSpots_74 rfl rfl ?_
      refine gx_bipush C (v := 81) d_Search_listSpots_75 (by decide) ?_
      refine gx_imul C d_Search_listSpots_77 ?_
      refine gx_iload_n C 2 d_Search_listSpots_78 rfl rfl ?_
      refine gx_iadd C d_Search_listSpots_79 ?_
      refine gx_iload C 4 d_Search_listSpots_80 rfl ?_
      refine gx_iload_n C 3 d_Search_listSpots_82 rfl rfl ?_
      obtain ⟨r8, x8, hc8, hf⟩ := gx_bd_some hf
      refine gx_cSNi (n2 := 0) (k2 := 0) C (As := [.int a.2.1, .int v3]) (rest := [.int ((v1 * 81) + a.1), .ref (gx_ad E 26)]) 2 (c_CaseLayout_cellOf K.l a.2.1 v3 x6 _ hc8) (Or.inl rfl) rfl gw_362 gn_535 gw_1 gw_361 (by decide +kernel) (by rw [hR]; decide) rfl rfl (Nat.le_of_ble_eq_true rfl) d_Search_listSpots_83 (by rw [hR]; decide) rfl rfl ?_
      obtain ⟨hi9, hf⟩ := gx_ck_some hf
      refine gx_iast C (x' := gx_sA x8 18 ((v1 * 81) + a.1 : Int32).toNatClampNeg r8) 26 0 (gx_w26 E _) rfl hi9 (gx_q26 E _ _ _) d_Search_listSpots_86 ?_
      refine gx_iinc C (v := a.1 + 1) (lv' := [(2, .int (a.1 + 1)), (0, .ref (gx_ad E 25)), (1, .int v1), (3, .int v3), (4, .int a.2.1)]) 2 d_Search_listSpots_87 rfl rfl (by decide) rfl ?_
      refine gx_iinc C (v := a.2.1 + 1) (lv' := [(4, .int (a.2.1 + 1)), (2, .int (a.1 + 1)), (0, .ref (gx_ad E 25)), (1, .int v1), (3, .int v3)]) 4 d_Search_listSpots_90 rfl rfl (by decide) rfl ?_
      refine gx_goto (tgt := 18) C d_Search_listSpots_93 (by decide) ?_
      cases hf
      refine gx_lv (lv' := [(0, .ref (gx_ad E 25)), (1, .int v1), (2, .int (a.1 + 1)), (3, .int v3), (4, .int (a.2.1 + 1))]) [2, 3, 1, 4, 0] rfl ?_
      exact hk
set_option maxHeartbeats 4000000 in
set_option maxRecDepth 100000 in
theorem sc_Search_listSpots_4 {K : gx_K} {E : gx_E} (C : gx_C K E "CaseLayout$Search" prog_7_method_5_code 5) (hR : K.R = rm_Search_listSpots) (hr : K.meth.sig.returnType = none) (hlk : K.meth.locks = false) (v1 : Int32) (a : Int32 × Int32 × gx_S) (o : (Int32 × Int32 × gx_S) ⊕ (Nat × Int32 × Int32 × gx_S)) (hf : s_Search_listSpots_4 v1 a = some o) (hk : gx_or (pp_Search_listSpots_4 K E v1) (pq_Search_listSpots_4 K E v1) o) : pp_Search_listSpots_4 K E v1 a := by
  unfold s_Search_listSpots_4 at hf
  unfold pp_Search_listSpots_4
  refine gx_iload_n C 3 d_Search_listSpots_4 rfl rfl ?_
  refine gx_aload_n C 0 d_Search_listSpots_5 rfl rfl ?_
  refine gx_get C iw_Search 25 (gx_w25 E _) rfl 0 (by decide) gw_206 rfl rfl d_Search_listSpots_6 ?_
  refine gx_getN C iw_Grid 0 (gx_w0 E _) rfl 1 (by decide) gn_45 rfl rfl d_Search_listSpots_9 ?_
  refine gx_icmp_ge (tgt := 102) C d_Search_listSpots_12 (by decide) (fun h1 => ?_) (fun h1 => ?_)
  · have hf := (if_pos h1).symm.trans hf
    cases hf
    have hk : pq_Search_listSpots_4 K E v1 _ := hk
    unfold pq_Search_listSpots_4 at hk
    refine gx_lv (lv' := [(0, .ref (gx_ad E 25)), (1, .int v1), (2, .int a.1)]) [0, 1, 2] rfl ?_
    exact hk
  · have hf := (if_neg h1).symm.trans hf
    refine gx_iconst C (v := 0) d_Search_listSpots_15 (by decide) ?_
    refine gx_istore C (lv' := [(4, .int 0), (0, .ref (gx_ad E 25)), (1, .int v1), (2, .int a.1), (3, .int a.2.1)]) d_Search_listSpots_16 (by decide) rfl ?_
    refine gx_lv (lv' := [(0, .ref (gx_ad E 25)), (1, .int v1), (2, .int a.1), (3, .int a.2.1), (4, .int 0)]) [1, 2, 3, 4, 0] rfl ?_
    obtain ⟨e10, he10, hf⟩ := gx_bl_some hf
    refine (gx_loop (P := pp_Search_listSpots_18 K E v1 a.2.1) (Q := pq_Search_listSpots_18 K E v1 a.2.1) (fun a9 o9 h1 h2 => sc_Search_listSpots_18 C hR hr hlk v1 a.2.1 a9 o9 h1 h2) gx_fuel (a.1, 0, a.2.2) e10 he10 ?_ : pp_Search_listSpots_18 K E v1 a.2.1 (a.1, 0, a.2.2))
    unfold pq_Search_listSpots_18
    refine gx_iinc C (v := a.2.1 + 1) (lv' := [(3, .int (a.2.1 + 1)), (0, .ref (gx_ad E 25)), (1, .int v1), (2, .int e10.2.1)]) 3 d_Search_listSpots_96 rfl rfl (by decide) rfl ?_
    refine gx_goto (tgt := 4) C d_Search_listSpots_99 (by decide) ?_
    cases hf
    refine gx_lv (lv' := [(0, .ref (gx_ad E 25)), (1, .int v1), (2, .int e10.2.1), (3, .int (a.2.1 + 1))]) [1, 2, 3, 0] rfl ?_
    exact hk
set_option maxHeartbeats 4000000 in
set_option maxRecDepth 100000 in
theorem c_Search_listSpots (l : Launch) (a1 : Int32) (x : gx_S) (o : Int32 × gx_S) (hf : f_Search_listSpots a1 x = some o) : gx_Mv true l y_Search_listSpots prog_7_method_5_code 5 rm_Search_listSpots (fun E => [.ref (gx_ad E 25), .int a1]) x o.2 := by
  refine gx_metv (own := "CaseLayout$Search") (by decide) rfl (fun E => Nat.le_of_ble_eq_true rfl) (fun K E hl0 hR hr hlk hk C => ?_)
  subst hl0
  unfold f_Search_listSpots at hf
  show gx_G K E _ 0 0 x 0 [(0, .ref (gx_ad E 25)), (1, .int a1)] []
  refine gx_iconst C (v := 0) d_Search_listSpots_0 (by decide) ?_
  refine gx_istore_n C (lv' := [(2, .int 0), (0, .ref (gx_ad E 25)), (1, .int a1)]) d_Search_listSpots_1 rfl (by decide) rfl ?_
  refine gx_iconst C (v := 0) d_Search_listSpots_2 (by decide) ?_
  refine gx_istore_n C (lv' := [(3, .int 0), (2, .int 0), (0, .ref (gx_ad E 25)), (1, .int a1)]) d_Search_listSpots_3 rfl (by decide) rfl ?_
  refine gx_lv (lv' := [(0, .ref (gx_ad E 25)), (1, .int a1), (2, .int 0), (3, .int 0)]) [2, 3, 1, 0] rfl ?_
  obtain ⟨e11, he11, hf⟩ := gx_bl_some hf
  refine (gx_loop (P := pp_Search_listSpots_4 K E a1) (Q := pq_Search_listSpots_4 K E a1) (fun a9 o9 h1 h2 => sc_Search_listSpots_4 C hR hr hlk a1 a9 o9 h1 h2) gx_fuel (0, 0, x) e11 he11 ?_ : pp_Search_listSpots_4 K E a1 (0, 0, x))
  unfold pq_Search_listSpots_4
  refine gx_aload_n C 0 d_Search_listSpots_102 rfl rfl ?_
  refine gx_get C iw_Search 25 (gx_w25 E _) rfl 8 (by decide) gw_215 rfl rfl d_Search_listSpots_103 ?_
  refine gx_iload_n C 1 d_Search_listSpots_106 rfl rfl ?_
  refine gx_iload_n C 2 d_Search_listSpots_107 rfl rfl ?_
  obtain ⟨hi12, hf⟩ := gx_ck_some hf
  refine gx_iast C (x' := gx_sA e11.2.2.2 19 (a1 : Int32).toNatClampNeg e11.2.1) 27 0 (gx_w27 E _) rfl hi12 (gx_q27 E _ _ _) d_Search_listSpots_108 ?_
  cases hf
  exact gx_vret C hr hlk hk d_Search_listSpots_109

def s_Search_begin_11  (a : Int32 × gx_S) : Option ((Int32 × gx_S) ⊕ (Nat × Int32 × gx_S)) :=
  if (gx_gI a.2 3) ≤ a.1 then (some (.inr (0, a.1, a.2))) else (gx_bd (f_Search_listSpots a.1 a.2) (fun r3 x3 => some (.inl (a.1 + 1, x3))))
def f_Search_begin (a1 : Int32) (x : gx_S) : Option (Int32 × gx_S) :=
  gx_bd (f_Search_forget  x) (fun r1 x1 => gx_bl (gx_it (s_Search_begin_11 ) gx_fuel (0, gx_sI x1 8 a1)) (fun e4 => some (0, e4.2.2)))
abbrev rm_Search_begin : Room := { frames := 3, cells := 0, slots := 0, locals := 74 }
def pp_Search_begin_11 (K : gx_K) (E : gx_E)  (a : Int32 × gx_S) : Prop := gx_G K E (gx_AB true E K.s.heap.size) 0 0 (a.2) 11 [(0, .ref (gx_ad E 25)), (2, .int a.1)] []
def pq_Search_begin_11 (K : gx_K) (E : gx_E)  (b : Nat × Int32 × gx_S) : Prop := gx_G K E (gx_AB true E K.s.heap.size) 0 0 (b.2.2) 33 [] []
set_option maxHeartbeats 4000000 in
set_option maxRecDepth 100000 in
theorem sc_Search_begin_11 {K : gx_K} {E : gx_E} (C : gx_C K E "CaseLayout$Search" prog_7_method_4_code 3) (hR : K.R = rm_Search_begin) (hr : K.meth.sig.returnType = none) (hlk : K.meth.locks = false)  (a : Int32 × gx_S) (o : (Int32 × gx_S) ⊕ (Nat × Int32 × gx_S)) (hf : s_Search_begin_11  a = some o) (hk : gx_or (pp_Search_begin_11 K E ) (pq_Search_begin_11 K E ) o) : pp_Search_begin_11 K E  a := by
  unfold s_Search_begin_11 at hf
  unfold pp_Search_begin_11
  refine gx_iload_n C 1 d_Search_begin_11 rfl rfl ?_
  refine gx_aload_n C 0 d_Search_begin_12 rfl rfl ?_
  refine gx_get C iw_Search 25 (gx_w25 E _) rfl 1 (by decide) gw_207 rfl rfl d_Search_begin_13 ?_
  refine gx_getN C iw_Things 3 (gx_w3 E _) rfl 5 (by decide) gn_91 rfl rfl d_Search_begin_16 ?_
  refine gx_icmp_ge (tgt := 33) C d_Search_begin_19 (by decide) (fun h2 => ?_) (fun h2 => ?_)
  · have hf := (if_pos h2).symm.trans hf
    cases hf
    have hk : pq_Search_begin_11 K E  _ := hk
    unfold pq_Search_begin_11 at hk
    refine gx_lv (lv' := []) [] rfl ?_
    exact hk
  · have hf := (if_neg h2).symm.trans hf
    refine gx_aload_n C 0 d_Search_begin_22 rfl rfl ?_
    refine gx_iload_n C 1 d_Search_begin_23 rfl rfl ?_
    obtain ⟨r3, x3, hc3, hf⟩ := gx_bd_some hf
    refine gx_cVv (n2 := 0) (k2 := 0) C (As := [.int a.1]) (rest := []) 25 1 (c_Search_listSpots K.l a.1 a.2 _ hc3) (Or.inl rfl) rfl (gx_goodV gw_525 gw_527 gs_5 gw_8 gw_528) (by decide +kernel) (gx_w25 E _) rfl (by rw [hR]; decide) rfl rfl (Nat.le_of_ble_eq_true rfl) d_Search_begin_24 (by rw [hR]; decide) rfl rfl ?_
    refine gx_iinc C (v := a.1 + 1) (lv' := [(2, .int (a.1 + 1)), (0, .ref (gx_ad E 25))]) 1 d_Search_begin_27 rfl rfl (by decide) rfl ?_
    refine gx_goto (tgt := 11) C d_Search_begin_30 (by decide) ?_
    cases hf
    refine gx_lv (lv' := [(0, .ref (gx_ad E 25)), (2, .int (a.1 + 1))]) [1, 0] rfl ?_
    exact hk
set_option maxHeartbeats 4000000 in
set_option maxRecDepth 100000 in
theorem c_Search_begin (l : Launch) (a1 : Int32) (x : gx_S) (o : Int32 × gx_S) (hf : f_Search_begin a1 x = some o) : gx_Mv true l y_Search_begin prog_7_method_4_code 3 rm_Search_begin (fun E => [.ref (gx_ad E 25), .int a1]) x o.2 := by
  refine gx_metv (own := "CaseLayout$Search") (by decide) rfl (fun E => Nat.le_of_ble_eq_true rfl) (fun K E hl0 hR hr hlk hk C => ?_)
  subst hl0
  unfold f_Search_begin at hf
  show gx_G K E _ 0 0 x 0 [(0, .ref (gx_ad E 25)), (1, .int a1)] []
  refine gx_aload_n C 0 d_Search_begin_0 rfl rfl ?_
  obtain ⟨r1, x1, hc1, hf⟩ := gx_bd_some hf
  refine gx_cVv (n2 := 0) (k2 := 0) C (As := []) (rest := []) 25 0 (c_Search_forget K.l  x _ hc1) (Or.inl rfl) rfl (gx_goodV gw_524 gw_377 gw_378 gw_8 gw_379) (by decide +kernel) (gx_w25 E _) rfl (by rw [hR]; decide) rfl rfl (Nat.le_of_ble_eq_true rfl) d_Search_begin_1 (by rw [hR]; decide) rfl rfl ?_
  refine gx_aload_n C 0 d_Search_begin_4 rfl rfl ?_
  refine gx_iload_n C 1 d_Search_begin_5 rfl rfl ?_
  refine gx_put C (ty := .int) (x' := gx_sI x1 8 a1) iw_Search ty_Search tk_Search tn_Search 25 (gx_w25 E _) rfl 9 (by decide) gw_216 rfl rfl (by decide +kernel) rfl rfl (Nat.le_of_ble_eq_true rfl) (gx_p25_9 E _ _) d_Search_begin_6 ?_
  refine gx_iconst C (v := 0) d_Search_begin_9 (by decide) ?_
  refine gx_istore_n C (lv' := [(2, .int 0), (0, .ref (gx_ad E 25)), (1, .int a1)]) d_Search_begin_10 rfl (by decide) rfl ?_
  refine gx_lv (lv' := [(0, .ref (gx_ad E 25)), (2, .int 0)]) [1, 0] rfl ?_
  obtain ⟨e4, he4, hf⟩ := gx_bl_some hf
  refine (gx_loop (P := pp_Search_begin_11 K E ) (Q := pq_Search_begin_11 K E ) (fun a9 o9 h1 h2 => sc_Search_begin_11 C hR hr hlk  a9 o9 h1 h2) gx_fuel (0, gx_sI x1 8 a1) e4 he4 ?_ : pp_Search_begin_11 K E  (0, gx_sI x1 8 a1))
  unfold pq_Search_begin_11
  cases hf
  exact gx_vret C hr hlk hk d_Search_begin_33
