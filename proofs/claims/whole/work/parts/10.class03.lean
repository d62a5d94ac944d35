def s_Search_listSpots_18 (v1 : Int32) (v3 : Int32) (a : Int32 × Int32 × gx_S) : Option ((Int32 × Int32 × gx_S) ⊕ (Nat × Int32 × Int32 × gx_S)) :=
  if (gx_gI a.2.2 0) ≤ a.2.1 then (some (.inr (0, a.1, a.2.1, a.2.2))) else (gx_ck v1 7 (gx_ck v1 7 (gx_ck v1 7 (gx_bd (f_Grid_carries a.2.1 v3 (gx_gA a.2.2 2 (v1 : Int32).toNatClampNeg) (gx_gA a.2.2 3 (v1 : Int32).toNatClampNeg) (gx_gA a.2.2 4 (v1 : Int32).toNatClampNeg) a.2.2) (fun r6 x6 => if r6 = 0 then (some (.inl (a.1, a.2.1 + 1, x6))) else (gx_bd (f_CaseLayout_cellOf a.2.1 v3 x6) (fun r8 x8 => gx_ck ((v1 * 81) + a.1) 567 (some (.inl (a.1 + 1, a.2.1 + 1, gx_sA x8 18 ((v1 * 81) + a.1 : Int32).toNatClampNeg r8))))))))))
def s_Search_listSpots_4 (v1 : Int32) (a : Int32 × Int32 × gx_S) : Option ((Int32 × Int32 × gx_S) ⊕ (Nat × Int32 × Int32 × gx_S)) :=
  if (gx_gI a.2.2 1) ≤ a.2.1 then (some (.inr (0, a.1, a.2.1, a.2.2))) else (gx_bl (gx_it (s_Search_listSpots_18 v1 a.2.1) gx_fuel (a.1, 0, a.2.2)) (fun e10 => some (.inl (e10.2.1, a.2.1 + 1, e10.2.2.2))))
def f_Search_listSpots (a1 : Int32) (x : gx_S) : Option (Int32 × gx_S) :=
  gx_bl (gx_it (s_Search_listSpots_4 a1) gx_fuel (0, 0, x)) (fun e11 => gx_ck a1 7 (some (0, gx_sA e11.2.2.2 19 (a1 : Int32).toNatClampNeg e11.2.1)))
abbrev rm_Search_listSpots : Room := { frames := 2, cells := 0, slots := 0, locals := 50 }
def pp_Search_listSpots_18 (K : gx_K) (E : gx_E) (v1 : Int32) (v3 : Int32) (a : Int32 × Int32 × gx_S) : Prop := gx_G K E (gx_AB true E K.s.heap.size) 0 0 (a.2.2) 18 [(0, .ref (gx_ad E 25)), (1, .int v1), (2, .int a.1), (3, .int v3), (4, .int a.2.1)] []
def pq_Search_listSpots_18 (K : gx_K) (E : gx_E) (v1 : Int32) (v3 : Int32) (b : Nat × Int32 × Int32 × gx_S) : Prop := gx_G K E (gx_AB true E K.s.heap.size) 0 0 (b.2.2.2) 96 [(0, .ref (gx_ad E 25)), (1, .int v1), (2, .int b.2.1), (3, .int v3)] []
def pp_Search_listSpots_4 (K : gx_K) (E : gx_E) (v1 : Int32) (a : Int32 × Int32 × gx_S) : Prop := gx_G K E (gx_AB true E K.s.heap.size) 0 0 (a.2.2) 4 [(0, .ref (gx_ad E 25)), (1, .int v1), (2, .int a.1), (3, .int a.2.1)] []
def pq_Search_listSpots_4 (K : gx_K) (E : gx_E) (v1 : Int32) (b : Nat × Int32 × Int32 × gx_S) : Prop := gx_G K E (gx_AB true E K.s.heap.size) 0 0 (b.2.2.2) 102 [(0, .ref (gx_ad E 25)), (1, .int v1), (2, .int b.2.1)] []
set_option maxHeartbeats 4000000 in
set_option maxRecDepth 100000 in
theorem sc_Search_listSpots_18 {K : gx_K} {E : gx_E} (C : gx_C K E "CaseLayout$Search" prog_7_method_5_code 5) (hR : K.R = rm_Search_listSpots) (hr : K.meth.sig.returnType = none) (hlk : K.meth.locks = false) (v1 : Int32) (v3 : Int32) (a : Int32 × Int32 × gx_S) (o : (Int32 × Int32 × gx_S) ⊕ (Nat × Int32 × Int32 × gx_S)) (hf : s_Search_listSpots_18 v1 v3 a = some o) (hk : gx_or (pp_Search_listSpots_18 K E v1 v3) (pq_Search_listSpots_18 K E v1 v3) o) : pp_Search_listSpots_18 K E v1 v3 a := by
  unfold s_Search_listSpots_18 at hf
  unfold pp_Search_listSpots_18
  refine gx_iload C 4 d_Search_listSpots_18 rfl ?_
  refine gx_aload_n C 0 d_Search_listSpots_20 rfl rfl ?_
  refine gx_get C iw_Search 25 (gx_w25 E _) rfl 0 (by decide) gw_206 rfl rfl d_Search_listSpots_21 ?_
  refine gx_getN C iw_Grid 0 (gx_w0 E _) rfl 0 (by decide) gn_43 rfl rfl d_Search_listSpots_24 ?_
  refine gx_icmp_ge (tgt := 96) C d_Search_listSpots_27 (by decide) (fun h2 => ?_) (fun h2 => ?_)
  · have hf := (if_pos h2).symm.trans hf
    cases hf
    have hk : pq_Search_listSpots_18 K E v1 v3 _ := hk
    unfold pq_Search_listSpots_18 at hk
    refine gx_lv (lv' := [(0, .ref (gx_ad E 25)), (1, .int v1), (2, .int a.1), (3, .int v3)]) [0, 1, 2, 3] rfl ?_
    exact hk
  · have hf := (if_neg h2).symm.trans hf
    refine gx_aload_n C 0 d_Search_listSpots_30 rfl rfl ?_
    refine gx_get C iw_Search 25 (gx_w25 E _) rfl 0 (by decide) gw_206 rfl rfl d_Search_listSpots_31 ?_
    refine gx_iload C 4 d_Search_listSpots_34 rfl ?_
    refine gx_iload_n C 3 d_Search_listSpots_36 rfl rfl ?_
    refine gx_aload_n C 0 d_Search_listSpots_37 rfl rfl ?_
    refine gx_get C iw_Search 25 (gx_w25 E _) rfl 1 (by decide) gw_207 rfl rfl d_Search_listSpots_38 ?_
    refine gx_getN C iw_Things 3 (gx_w3 E _) rfl 0 (by decide) gn_75 rfl rfl d_Search_listSpots_41 ?_
    refine gx_iload_n C 1 d_Search_listSpots_44 rfl rfl ?_
    obtain ⟨hi3, hf⟩ := gx_ck_some hf
    refine gx_iald C 4 0 (gx_w4 E _) rfl hi3 d_Search_listSpots_45 ?_
    refine gx_aload_n C 0 d_Search_listSpots_46 rfl rfl ?_
    refine gx_get C iw_Search 25 (gx_w25 E _) rfl 1 (by decide) gw_207 rfl rfl d_Search_listSpots_47 ?_
    refine gx_getN C iw_Things 3 (gx_w3 E _) rfl 1 (by decide) gn_79 rfl rfl d_Search_listSpots_50 ?_
    refine gx_iload_n C 1 d_Search_listSpots_53 rfl rfl ?_
    obtain ⟨hi4, hf⟩ := gx_ck_some hf
    refine gx_iald C 5 0 (gx_w5 E _) rfl hi4 d_Search_listSpots_54 ?_
    refine gx_aload_n C 0 d_Search_listSpots_55 rfl rfl ?_
    refine gx_get C iw_Search 25 (gx_w25 E _) rfl 1 (by decide) gw_207 rfl rfl d_Search_listSpots_56 ?_
    refine gx_getN C iw_Things 3 (gx_w3 E _) rfl 2 (by decide) gn_81 rfl rfl d_Search_listSpots_59 ?_
    refine gx_iload_n C 1 d_Search_listSpots_62 rfl rfl ?_
    obtain ⟨hi5, hf⟩ := gx_ck_some hf
    refine gx_iald C 6 0 (gx_w6 E _) rfl hi5 d_Search_listSpots_63 ?_
    obtain ⟨r6, x6, hc6, hf⟩ := gx_bd_some hf
    refine gx_cVi (n2 := 0) (k2 := 0) C (As := [.int a.2.1, .int v3, .int (gx_gA a.2.2 2 (v1 : Int32).toNatClampNeg), .int (gx_gA a.2.2 3 (v1 : Int32).toNatClampNeg), .int (gx_gA a.2.2 4 (v1 : Int32).toNatClampNeg)]) (rest := []) 0 5 (c_Grid_carries K.l a.2.1 v3 (gx_gA a.2.2 2 (v1 : Int32).toNatClampNeg) (gx_gA a.2.2 3 (v1 : Int32).toNatClampNeg) (gx_gA a.2.2 4 (v1 : Int32).toNatClampNeg) a.2.2 _ hc6) (Or.inl rfl) rfl (gx_goodV gw_529 gw_530 gw_531 gw_2 gw_532) (by decide +kernel) (gx_w0 E _) rfl (by rw [hR]; decide) rfl rfl (Nat.le_of_ble_eq_true rfl) d_Search_listSpots_64 (by rw [hR]; decide) rfl rfl ?_
    refine gx_if_eq (tgt := 90) C d_Search_listSpots_67 (by decide) (fun h7 => ?_) (fun h7 => ?_)
    · have hf := (if_pos h7).symm.trans hf
      refine gx_iinc C (v := a.2.1 + 1) (lv' := [(4, .int (a.2.1 + 1)), (0, .ref (gx_ad E 25)), (1, .int v1), (2, .int a.1), (3, .int v3)]) 4 d_Search_listSpots_90 rfl rfl (by decide) rfl ?_
      refine gx_goto (tgt := 18) C d_Search_listSpots_93 (by decide) ?_
      cases hf
      refine gx_lv (lv' := [(0, .ref (gx_ad E 25)), (1, .int v1), (2, .int a.1), (3, .int v3), (4, .int (a.2.1 + 1))]) [1, 2, 3, 4, 0] rfl ?_
      exact hk
    · have hf := (if_neg h7).symm.trans hf
      refine gx_aload_n C 0 d_Search_listSpots_70 rfl rfl ?_
      refine gx_get C iw_Search 25 (gx_w25 E _) rfl 7 (by decide) gw_214 rfl rfl d_Search_listSpots_71 ?_
      refine gx_iload_n C 1 d_Search_listSpots_74 rfl rfl ?_
      refine gx_bipush C (v := 81) d_Search_listSpots_75 (by decide) ?_
      refine gx_imul C d_Search_listSpots_77 ?_
      refine gx_iload_n C 2 d_Search_listSpots_78 rfl rfl ?_
      refine gx_iadd C d_Search_listSpots_79 ?_
      refine gx_iload C 4 d_Search_listSpots_80 rfl ?_
      refine gx_iload_n C 3 d_Search_listSpots_82 rfl rfl ?_
      obtain ⟨r8, x8, hc8, hf⟩ := gx_bd_some hf
      refine gx_cSNi (n2 := 0) (k2 := 0) C (As := [.int a.2.1, .int v3]) (rest := [.int ((v1 * 81) + a.1), .ref (gx_ad E 26)]) 2 (c_CaseLayout_cellOf K.l a.2.1 v3 x6 _ hc8) (Or.inl rfl) rfl gw_362 gn_535 gw_1 gw_361 (by decide +kernel) (by rw [hR]; decide) rfl rfl (Nat.le_of_ble_eq_true rfl) d_Search_listSpots_83 (by rw [hR]; decide) rfl rfl ?_
      obtain ⟨hi9, hf⟩ := gx_ck_some hf
      refine gx_iast C (x' := gx_sA x8 18 ((v1 * 81) + a.1 : Int32).toNatClampNeg r8) 26 0 (gx_w26 E _) rfl hi9 (gx_q26 E _ _ _) d_Search_listSpots_86 ?_
      refine gx_iinc C (v := a.1 + 1) (lv' := [(2, .int (a.1 + 1)), (0, .ref (gx_ad E 25)), (1, .int v1), (3, .int v3), (4, .int a.2.1)]) 2 d_Search_listSpots_87 rfl rfl (by decide) rfl ?_
      refine gx_iinc C (v := a.2.1 + 1) (lv' := [(4, .int (a.2.1 + 1)), (2, .int (a.1 + 1)), (0, .ref (gx_ad E 25)), (1, .int v1), (3, .int v3)]) 4 d_Search_listSpots_90 rfl rfl (by decide) rfl ?_
      refine gx_goto (tgt := 18) C d_Search_listSpots_93 (by decide) ?_
      cases hf
      refine gx_lv (lv' := [(0, .ref (gx_ad E 25)), (1, .int v1), (2, .int (a.1 + 1)), (3, .int v3), (4, .int (a.2.1 + 1))]) [2, 3, 1, 4, 0] rfl ?_
      exact hk
set_option maxHeartbeats 4000000 in
set_option maxRecDepth 100000 in
theorem sc_Search_listSpots_4 {K : gx_K} {E : gx_E} (C : gx_C K E "CaseLayout$Search" prog_7_method_5_code 5) (hR : K.R = rm_Search_listSpots) (hr : K.meth.sig.returnType = none) (hlk : K.meth.locks = false) (v1 : Int32) (a : Int32 × Int32 × gx_S) (o : (Int32 × Int32 × gx_S) ⊕ (Nat × Int32 × Int32 × gx_S)) (hf : s_Search_listSpots_4 v1 a = some o) (hk : gx_or (pp_Search_listSpots_4 K E v1) (pq_Search_listSpots_4 K E v1) o) : pp_Search_listSpots_4 K E v1 a := by
  unfold s_Search_listSpots_4 at hf
  unfold pp_Search_listSpots_4
  refine gx_iload_n C 3 d_Search_listSpots_4 rfl rfl ?_
  refine gx_aload_n C 0 d_Search_listSpots_5 rfl rfl ?_
  refine gx_get C iw_Search 25 (gx_w25 E _) rfl 0 (by decide) gw_206 rfl rfl d_Search_listSpots_6 ?_
  refine gx_getN C iw_Grid 0 (gx_w0 E _) rfl 1 (by decide) gn_45 rfl rfl d_Search_listSpots_9 ?_
  refine gx_icmp_ge (tgt := 102) C d_Search_listSpots_12 (by decide) (fun h1 => ?_) (fun h1 => ?_)
  · have hf := (if_pos h1).symm.trans hf
    cases hf
    have hk : pq_Search_listSpots_4 K E v1 _ := hk
    unfold pq_Search_listSpots_4 at hk
    refine gx_lv (lv' := [(0, .ref (gx_ad E 25)), (1, .int v1), (2, .int a.1)]) [0, 1, 2] rfl ?_
    exact hk
  · have hf := (if_neg h1).symm.trans hf
    refine gx_iconst C (v := 0) d_Search_listSpots_15 (by decide) ?_
    refine gx_istore C (lv' := [(4, .int 0), (0, .ref (gx_ad E 25)), (1, .int v1), (2, .int a.1), (3, .int a.2.1)]) d_Search_listSpots_16 (by decide) rfl ?_
    refine gx_lv (lv' := [(0, .ref (gx_ad E 25)), (1, .int v1), (2, .int a.1), (3, .int a.2.1), (4, .int 0)]) [1, 2, 3, 4, 0] rfl ?_
    obtain ⟨e10, he10, hf⟩ := gx_bl_some hf
    refine (gx_loop (P := pp_Search_listSpots_18 K E v1 a.2.1) (Q := pq_Search_listSpots_18 K E v1 a.2.1) (fun a9 o9 h1 h2 => sc_Search_listSpots_18 C hR hr hlk v1 a.2.1 a9 o9 h1 h2) gx_fuel (a.1, 0, a.2.2) e10 he10 ?_ : pp_Search_listSpots_18 K E v1 a.2.1 (a.1, 0, a.2.2))
    unfold pq_Search_listSpots_18
    refine gx_iinc C (v := a.2.1 + 1) (lv' := [(3, .int (a.2.1 + 1)), (0, .ref (gx_ad E 25)), (1, .int v1), (2, .int e10.2.1)]) 3 d_Search_listSpots_96 rfl rfl (by decide) rfl ?_
    refine gx_goto (tgt := 4) C d_Search_listSpots_99 (by decide) ?_
    cases hf
    refine gx_lv (lv' := [(0, .ref (gx_ad E 25)), (1, .int v1), (2, .int e10.2.1), (3, .int (a.2.1 + 1))]) [1, 2, 3, 0] rfl ?_
    exact hk
set_option maxHeartbeats 4000000 in
set_option maxRecDepth 100000 in
theorem c_Search_listSpots (l : Launch) (a1 : Int32) (x : gx_S) (o : Int32 × gx_S) (hf : f_Search_listSpots a1 x = some o) : gx_Mv true l y_Search_listSpots prog_7_method_5_code 5 rm_Search_listSpots (fun E => [.ref (gx_ad E 25), .int a1]) x o.2 := by
  refine gx_metv (own := "CaseLayout$Search") (by decide) rfl (fun E => Nat.le_of_ble_eq_true rfl) (fun K E hl0 hR hr hlk hk C => ?_)
  subst hl0
  unfold f_Search_listSpots at hf
  show gx_G K E _ 0 0 x 0 [(0, .ref (gx_ad E 25)), (1, .int a1)] []
  refine gx_iconst C (v := 0) d_Search_listSpots_0 (by decide) ?_
  refine gx_istore_n C (lv' := [(2, .int 0), (0, .ref (gx_ad E 25)), (1, .int a1)]) d_Search_listSpots_1 rfl (by decide) rfl ?_
  refine gx_iconst C (v := 0) d_Search_listSpots_2 (by decide) ?_
  refine gx_istore_n C (lv' := [(3, .int 0), (2, .int 0), (0, .ref (gx_ad E 25)), (1, .int a1)]) d_Search_listSpots_3 rfl (by decide) rfl ?_
  refine gx_lv (lv' := [(0, .ref (gx_ad E 25)), (1, .int a1), (2, .int 0), (3, .int 0)]) [2, 3, 1, 0] rfl ?_
  obtain ⟨e11, he11, hf⟩ := gx_bl_some hf
  refine (gx_loop (P := pp_Search_listSpots_4 K E a1) (Q := pq_Search_listSpots_4 K E a1) (fun a9 o9 h1 h2 => sc_Search_listSpots_4 C hR hr hlk a1 a9 o9 h1 h2) gx_fuel (0, 0, x) e11 he11 ?_ : pp_Search_listSpots_4 K E a1 (0, 0, x))
  unfold pq_Search_listSpots_4
  refine gx_aload_n C 0 d_Search_listSpots_102 rfl rfl ?_
  refine gx_get C iw_Search 25 (gx_w25 E _) rfl 8 (by decide) gw_215 rfl rfl d_Search_listSpots_103 ?_
  refine gx_iload_n C 1 d_Search_listSpots_106 rfl rfl ?_
  refine gx_iload_n C 2 d_Search_listSpots_107 rfl rfl ?_
  obtain ⟨hi12, hf⟩ := gx_ck_some hf
  refine gx_iast C (x' := gx_sA e11.2.2.2 19 (a1 : Int32).toNatClampNeg e11.2.1) 27 0 (gx_w27 E _) rfl hi12 (gx_q27 E _ _ _) d_Search_listSpots_108 ?_
  cases hf
  exact gx_vret C hr hlk hk d_Search_listSpots_109

def s_Search_begin_11  (a : Int32 × gx_S) : Option ((Int32 × gx_S) ⊕ (Nat × Int32 × gx_S)) :=
  if (gx_gI a.2 3) ≤ a.1 then (some (.inr (0, a.1, a.2))) else (gx_bd (f_Search_listSpots a.1 a.2) (fun r3 x3 => some (.inl (a.1 + 1, x3))))
def f_Search_begin (a1 : Int32) (x : gx_S) : Option (Int32 × gx_S) :=
  gx_bd (f_Search_forget  x) (fun r1 x1 => gx_bl (gx_it (s_Search_begin_11 ) gx_fuel (0, gx_sI x1 8 a1)) (fun e4 => some (0, e4.2.2)))
abbrev rm_Search_begin : Room := { frames := 3, cells := 0, slots := 0, locals := 74 }
def pp_Search_begin_11 (K : gx_K) (E : gx_E)  (a : Int32 × gx_S) : Prop := gx_G K E (gx_AB true E K.s.heap.size) 0 0 (a.2) 11 [(0, .ref (gx_ad E 25)), (2, .int a.1)] []
def pq_Search_begin_11 (K : gx_K) (E : gx_E)  (b : Nat × Int32 × gx_S) : Prop := gx_G K E (gx_AB true E K.s.heap.size) 0 0 (b.2.2) 33 [] []
set_option maxHeartbeats 4000000 in
set_option maxRecDepth 100000 in
theorem sc_Search_begin_11 {K : gx_K} {E : gx_E} (C : gx_C K E "CaseLayout$Search" prog_7_method_4_code 3) (hR : K.R = rm_Search_begin) (hr : K.meth.sig.returnType = none) (hlk : K.meth.locks = false)  (a : Int32 × gx_S) (o : (Int32 × gx_S) ⊕ (Nat × Int32 × gx_S)) (hf : s_Search_begin_11  a = some o) (hk : gx_or (pp_Search_begin_11 K E ) (pq_Search_begin_11 K E ) o) : pp_Search_begin_11 K E  a := by
  unfold s_Search_begin_11 at hf
  unfold pp_Search_begin_11
  refine gx_iload_n C 1 d_Search_begin_11 rfl rfl ?_
  refine gx_aload_n C 0 d_Search_begin_12 rfl rfl ?_
  refine gx_get C iw_Search 25 (gx_w25 E _) rfl 1 (by decide) gw_207 rfl rfl d_Search_begin_13 ?_
  refine gx_getN C iw_Things 3 (gx_w3 E _) rfl 5 (by decide) gn_91 rfl rfl d_Search_begin_16 ?_
  refine gx_icmp_ge (tgt := 33) C d_Search_begin_19 (by decide) (fun h2 => ?_) (fun h2 => ?_)
  · have hf := (if_pos h2).symm.trans hf
    cases hf
    have hk : pq_Search_begin_11 K E  _ := hk
    unfold pq_Search_begin_11 at hk
    refine gx_lv (lv' := []) [] rfl ?_
    exact hk
  · have hf := (if_neg h2).symm.trans hf
    refine gx_aload_n C 0 d_Search_begin_22 rfl rfl ?_
    refine gx_iload_n C 1 d_Search_begin_23 rfl rfl ?_
    obtain ⟨r3, x3, hc3, hf⟩ := gx_bd_some hf
    refine gx_cVv (n2 := 0) (k2 := 0) C (As := [.int a.1]) (rest := []) 25 1 (c_Search_listSpots K.l a.1 a.2 _ hc3) (Or.inl rfl) rfl (gx_goodV gw_525 gw_527 gs_5 gw_8 gw_528) (by decide +kernel) (gx_w25 E _) rfl (by rw [hR]; decide) rfl rfl (Nat.le_of_ble_eq_true rfl) d_Search_begin_24 (by rw [hR]; decide) rfl rfl ?_
    refine gx_iinc C (v := a.1 + 1) (lv' := [(2, .int (a.1 + 1)), (0, .ref (gx_ad E 25))]) 1 d_Search_begin_27 rfl rfl (by decide) rfl ?_
    refine gx_goto (tgt := 11) C d_Search_begin_30 (by decide) ?_
    cases hf
    refine gx_lv (lv' := [(0, .ref (gx_ad E 25)), (2, .int (a.1 + 1))]) [1, 0] rfl ?_
    exact hk
set_option maxHeartbeats 4000000 in
set_option maxRecDepth 100000 in
theorem c_Search_begin (l : Launch) (a1 : Int32) (x : gx_S) (o : Int32 × gx_S) (hf : f_Search_begin a1 x = some o) : gx_Mv true l y_Search_begin prog_7_method_4_code 3 rm_Search_begin (fun E => [.ref (gx_ad E 25), .int a1]) x o.2 := by
  refine gx_metv (own := "CaseLayout$Search") (by decide) rfl (fun E => Nat.le_of_ble_eq_true rfl) (fun K E hl0 hR hr hlk hk C => ?_)
  subst hl0
  unfold f_Search_begin at hf
  show gx_G K E _ 0 0 x 0 [(0, .ref (gx_ad E 25)), (1, .int a1)] []
  refine gx_aload_n C 0 d_Search_begin_0 rfl rfl ?_
  obtain ⟨r1, x1, hc1, hf⟩ := gx_bd_some hf
  refine gx_cVv (n2 := 0) (k2 := 0) C (As := []) (rest := []) 25 0 (c_Search_forget K.l  x _ hc1) (Or.inl rfl) rfl (gx_goodV gw_524 gw_377 gw_378 gw_8 gw_379) (by decide +kernel) (gx_w25 E _) rfl (by rw [hR]; decide) rfl rfl (Nat.le_of_ble_eq_true rfl) d_Search_begin_1 (by rw [hR]; decide) rfl rfl ?_
  refine gx_aload_n C 0 d_Search_begin_4 rfl rfl ?_
  refine gx_iload_n C 1 d_Search_begin_5 rfl rfl ?_
  refine gx_put C (ty := .int) (x' := gx_sI x1 8 a1) iw_Search ty_Search tk_Search tn_Search 25 (gx_w25 E _) rfl 9 (by decide) gw_216 rfl rfl (by decide +kernel) rfl rfl (Nat.le_of_ble_eq_true rfl) (gx_p25_9 E _ _) d_Search_begin_6 ?_
  refine gx_iconst C (v := 0) d_Search_begin_9 (by decide) ?_
  refine gx_istore_n C (lv' := [(2, .int 0), (0, .ref (gx_ad E 25)), (1, .int a1)]) d_Search_begin_10 rfl (by decide) rfl ?_
  refine gx_lv (lv' := [(0, .ref (gx_ad E 25)), (2, .int 0)]) [1, 0] rfl ?_
  obtain ⟨e4, he4, hf⟩ := gx_bl_some hf
  refine (gx_loop (P := pp_Search_begin_11 K E ) (Q := pq_Search_begin_11 K E ) (fun a9 o9 h1 h2 => sc_Search_begin_11 C hR hr hlk  a9 o9 h1 h2) gx_fuel (0, gx_sI x1 8 a1) e4 he4 ?_ : pp_Search_begin_11 K E  (0, gx_sI x1 8 a1))
  unfold pq_Search_begin_11
  cases hf
  exact gx_vret C hr hlk hk d_Search_begin_33

def s_Floor_cover_39 (v2 : Int32) (v3 : Int32) (v4 : Int32) (v5 : Int32) (a : Int32 × gx_S) : Option ((Int32 × gx_S) ⊕ (Nat × Int32 × gx_S)) :=
  gx_ck v2 7 (if (v3 + (gx_gA a.2 2 (v2 : Int32).toNatClampNeg)) ≤ a.1 then (some (.inr (0, a.1, a.2))) else (gx_bd (f_Grid_holds a.1 v5 a.2) (fun r7 x7 => if r7 = 0 then (some (.inl (a.1 + 1, x7))) else (gx_bd (f_CaseLayout_cellOf a.1 v5 x7) (fun r9 x9 => gx_ck r9 81 (some (.inl (a.1 + 1, gx_sA x9 11 (r9 : Int32).toNatClampNeg v2))))))))
def s_Floor_cover_19 (v2 : Int32) (v3 : Int32) (v4 : Int32) (a : Int32 × gx_S) : Option ((Int32 × gx_S) ⊕ (Nat × Int32 × gx_S)) :=
  gx_ck v2 7 (if (v4 + (gx_gA a.2 3 (v2 : Int32).toNatClampNeg)) ≤ a.1 then (some (.inr (0, a.1, a.2))) else (gx_bl (gx_it (s_Floor_cover_39 v2 v3 v4 a.1) gx_fuel (v3, a.2)) (fun e11 => some (.inl (a.1 + 1, e11.2.2)))))
def f_Floor_cover (a2 : Int32) (x : gx_S) : Option (Int32 × gx_S) :=
  gx_ck a2 7 (gx_ck a2 7 (gx_bl (gx_it (s_Floor_cover_19 a2 (gx_gA x 14 (a2 : Int32).toNatClampNeg) (gx_gA x 15 (a2 : Int32).toNatClampNeg)) gx_fuel (gx_gA x 15 (a2 : Int32).toNatClampNeg, x)) (fun e12 => some (0, e12.2.2))))
abbrev rm_Floor_cover : Room := { frames := 1, cells := 0, slots := 0, locals := 22 }
def pp_Floor_cover_39 (K : gx_K) (E : gx_E) (v2 : Int32) (v3 : Int32) (v4 : Int32) (v5 : Int32) (a : Int32 × gx_S) : Prop := gx_G K E (gx_AB true E K.s.heap.size) 0 0 (a.2) 39 [(0, .ref (gx_ad E 15)), (1, .ref (gx_ad E 19)), (2, .int v2), (3, .int v3), (4, .int v4), (5, .int v5), (6, .int a.1)] []
def pq_Floor_cover_39 (K : gx_K) (E : gx_E) (v2 : Int32) (v3 : Int32) (v4 : Int32) (v5 : Int32) (b : Nat × Int32 × gx_S) : Prop := gx_G K E (gx_AB true E K.s.heap.size) 0 0 (b.2.2) 88 [(0, .ref (gx_ad E 15)), (1, .ref (gx_ad E 19)), (2, .int v2), (3, .int v3), (4, .int v4), (5, .int v5)] []
def pp_Floor_cover_19 (K : gx_K) (E : gx_E) (v2 : Int32) (v3 : Int32) (v4 : Int32) (a : Int32 × gx_S) : Prop := gx_G K E (gx_AB true E K.s.heap.size) 0 0 (a.2) 19 [(0, .ref (gx_ad E 15)), (1, .ref (gx_ad E 19)), (2, .int v2), (3, .int v3), (4, .int v4), (5, .int a.1)] []
def pq_Floor_cover_19 (K : gx_K) (E : gx_E) (v2 : Int32) (v3 : Int32) (v4 : Int32) (b : Nat × Int32 × gx_S) : Prop := gx_G K E (gx_AB true E K.s.heap.size) 0 0 (b.2.2) 94 [] []
set_option maxHeartbeats 4000000 in
set_option maxRecDepth 100000 in
theorem sc_Floor_cover_39 {K : gx_K} {E : gx_E} (C : gx_C K E "CaseLayout$Floor" prog_3_method_3_code 7) (hR : K.R = rm_Floor_cover) (hr : K.meth.sig.returnType = none) (hlk : K.meth.locks = false) (v2 : Int32) (v3 : Int32) (v4 : Int32) (v5 : Int32) (a : Int32 × gx_S) (o : (Int32 × gx_S) ⊕ (Nat × Int32 × gx_S)) (hf : s_Floor_cover_39 v2 v3 v4 v5 a = some o) (hk : gx_or (pp_Floor_cover_39 K E v2 v3 v4 v5) (pq_Floor_cover_39 K E v2 v3 v4 v5) o) : pp_Floor_cover_39 K E v2 v3 v4 v5 a := by
  unfold s_Floor_cover_39 at hf
  unfold pp_Floor_cover_39
  refine gx_iload C 6 d_Floor_cover_39 rfl ?_
  refine gx_iload_n C 3 d_Floor_cover_41 rfl rfl ?_
  refine gx_aload_n C 1 d_Floor_cover_42 rfl rfl ?_
  refine gx_getN C iw_Layout 19 (gx_w19 E _) rfl 0 (by decide) gn_190 rfl rfl d_Floor_cover_43 ?_
  refine gx_getN C iw_Things 3 (gx_w3 E _) rfl 0 (by decide) gn_74 rfl rfl d_Floor_cover_46 ?_
  refine gx_iload_n C 2 d_Floor_cover_49 rfl rfl ?_
  obtain ⟨hi5, hf⟩ := gx_ck_some hf
  refine gx_iald C 4 0 (gx_w4 E _) rfl hi5 d_Floor_cover_50 ?_
  refine gx_iadd C d_Floor_cover_51 ?_
  refine gx_icmp_ge (tgt := 88) C d_Floor_cover_52 (by decide) (fun h6 => ?_) (fun h6 => ?_)
  · have hf := (if_pos h6).symm.trans hf
    cases hf
    have hk : pq_Floor_cover_39 K E v2 v3 v4 v5 _ := hk
    unfold pq_Floor_cover_39 at hk
    refine gx_lv (lv' := [(0, .ref (gx_ad E 15)), (1, .ref (gx_ad E 19)), (2, .int v2), (3, .int v3), (4, .int v4), (5, .int v5)]) [0, 1, 2, 3, 4, 5] rfl ?_
    exact hk
  · have hf := (if_neg h6).symm.trans hf
    refine gx_aload_n C 0 d_Floor_cover_55 rfl rfl ?_
    refine gx_get C iw_Floor 15 (gx_w15 E _) rfl 0 (by decide) gw_160 rfl rfl d_Floor_cover_56 ?_
    refine gx_iload C 6 d_Floor_cover_59 rfl ?_
    refine gx_iload C 5 d_Floor_cover_61 rfl ?_
    obtain ⟨r7, x7, hc7, hf⟩ := gx_bd_some hf
    refine gx_cVi (n2 := 0) (k2 := 0) C (As := [.int a.1, .int v5]) (rest := []) 0 2 (c_Grid_holds K.l a.1 v5 a.2 _ hc7) (Or.inl rfl) rfl (gx_goodV gw_552 gw_289 gw_290 gw_2 gw_291) (by decide +kernel) (gx_w0 E _) rfl (by rw [hR]; decide) rfl rfl (Nat.le_of_ble_eq_true rfl) d_Floor_cover_63 (by rw [hR]; decide) rfl rfl ?_
    refine gx_if_eq (tgt := 82) C d_Floor_cover_66 (by decide) (fun h8 => ?_) (fun h8 => ?_)
    · have hf := (if_pos h8).symm.trans hf
      refine gx_iinc C (v := a.1 + 1) (lv' := [(6, .int (a.1 + 1)), (0, .ref (gx_ad E 15)), (1, .ref (gx_ad E 19)), (2, .int v2), (3, .int v3), (4, .int v4), (5, .int v5)]) 6 d_Floor_cover_82 rfl rfl (by decide) rfl ?_
      refine gx_goto (tgt := 39) C d_Floor_cover_85 (by decide) ?_
      cases hf
      refine gx_lv (lv' := [(0, .ref (gx_ad E 15)), (1, .ref (gx_ad E 19)), (2, .int v2), (3, .int v3), (4, .int v4), (5, .int v5), (6, .int (a.1 + 1))]) [1, 2, 3, 4, 5, 6, 0] rfl ?_
      exact hk
    · have hf := (if_neg h8).symm.trans hf
      refine gx_aload_n C 0 d_Floor_cover_69 rfl rfl ?_
      refine gx_get C iw_Floor 15 (gx_w15 E _) rfl 1 (by decide) gw_161 rfl rfl d_Floor_cover_70 ?_
      refine gx_iload C 6 d_Floor_cover_73 rfl ?_
      refine gx_iload C 5 d_Floor_cover_75 rfl ?_
      obtain ⟨r9, x9, hc9, hf⟩ := gx_bd_some hf
      refine gx_cSNi (n2 := 0) (k2 := 0) C (As := [.int a.1, .int v5]) (rest := [.ref (gx_ad E 16)]) 2 (c_CaseLayout_cellOf K.l a.1 v5 x7 _ hc9) (Or.inl rfl) rfl gw_362 gn_553 gw_1 gw_361 (by decide +kernel) (by rw [hR]; decide) rfl rfl (Nat.le_of_ble_eq_true rfl) d_Floor_cover_77 (by rw [hR]; decide) rfl rfl ?_
      refine gx_iload_n C 2 d_Floor_cover_80 rfl rfl ?_
      obtain ⟨hi10, hf⟩ := gx_ck_some hf
      refine gx_iast C (x' := gx_sA x9 11 (r9 : Int32).toNatClampNeg v2) 16 0 (gx_w16 E _) rfl hi10 (gx_q16 E _ _ _) d_Floor_cover_81 ?_
      refine gx_iinc C (v := a.1 + 1) (lv' := [(6, .int (a.1 + 1)), (0, .ref (gx_ad E 15)), (1, .ref (gx_ad E 19)), (2, .int v2), (3, .int v3), (4, .int v4), (5, .int v5)]) 6 d_Floor_cover_82 rfl rfl (by decide) rfl ?_
      refine gx_goto (tgt := 39) C d_Floor_cover_85 (by decide) ?_
      cases hf
      refine gx_lv (lv' := [(0, .ref (gx_ad E 15)), (1, .ref (gx_ad E 19)), (2, .int v2), (3, .int v3), (4, .int v4), (5, .int v5), (6, .int (a.1 + 1))]) [1, 2, 3, 4, 5, 6, 0] rfl ?_
      exact hk
set_option maxHeartbeats 4000000 in
set_option maxRecDepth 100000 in
theorem sc_Floor_cover_19 {K : gx_K} {E : gx_E} (C : gx_C K E "CaseLayout$Floor" prog_3_method_3_code 7) (hR : K.R = rm_Floor_cover) (hr : K.meth.sig.returnType = none) (hlk : K.meth.locks = false) (v2 : Int32) (v3 : Int32) (v4 : Int32) (a : Int32 × gx_S) (o : (Int32 × gx_S) ⊕ (Nat × Int32 × gx_S)) (hf : s_Floor_cover_19 v2 v3 v4 a = some o) (hk : gx_or (pp_Floor_cover_19 K E v2 v3 v4) (pq_Floor_cover_19 K E v2 v3 v4) o) : pp_Floor_cover_19 K E v2 v3 v4 a := by
  unfold s_Floor_cover_19 at hf
  unfold pp_Floor_cover_19
  refine gx_iload C 5 d_Floor_cover_19 rfl ?_
  refine gx_iload C 4 d_Floor_cover_21 rfl ?_
  refine gx_aload_n C 1 d_Floor_cover_23 rfl rfl ?_
  refine gx_getN C iw_Layout 19 (gx_w19 E _) rfl 0 (by decide) gn_190 rfl rfl d_Floor_cover_24 ?_
  refine gx_getN C iw_Things 3 (gx_w3 E _) rfl 1 (by decide) gn_78 rfl rfl d_Floor_cover_27 ?_
  refine gx_iload_n C 2 d_Floor_cover_30 rfl rfl ?_
  obtain ⟨hi3, hf⟩ := gx_ck_some hf
  refine gx_iald C 5 0 (gx_w5 E _) rfl hi3 d_Floor_cover_31 ?_
  refine gx_iadd C d_Floor_cover_32 ?_
  refine gx_icmp_ge (tgt := 94) C d_Floor_cover_33 (by decide) (fun h4 => ?_) (fun h4 => ?_)
  · have hf := (if_pos h4).symm.trans hf
    cases hf
    have hk : pq_Floor_cover_19 K E v2 v3 v4 _ := hk
    unfold pq_Floor_cover_19 at hk
    refine gx_lv (lv' := []) [] rfl ?_
    exact hk
  · have hf := (if_neg h4).symm.trans hf
    refine gx_iload_n C 3 d_Floor_cover_36 rfl rfl ?_
    refine gx_istore C (lv' := [(6, .int v3), (0, .ref (gx_ad E 15)), (1, .ref (gx_ad E 19)), (2, .int v2), (3, .int v3), (4, .int v4), (5, .int a.1)]) d_Floor_cover_37 (by decide) rfl ?_
    refine gx_lv (lv' := [(0, .ref (gx_ad E 15)), (1, .ref (gx_ad E 19)), (2, .int v2), (3, .int v3), (4, .int v4), (5, .int a.1), (6, .int v3)]) [1, 2, 3, 4, 5, 6, 0] rfl ?_
    obtain ⟨e11, he11, hf⟩ := gx_bl_some hf
    refine (gx_loop (P := pp_Floor_cover_39 K E v2 v3 v4 a.1) (Q := pq_Floor_cover_39 K E v2 v3 v4 a.1) (fun a9 o9 h1 h2 => sc_Floor_cover_39 C hR hr hlk v2 v3 v4 a.1 a9 o9 h1 h2) gx_fuel (v3, a.2) e11 he11 ?_ : pp_Floor_cover_39 K E v2 v3 v4 a.1 (v3, a.2))
    unfold pq_Floor_cover_39
    refine gx_iinc C (v := a.1 + 1) (lv' := [(5, .int (a.1 + 1)), (0, .ref (gx_ad E 15)), (1, .ref (gx_ad E 19)), (2, .int v2), (3, .int v3), (4, .int v4)]) 5 d_Floor_cover_88 rfl rfl (by decide) rfl ?_
    refine gx_goto (tgt := 19) C d_Floor_cover_91 (by decide) ?_
    cases hf
    refine gx_lv (lv' := [(0, .ref (gx_ad E 15)), (1, .ref (gx_ad E 19)), (2, .int v2), (3, .int v3), (4, .int v4), (5, .int (a.1 + 1))]) [1, 2, 3, 4, 5, 0] rfl ?_
    exact hk
set_option maxHeartbeats 4000000 in
set_option maxRecDepth 100000 in
theorem c_Floor_cover (l : Launch) (a2 : Int32) (x : gx_S) (o : Int32 × gx_S) (hf : f_Floor_cover a2 x = some o) : gx_Mv true l y_Floor_cover prog_3_method_3_code 7 rm_Floor_cover (fun E => [.ref (gx_ad E 15), .ref (gx_ad E 19), .int a2]) x o.2 := by
  refine gx_metv (own := "CaseLayout$Floor") (by decide) rfl (fun E => Nat.le_of_ble_eq_true rfl) (fun K E hl0 hR hr hlk hk C => ?_)
  subst hl0
  unfold f_Floor_cover at hf
  show gx_G K E _ 0 0 x 0 [(0, .ref (gx_ad E 15)), (1, .ref (gx_ad E 19)), (2, .int a2)] []
  refine gx_aload_n C 1 d_Floor_cover_0 rfl rfl ?_
  refine gx_getN C iw_Layout 19 (gx_w19 E _) rfl 1 (by decide) gn_192 rfl rfl d_Floor_cover_1 ?_
  refine gx_iload_n C 2 d_Floor_cover_4 rfl rfl ?_
  obtain ⟨hi1, hf⟩ := gx_ck_some hf
  refine gx_iald C 20 0 (gx_w20 E _) rfl hi1 d_Floor_cover_5 ?_
  refine gx_istore_n C (lv' := [(3, .int (gx_gA x 14 (a2 : Int32).toNatClampNeg)), (0, .ref (gx_ad E 15)), (1, .ref (gx_ad E 19)), (2, .int a2)]) d_Floor_cover_6 rfl (by decide) rfl ?_
  refine gx_aload_n C 2 d_Floor_cover_7 rfl rfl ?_
  refine gx_getN C iw_Layout 19 (gx_w19 E _) rfl 2 (by decide) gn_196 rfl rfl d_Floor_cover_8 ?_
  refine gx_iload_n C 3 d_Floor_cover_11 rfl rfl ?_
  obtain ⟨hi2, hf⟩ := gx_ck_some hf
  refine gx_iald C 21 0 (gx_w21 E _) rfl hi2 d_Floor_cover_12 ?_
  refine gx_istore C (lv' := [(4, .int (gx_gA x 15 (a2 : Int32).toNatClampNeg)), (3, .int (gx_gA x 14 (a2 : Int32).toNatClampNeg)), (0, .ref (gx_ad E 15)), (1, .ref (gx_ad E 19)), (2, .int a2)]) d_Floor_cover_13 (by decide) rfl ?_
  refine gx_iload C 0 d_Floor_cover_15 rfl ?_
  refine gx_istore C (lv' := [(5, .int (gx_gA x 15 (a2 : Int32).toNatClampNeg)), (4, .int (gx_gA x 15 (a2 : Int32).toNatClampNeg)), (3, .int (gx_gA x 14 (a2 : Int32).toNatClampNeg)), (0, .ref (gx_ad E 15)), (1, .ref (gx_ad E 19)), (2, .int a2)]) d_Floor_cover_17 (by decide) rfl ?_
  refine gx_lv (lv' := [(0, .ref (gx_ad E 15)), (1, .ref (gx_ad E 19)), (2, .int a2), (3, .int (gx_gA x 14 (a2 : Int32).toNatClampNeg)), (4, .int (gx_gA x 15 (a2 : Int32).toNatClampNeg)), (5, .int (gx_gA x 15 (a2 : Int32).toNatClampNeg))]) [3, 4, 5, 2, 1, 0] rfl ?_
  obtain ⟨e12, he12, hf⟩ := gx_bl_some hf
  refine (gx_loop (P := pp_Floor_cover_19 K E a2 (gx_gA x 14 (a2 : Int32).toNatClampNeg) (gx_gA x 15 (a2 : Int32).toNatClampNeg)) (Q := pq_Floor_cover_19 K E a2 (gx_gA x 14 (a2 : Int32).toNatClampNeg) (gx_gA x 15 (a2 : Int32).toNatClampNeg)) (fun a9 o9 h1 h2 => sc_Floor_cover_19 C hR hr hlk a2 (gx_gA x 14 (a2 : Int32).toNatClampNeg) (gx_gA x 15 (a2 : Int32).toNatClampNeg) a9 o9 h1 h2) gx_fuel (gx_gA x 15 (a2 : Int32).toNatClampNeg, x) e12 he12 ?_ : pp_Floor_cover_19 K E a2 (gx_gA x 14 (a2 : Int32).toNatClampNeg) (gx_gA x 15 (a2 : Int32).toNatClampNeg) (gx_gA x 15 (a2 : Int32).toNatClampNeg, x))
  unfold pq_Floor_cover_19
  cases hf
  exact gx_vret C hr hlk hk d_Floor_cover_94

def s_Floor_lay_2  (a : Int32 × gx_S) : Option ((Int32 × gx_S) ⊕ (Nat × Int32 × gx_S)) :=
  if 81 ≤ a.1 then (some (.inr (0, a.1, a.2))) else (gx_ck a.1 81 (if (gx_gA a.2 0 (a.1 : Int32).toNatClampNeg) = 0 then (gx_ck a.1 81 (some (.inl (a.1 + 1, gx_sA a.2 11 (a.1 : Int32).toNatClampNeg (-1))))) else (gx_ck a.1 81 (some (.inl (a.1 + 1, gx_sA a.2 11 (a.1 : Int32).toNatClampNeg (-2)))))))
def s_Floor_lay_40  (a : Int32 × gx_S) : Option ((Int32 × gx_S) ⊕ (Nat × Int32 × gx_S)) :=
  if (gx_gI a.2 3) ≤ a.1 then (some (.inr (0, a.1, a.2))) else (gx_bd (f_Floor_cover a.1 a.2) (fun r8 x8 => some (.inl (a.1 + 1, x8))))
def f_Floor_lay  (x : gx_S) : Option (Int32 × gx_S) :=
  gx_bl (gx_it (s_Floor_lay_2 ) gx_fuel (0, x)) (fun e6 => gx_bl (gx_it (s_Floor_lay_40 ) gx_fuel (0, e6.2.2)) (fun e9 => some (0, e9.2.2)))
abbrev rm_Floor_lay : Room := { frames := 2, cells := 0, slots := 0, locals := 48 }
def pp_Floor_lay_2 (K : gx_K) (E : gx_E)  (a : Int32 × gx_S) : Prop := gx_G K E (gx_AB true E K.s.heap.size) 0 0 (a.2) 2 [(0, .ref (gx_ad E 15)), (1, .ref (gx_ad E 19)), (2, .int a.1)] []
def pq_Floor_lay_2 (K : gx_K) (E : gx_E)  (b : Nat × Int32 × gx_S) : Prop := gx_G K E (gx_AB true E K.s.heap.size) 0 0 (b.2.2) 38 [(0, .ref (gx_ad E 15)), (1, .ref (gx_ad E 19))] []
def pp_Floor_lay_40 (K : gx_K) (E : gx_E)  (a : Int32 × gx_S) : Prop := gx_G K E (gx_AB true E K.s.heap.size) 0 0 (a.2) 40 [(0, .ref (gx_ad E 15)), (1, .ref (gx_ad E 19)), (2, .int a.1)] []
def pq_Floor_lay_40 (K : gx_K) (E : gx_E)  (b : Nat × Int32 × gx_S) : Prop := gx_G K E (gx_AB true E K.s.heap.size) 0 0 (b.2.2) 63 [] []
set_option maxHeartbeats 4000000 in
set_option maxRecDepth 100000 in
theorem sc_Floor_lay_2 {K : gx_K} {E : gx_E} (C : gx_C K E "CaseLayout$Floor" prog_3_method_2_code 3) (hR : K.R = rm_Floor_lay) (hr : K.meth.sig.returnType = none) (hlk : K.meth.locks = false)  (a : Int32 × gx_S) (o : (Int32 × gx_S) ⊕ (Nat × Int32 × gx_S)) (hf : s_Floor_lay_2  a = some o) (hk : gx_or (pp_Floor_lay_2 K E ) (pq_Floor_lay_2 K E ) o) : pp_Floor_lay_2 K E  a := by
  unfold s_Floor_lay_2 at hf
  unfold pp_Floor_lay_2
  refine gx_iload_n C 2 d_Floor_lay_2 rfl rfl ?_
  refine gx_bipush C (v := 81) d_Floor_lay_3 (by decide) ?_
  refine gx_icmp_ge (tgt := 38) C d_Floor_lay_5 (by decide) (fun h1 => ?_) (fun h1 => ?_)
  · have hf := (if_pos h1).symm.trans hf
    cases hf
    have hk : pq_Floor_lay_2 K E  _ := hk
    unfold pq_Floor_lay_2 at hk
    refine gx_lv (lv' := [(0, .ref (gx_ad E 15)), (1, .ref (gx_ad E 19))]) [0, 1] rfl ?_
    exact hk
  · have hf := (if_neg h1).symm.trans hf
    refine gx_aload_n C 0 d_Floor_lay_8 rfl rfl ?_
    refine gx_get C iw_Floor 15 (gx_w15 E _) rfl 1 (by decide) gw_161 rfl rfl d_Floor_lay_9 ?_
    refine gx_iload_n C 2 d_Floor_lay_12 rfl rfl ?_
    refine gx_aload_n C 0 d_Floor_lay_13 rfl rfl ?_
    refine gx_get C iw_Floor 15 (gx_w15 E _) rfl 0 (by decide) gw_160 rfl rfl d_Floor_lay_14 ?_
    refine gx_getN C iw_Grid 0 (gx_w0 E _) rfl 2 (by decide) gn_48 rfl rfl d_Floor_lay_17 ?_
    refine gx_iload_n C 2 d_Floor_lay_20 rfl rfl ?_
    obtain ⟨hi2, hf⟩ := gx_ck_some hf
    refine gx_zald C 1 1 (gx_w1 E _) rfl hi2 d_Floor_lay_21 ?_
    refine gx_if_eq (tgt := 30) C d_Floor_lay_22 (by decide) (fun h3 => ?_) (fun h3 => ?_)
    · have hf := (if_pos h3).symm.trans hf
      refine gx_iconst C (v := (-1)) d_Floor_lay_30 (by decide) ?_
      obtain ⟨hi4, hf⟩ := gx_ck_some hf
      refine gx_iast C (x' := gx_sA a.2 11 (a.1 : Int32).toNatClampNeg (-1)) 16 0 (gx_w16 E _) rfl hi4 (gx_q16 E _ _ _) d_Floor_lay_31 ?_
      refine gx_iinc C (v := a.1 + 1) (lv' := [(2, .int (a.1 + 1)), (0, .ref (gx_ad E 15)), (1, .ref (gx_ad E 19))]) 2 d_Floor_lay_32 rfl rfl (by decide) rfl ?_
      refine gx_goto (tgt := 2) C d_Floor_lay_35 (by decide) ?_
      cases hf
      refine gx_lv (lv' := [(0, .ref (gx_ad E 15)), (1, .ref (gx_ad E 19)), (2, .int (a.1 + 1))]) [1, 2, 0] rfl ?_
      exact hk
    · have hf := (if_neg h3).symm.trans hf
      refine gx_bipush C (v := (-2)) d_Floor_lay_25 (by decide) ?_
      refine gx_goto (tgt := 31) C d_Floor_lay_27 (by decide) ?_
      obtain ⟨hi5, hf⟩ := gx_ck_some hf
      refine gx_iast C (x' := gx_sA a.2 11 (a.1 : Int32).toNatClampNeg (-2)) 16 0 (gx_w16 E _) rfl hi5 (gx_q16 E _ _ _) d_Floor_lay_31 ?_
      refine gx_iinc C (v := a.1 + 1) (lv' := [(2, .int (a.1 + 1)), (0, .ref (gx_ad E 15)), (1, .ref (gx_ad E 19))]) 2 d_Floor_lay_32 rfl rfl (by decide) rfl ?_
      refine gx_goto (tgt := 2) C d_Floor_lay_35 (by decide) ?_
      cases hf
      refine gx_lv (lv' := [(0, .ref (gx_ad E 15)), (1, .ref (gx_ad E 19)), (2, .int (a.1 + 1))]) [1, 2, 0] rfl ?_
      exact hk
set_option maxHeartbeats 4000000 in
set_option maxRecDepth 100000 in
theorem sc_Floor_lay_40 {K : gx_K} {E : gx_E} (C : gx_C K E "CaseLayout$Floor" prog_3_method_2_code 3) (hR : K.R = rm_Floor_lay) (hr : K.meth.sig.returnType = none) (hlk : K.meth.locks = false)  (a : Int32 × gx_S) (o : (Int32 × gx_S) ⊕ (Nat × Int32 × gx_S)) (hf : s_Floor_lay_40  a = some o) (hk : gx_or (pp_Floor_lay_40 K E ) (pq_Floor_lay_40 K E ) o) : pp_Floor_lay_40 K E  a := by
  unfold s_Floor_lay_40 at hf
  unfold pp_Floor_lay_40
  refine gx_iload_n C 2 d_Floor_lay_40 rfl rfl ?_
  refine gx_aload_n C 1 d_Floor_lay_41 rfl rfl ?_
  refine gx_getN C iw_Layout 19 (gx_w19 E _) rfl 0 (by decide) gn_190 rfl rfl d_Floor_lay_42 ?_
  refine gx_getN C iw_Things 3 (gx_w3 E _) rfl 5 (by decide) gn_89 rfl rfl d_Floor_lay_45 ?_
  refine gx_icmp_ge (tgt := 63) C d_Floor_lay_48 (by decide) (fun h7 => ?_) (fun h7 => ?_)
  · have hf := (if_pos h7).symm.trans hf
    cases hf
    have hk : pq_Floor_lay_40 K E  _ := hk
    unfold pq_Floor_lay_40 at hk
    refine gx_lv (lv' := []) [] rfl ?_
    exact hk
  · have hf := (if_neg h7).symm.trans hf
    refine gx_aload_n C 0 d_Floor_lay_51 rfl rfl ?_
    refine gx_aload_n C 1 d_Floor_lay_52 rfl rfl ?_
    refine gx_iload_n C 2 d_Floor_lay_53 rfl rfl ?_
    obtain ⟨r8, x8, hc8, hf⟩ := gx_bd_some hf
    refine gx_cVv (n2 := 0) (k2 := 0) C (As := [.ref (gx_ad E 19), .int a.1]) (rest := []) 15 2 (c_Floor_cover K.l a.1 a.2 _ hc8) (Or.inl rfl) rfl (gx_goodV gw_548 gw_550 gs_7 gw_7 gw_551) (by decide +kernel) (gx_w15 E _) rfl (by rw [hR]; decide) rfl rfl (Nat.le_of_ble_eq_true rfl) d_Floor_lay_54 (by rw [hR]; decide) rfl rfl ?_
    refine gx_iinc C (v := a.1 + 1) (lv' := [(2, .int (a.1 + 1)), (0, .ref (gx_ad E 15)), (1, .ref (gx_ad E 19))]) 2 d_Floor_lay_57 rfl rfl (by decide) rfl ?_
    refine gx_goto (tgt := 40) C d_Floor_lay_60 (by decide) ?_
    cases hf
    refine gx_lv (lv' := [(0, .ref (gx_ad E 15)), (1, .ref (gx_ad E 19)), (2, .int (a.1 + 1))]) [1, 2, 0] rfl ?_
    exact hk
set_option maxHeartbeats 4000000 in
set_option maxRecDepth 100000 in
theorem c_Floor_lay (l : Launch)  (x : gx_S) (o : Int32 × gx_S) (hf : f_Floor_lay  x = some o) : gx_Mv true l y_Floor_lay prog_3_method_2_code 3 rm_Floor_lay (fun E => [.ref (gx_ad E 15), .ref (gx_ad E 19)]) x o.2 := by
  refine gx_metv (own := "CaseLayout$Floor") (by decide) rfl (fun E => Nat.le_of_ble_eq_true rfl) (fun K E hl0 hR hr hlk hk C => ?_)
  subst hl0
  unfold f_Floor_lay at hf
  show gx_G K E _ 0 0 x 0 [(0, .ref (gx_ad E 15)), (1, .ref (gx_ad E 19))] []
  refine gx_iconst C (v := 0) d_Floor_lay_0 (by decide) ?_
  refine gx_istore_n C (lv' := [(2, .int 0), (0, .ref (gx_ad E 15)), (1, .ref (gx_ad E 19))]) d_Floor_lay_1 rfl (by decide) rfl ?_
  refine gx_lv (lv' := [(0, .ref (gx_ad E 15)), (1, .ref (gx_ad E 19)), (2, .int 0)]) [1, 2, 0] rfl ?_
  obtain ⟨e6, he6, hf⟩ := gx_bl_some hf
  refine (gx_loop (P := pp_Floor_lay_2 K E ) (Q := pq_Floor_lay_2 K E ) (fun a9 o9 h1 h2 => sc_Floor_lay_2 C hR hr hlk  a9 o9 h1 h2) gx_fuel (0, x) e6 he6 ?_ : pp_Floor_lay_2 K E  (0, x))
  unfold pq_Floor_lay_2
  refine gx_iconst C (v := 0) d_Floor_lay_38 (by decide) ?_
  refine gx_istore_n C (lv' := [(2, .int 0), (0, .ref (gx_ad E 15)), (1, .ref (gx_ad E 19))]) d_Floor_lay_39 rfl (by decide) rfl ?_
  refine gx_lv (lv' := [(0, .ref (gx_ad E 15)), (1, .ref (gx_ad E 19)), (2, .int 0)]) [1, 2, 0] rfl ?_
  obtain ⟨e9, he9, hf⟩ := gx_bl_some hf
  refine (gx_loop (P := pp_Floor_lay_40 K E ) (Q := pq_Floor_lay_40 K E ) (fun a9 o9 h1 h2 => sc_Floor_lay_40 C hR hr hlk  a9 o9 h1 h2) gx_fuel (0, e6.2.2) e9 he9 ?_ : pp_Floor_lay_40 K E  (0, e6.2.2))
  unfold pq_Floor_lay_40
  cases hf
  exact gx_vret C hr hlk hk d_Floor_lay_63

def f_Floor_hides (a1 : Int32) (a2 : Int32) (a3 : Int32) (x : gx_S) : Option (Int32 × gx_S) :=
  gx_bd (f_Grid_holds a1 a2 x) (fun r1 x1 => if r1 = 0 then (some (0, x1)) else (gx_bd (f_CaseLayout_cellOf a1 a2 x1) (fun r3 x3 => gx_ck r3 81 (if (gx_gA x3 11 (r3 : Int32).toNatClampNeg) = (-1) then (some (0, x3)) else (if (gx_gA x3 11 (r3 : Int32).toNatClampNeg) = a3 then (some (0, x3)) else (some (1, x3)))))))
abbrev rm_Floor_hides : Room := { frames := 1, cells := 0, slots := 0, locals := 22 }
set_option maxHeartbeats 4000000 in
set_option maxRecDepth 100000 in
theorem c_Floor_hides (l : Launch) (a1 : Int32) (a2 : Int32) (a3 : Int32) (x : gx_S) (o : Int32 × gx_S) (hf : f_Floor_hides a1 a2 a3 x = some o) : gx_Mi false l y_Floor_hides prog_3_method_5_code 5 (some .boolean) rm_Floor_hides (fun E => [.ref (gx_ad E 15), .int a1, .int a2, .int a3]) x o.1 o.2 := by
  refine gx_meti (own := "CaseLayout$Floor") (by decide) rfl (fun E => Nat.le_of_ble_eq_true rfl) (fun K E hl0 hR hr hlk hk C => ?_)
  subst hl0
  unfold f_Floor_hides at hf
  show gx_G K E _ 0 0 x 0 [(0, .ref (gx_ad E 15)), (1, .int a1), (2, .int a2), (3, .int a3)] []
  refine gx_aload_n C 0 d_Floor_hides_0 rfl rfl ?_
  refine gx_get C iw_Floor 15 (gx_w15 E _) rfl 0 (by decide) gw_160 rfl rfl d_Floor_hides_1 ?_
  refine gx_iload_n C 1 d_Floor_hides_4 rfl rfl ?_
  refine gx_iload_n C 2 d_Floor_hides_5 rfl rfl ?_
  obtain ⟨r1, x1, hc1, hf⟩ := gx_bd_some hf
  refine gx_cVi (n2 := 0) (k2 := 0) C (As := [.int a1, .int a2]) (rest := []) 0 2 (c_Grid_holds K.l a1 a2 x _ hc1) (Or.inr rfl) rfl (gx_goodV gw_552 gw_289 gw_290 gw_2 gw_291) (by decide +kernel) (gx_w0 E _) rfl (by rw [hR]; decide) rfl rfl (Nat.le_of_ble_eq_true rfl) d_Floor_hides_6 (by rw [hR]; decide) rfl rfl ?_
  refine gx_if_ne (tgt := 14) C d_Floor_hides_9 (by decide) (fun h2 => ?_) (fun h2 => ?_)
  · have hf := (if_neg h2).symm.trans hf
    refine gx_aload_n C 0 d_Floor_hides_14 rfl rfl ?_
    refine gx_get C iw_Floor 15 (gx_w15 E _) rfl 1 (by decide) gw_161 rfl rfl d_Floor_hides_15 ?_
    refine gx_iload_n C 1 d_Floor_hides_18 rfl rfl ?_
    refine gx_iload_n C 2 d_Floor_hides_19 rfl rfl ?_
    obtain ⟨r3, x3, hc3, hf⟩ := gx_bd_some hf
    refine gx_cSNi (n2 := 0) (k2 := 0) C (As := [.int a1, .int a2]) (rest := [.ref (gx_ad E 16)]) 2 (c_CaseLayout_cellOf K.l a1 a2 x1 _ hc3) (Or.inr rfl) rfl gw_362 gn_553 gw_1 gw_361 (by decide +kernel) (by rw [hR]; decide) rfl rfl (Nat.le_of_ble_eq_true rfl) d_Floor_hides_20 (by rw [hR]; decide) rfl rfl ?_
    obtain ⟨hi4, hf⟩ := gx_ck_some hf
    refine gx_iald C 16 0 (gx_w16 E _) rfl hi4 d_Floor_hides_23 ?_
    refine gx_istore C (lv' := [(4, .int (gx_gA x3 11 (r3 : Int32).toNatClampNeg)), (0, .ref (gx_ad E 15)), (1, .int a1), (2, .int a2), (3, .int a3)]) d_Floor_hides_24 (by decide) rfl ?_
    refine gx_iload C 0 d_Floor_hides_26 rfl ?_
    refine gx_iconst C (v := (-1)) d_Floor_hides_28 (by decide) ?_
    refine gx_icmp_eq (tgt := 42) C d_Floor_hides_29 (by decide) (fun h5 => ?_) (fun h5 => ?_)
    · have hf := (if_pos h5).symm.trans hf
      refine gx_iconst C (v := 0) d_Floor_hides_42 (by decide) ?_
      cases hf
      exact gx_zret C hr hlk hk (by decide) d_Floor_hides_43
    · have hf := (if_neg h5).symm.trans hf
      refine gx_iload C 0 d_Floor_hides_32 rfl ?_
      refine gx_iload_n C 4 d_Floor_hides_34 rfl rfl ?_
      refine gx_icmp_eq (tgt := 42) C d_Floor_hides_35 (by decide) (fun h6 => ?_) (fun h6 => ?_)
      · have hf := (if_pos h6).symm.trans hf
        refine gx_iconst C (v := 0) d_Floor_hides_42 (by decide) ?_
        cases hf
        exact gx_zret C hr hlk hk (by decide) d_Floor_hides_43
      · have hf := (if_neg h6).symm.trans hf
        refine gx_iconst C (v := 1) d_Floor_hides_38 (by decide) ?_
        refine gx_goto (tgt := 43) C d_Floor_hides_39 (by decide) ?_
        cases hf
        exact gx_zret C hr hlk hk (by decide) d_Floor_hides_43
  · have hf := (if_pos h2).symm.trans hf
    refine gx_iconst C (v := 0) d_Floor_hides_12 (by decide) ?_
    cases hf
    exact gx_zret C hr hlk hk (by decide) d_Floor_hides_13

def f_Floor_isCrossed (a0 : Int32) (a1 : Int32) (a2 : Int32) (a3 : Int32) (x : gx_S) : Option (Int32 × gx_S) :=
  if ((if 0 ≤ a2 then a2 else 0 - a2) + (if 0 ≤ a3 then a3 else 0 - a3)) ≤ (2 * (if 0 ≤ ((a2 * a1) - (a3 * a0)) then ((a2 * a1) - (a3 * a0)) else 0 - ((a2 * a1) - (a3 * a0)))) then (some (0, x)) else (some (1, x))
abbrev rm_Floor_isCrossed : Room := { frames := 1, cells := 0, slots := 0, locals := 15 }
set_option maxHeartbeats 4000000 in
set_option maxRecDepth 100000 in
theorem c_Floor_isCrossed (l : Launch) (a0 : Int32) (a1 : Int32) (a2 : Int32) (a3 : Int32) (x : gx_S) (o : Int32 × gx_S) (hf : f_Floor_isCrossed a0 a1 a2 a3 x = some o) : gx_Mi false l y_Floor_isCrossed prog_3_method_6_code 4 (some .boolean) rm_Floor_isCrossed (fun E => [.int a0, .int a1, .int a2, .int a3]) x o.1 o.2 := by
  refine gx_meti (own := "CaseLayout$Floor") (by decide) rfl (fun E => Nat.le_of_ble_eq_true rfl) (fun K E hl0 hR hr hlk hk C => ?_)
  subst hl0
  unfold f_Floor_isCrossed at hf
  show gx_G K E _ 0 0 x 0 [(0, .int a0), (1, .int a1), (2, .int a2), (3, .int a3)] []
  refine gx_iconst C (v := 2) d_Floor_isCrossed_0 (by decide) ?_
  refine gx_iload_n C 2 d_Floor_isCrossed_1 rfl rfl ?_
  refine gx_iload_n C 1 d_Floor_isCrossed_2 rfl rfl ?_
  refine gx_imul C d_Floor_isCrossed_3 ?_
  refine gx_iload_n C 3 d_Floor_isCrossed_4 rfl rfl ?_
  refine gx_iload_n C 0 d_Floor_isCrossed_5 rfl rfl ?_
  refine gx_imul C d_Floor_isCrossed_6 ?_
  refine gx_isub C d_Floor_isCrossed_7 ?_
  refine gx_mabs C gw_572 gw_573 gw_3 gw_574 (by rw [hR]; decide) (by rw [hR]; exact Nat.le_of_ble_eq_true rfl) (by rw [hR]; decide) (by rw [hR]; decide) d_Floor_isCrossed_8 ?_
  refine gx_imul C d_Floor_isCrossed_11 ?_
  refine gx_iload_n C 2 d_Floor_isCrossed_12 rfl rfl ?_
  refine gx_mabs C gw_572 gw_573 gw_3 gw_574 (by rw [hR]; decide) (by rw [hR]; exact Nat.le_of_ble_eq_true rfl) (by rw [hR]; decide) (by rw [hR]; decide) d_Floor_isCrossed_13 ?_
  refine gx_iload_n C 3 d_Floor_isCrossed_16 rfl rfl ?_
  refine gx_mabs C gw_572 gw_573 gw_3 gw_574 (by rw [hR]; decide) (by rw [hR]; exact Nat.le_of_ble_eq_true rfl) (by rw [hR]; decide) (by rw [hR]; decide) d_Floor_isCrossed_17 ?_
  refine gx_iadd C d_Floor_isCrossed_20 ?_
  refine gx_icmp_ge (tgt := 28) C d_Floor_isCrossed_21 (by decide) (fun h1 => ?_) (fun h1 => ?_)
  · have hf := (if_pos h1).symm.trans hf
    refine gx_iconst C (v := 0) d_Floor_isCrossed_28 (by decide) ?_
    cases hf
    exact gx_zret C hr hlk hk (by decide) d_Floor_isCrossed_29
  · have hf := (if_neg h1).symm.trans hf
    refine gx_iconst C (v := 1) d_Floor_isCrossed_24 (by decide) ?_
    refine gx_goto (tgt := 29) C d_Floor_isCrossed_25 (by decide) ?_
    cases hf
    exact gx_zret C hr hlk hk (by decide) d_Floor_isCrossed_29

def s_Floor_isSeen_45 (v2 : Int32) (v3 : Int32) (v4 : Int32) (v5 : Int32) (v6 : Int32) (v7 : Int32) (a : Int32 × gx_S) : Option ((Int32 × gx_S) ⊕ (Nat × Int32 × gx_S)) :=
  if (if v3 < v5 then v5 else v3) < a.1 then (some (.inr (1, a.1, a.2))) else (gx_bd (f_Floor_hides a.1 v7 v2 a.2) (fun r5 x5 => if r5 = 0 then (some (.inl (a.1 + 1, x5))) else (gx_bd (f_Floor_isCrossed (a.1 - v3) (v7 - v4) (v5 - v3) (v6 - v4) x5) (fun r7 x7 => if r7 = 0 then (some (.inl (a.1 + 1, x7))) else (some (.inr (0, a.1, x7)))))))
def s_Floor_isSeen_25 (v2 : Int32) (v3 : Int32) (v4 : Int32) (v5 : Int32) (v6 : Int32) (a : Int32 × gx_S) : Option ((Int32 × gx_S) ⊕ (Nat × Int32 × gx_S)) :=
  if (if v4 < v6 then v6 else v4) < a.1 then (some (.inr (1, a.1, a.2))) else (gx_bl (gx_it (s_Floor_isSeen_45 v2 v3 v4 v5 v6 a.1) gx_fuel (if v5 < v3 then v5 else v3, a.2)) (fun e9 => if e9.1 = 0 then (some (.inr (0, a.1, e9.2.2))) else (some (.inl (a.1 + 1, e9.2.2)))))
def f_Floor_isSeen (a2 : Int32) (a3 : Int32) (a4 : Int32) (x : gx_S) : Option (Int32 × gx_S) :=
  gx_ck a2 7 (gx_ck a2 7 (gx_bl (gx_it (s_Floor_isSeen_25 a2 a3 a4 (gx_gA x 14 (a2 : Int32).toNatClampNeg) (gx_gA x 15 (a2 : Int32).toNatClampNeg)) gx_fuel (if (gx_gA x 15 (a2 : Int32).toNatClampNeg) < a4 then (gx_gA x 15 (a2 : Int32).toNatClampNeg) else a4, x)) (fun e11 => if e11.1 = 0 then (some (0, e11.2.2)) else (some (1, e11.2.2)))))
abbrev rm_Floor_isSeen : Room := { frames := 2, cells := 0, slots := 0, locals := 46 }
def pp_Floor_isSeen_45 (K : gx_K) (E : gx_E) (v2 : Int32) (v3 : Int32) (v4 : Int32) (v5 : Int32) (v6 : Int32) (v7 : Int32) (a : Int32 × gx_S) : Prop := gx_G K E (gx_AB false E K.s.heap.size) 0 0 (a.2) 45 [(0, .ref (gx_ad E 15)), (2, .int v2), (3, .int v3), (4, .int v4), (5, .int v5), (6, .int v6), (7, .int v7), (8, .int a.1)] []
def pq_Floor_isSeen_45 (K : gx_K) (E : gx_E) (v2 : Int32) (v3 : Int32) (v4 : Int32) (v5 : Int32) (v6 : Int32) (v7 : Int32) (b : Nat × Int32 × gx_S) : Prop := if b.1 = 0 then gx_G K E (gx_AB false E K.s.heap.size) 0 0 (b.2.2) 92 [(2, .int v2), (3, .int v3), (4, .int v4), (5, .int v5), (6, .int v6), (7, .int v7)] [] else (gx_G K E (gx_AB false E K.s.heap.size) 0 0 (b.2.2) 100 [(0, .ref (gx_ad E 15)), (2, .int v2), (3, .int v3), (4, .int v4), (5, .int v5), (6, .int v6), (7, .int v7)] [])
def pp_Floor_isSeen_25 (K : gx_K) (E : gx_E) (v2 : Int32) (v3 : Int32) (v4 : Int32) (v5 : Int32) (v6 : Int32) (a : Int32 × gx_S) : Prop := gx_G K E (gx_AB false E K.s.heap.size) 0 0 (a.2) 25 [(0, .ref (gx_ad E 15)), (2, .int v2), (3, .int v3), (4, .int v4), (5, .int v5), (6, .int v6), (7, .int a.1)] []
def pq_Floor_isSeen_25 (K : gx_K) (E : gx_E) (v2 : Int32) (v3 : Int32) (v4 : Int32) (v5 : Int32) (v6 : Int32) (b : Nat × Int32 × gx_S) : Prop := if b.1 = 0 then gx_G K E (gx_AB false E K.s.heap.size) 0 0 (b.2.2) 92 [] [] else (gx_G K E (gx_AB false E K.s.heap.size) 0 0 (b.2.2) 106 [] [])
set_option maxHeartbeats 4000000 in
set_option maxRecDepth 100000 in
theorem sc_Floor_isSeen_45 {K : gx_K} {E : gx_E} (C : gx_C K E "CaseLayout$Floor" prog_3_method_4_code 9) (hR : K.R = rm_Floor_isSeen) (hr : K.meth.sig.returnType = (some .boolean)) (hlk : K.meth.locks = false) (v2 : Int32) (v3 : Int32) (v4 : Int32) (v5 : Int32) (v6 : Int32) (v7 : Int32) (a : Int32 × gx_S) (o : (Int32 × gx_S) ⊕ (Nat × Int32 × gx_S)) (hf : s_Floor_isSeen_45 v2 v3 v4 v5 v6 v7 a = some o) (hk : gx_or (pp_Floor_isSeen_45 K E v2 v3 v4 v5 v6 v7) (pq_Floor_isSeen_45 K E v2 v3 v4 v5 v6 v7) o) : pp_Floor_isSeen_45 K E v2 v3 v4 v5 v6 v7 a := by
  unfold s_Floor_isSeen_45 at hf
  unfold pp_Floor_isSeen_45
  refine gx_iload C 7 d_Floor_isSeen_45 rfl ?_
  refine gx_iload_n C 2 d_Floor_isSeen_47 rfl rfl ?_
  refine gx_iload C 4 d_Floor_isSeen_48 rfl ?_
  refine gx_mmax C gw_564 gw_36 gw_3 gw_37 (by rw [hR]; decide) (by rw [hR]; exact Nat.le_of_ble_eq_true rfl) (by rw [hR]; decide) (by rw [hR]; decide) d_Floor_isSeen_50 ?_
  refine gx_icmp_gt (tgt := 100) C d_Floor_isSeen_53 (by decide) (fun h4 => ?_) (fun h4 => ?_)
  · have hf := (if_pos h4).symm.trans hf
    cases hf
    have hk : pq_Floor_isSeen_45 K E v2 v3 v4 v5 v6 v7 _ := hk
    unfold pq_Floor_isSeen_45 at hk
    have hk := gx_ifn (by decide : ¬ ((1 : Nat) = 0)) hk
    refine gx_lv (lv' := [(0, .ref (gx_ad E 15)), (2, .int v2), (3, .int v3), (4, .int v4), (5, .int v5), (6, .int v6), (7, .int v7)]) [0, 1, 2, 3, 4, 5, 6] rfl ?_
    exact hk
  · have hf := (if_neg h4).symm.trans hf
    refine gx_aload_n C 0 d_Floor_isSeen_56 rfl rfl ?_
    refine gx_iload C 7 d_Floor_isSeen_57 rfl ?_
    refine gx_iload C 6 d_Floor_isSeen_59 rfl ?_
    refine gx_iload_n C 1 d_Floor_isSeen_61 rfl rfl ?_
    obtain ⟨r5, x5, hc5, hf⟩ := gx_bd_some hf
    refine gx_cVi (n2 := 0) (k2 := 0) C (As := [.int a.1, .int v7, .int v2]) (rest := []) 15 3 (c_Floor_hides K.l a.1 v7 v2 a.2 _ hc5) (Or.inr rfl) rfl (gx_goodV gw_565 gw_567 gs_9 gw_7 gw_568) (by decide +kernel) (gx_w15 E _) rfl (by rw [hR]; decide) rfl rfl (Nat.le_of_ble_eq_true rfl) d_Floor_isSeen_62 (by rw [hR]; decide) rfl rfl ?_
    refine gx_if_eq (tgt := 94) C d_Floor_isSeen_65 (by decide) (fun h6 => ?_) (fun h6 => ?_)
    · have hf := (if_pos h6).symm.trans hf
      refine gx_iinc C (v := a.1 + 1) (lv' := [(8, .int (a.1 + 1)), (0, .ref (gx_ad E 15)), (2, .int v2), (3, .int v3), (4, .int v4), (5, .int v5), (6, .int v6), (7, .int v7)]) 7 d_Floor_isSeen_94 rfl rfl (by decide) rfl ?_
      refine gx_goto (tgt := 45) C d_Floor_isSeen_97 (by decide) ?_
      cases hf
      refine gx_lv (lv' := [(0, .ref (gx_ad E 15)), (2, .int v2), (3, .int v3), (4, .int v4), (5, .int v5), (6, .int v6), (7, .int v7), (8, .int (a.1 + 1))]) [1, 2, 3, 4, 5, 6, 7, 0] rfl ?_
      exact hk
    · have hf := (if_neg h6).symm.trans hf
      refine gx_iload C 7 d_Floor_isSeen_68 rfl ?_
      refine gx_iload_n C 2 d_Floor_isSeen_70 rfl rfl ?_
      refine gx_isub C d_Floor_isSeen_71 ?_
      refine gx_iload C 6 d_Floor_isSeen_72 rfl ?_
      refine gx_iload C 3 d_Floor_isSeen_74 rfl ?_
      refine gx_isub C d_Floor_isSeen_76 ?_
      refine gx_iload C 4 d_Floor_isSeen_77 rfl ?_
      refine gx_iload_n C 2 d_Floor_isSeen_79 rfl rfl ?_
      refine gx_isub C d_Floor_isSeen_80 ?_
      refine gx_iload C 5 d_Floor_isSeen_81 rfl ?_
      refine gx_iload C 3 d_Floor_isSeen_83 rfl ?_
      refine gx_isub C d_Floor_isSeen_85 ?_
      obtain ⟨r7, x7, hc7, hf⟩ := gx_bd_some hf
      refine gx_cSi (n2 := 0) (k2 := 0) C (As := [.int (a.1 - v3), .int (v7 - v4), .int (v5 - v3), .int (v6 - v4)]) (rest := []) 4 (c_Floor_isCrossed K.l (a.1 - v3) (v7 - v4) (v5 - v3) (v6 - v4) x5 _ hc7) (Or.inr rfl) rfl (gx_goodS gw_569 gw_570 gw_7 gw_571) (by decide +kernel) (by rw [hR]; decide) rfl rfl (Nat.le_of_ble_eq_true rfl) d_Floor_isSeen_86 (by rw [hR]; decide) rfl rfl ?_
      refine gx_if_eq (tgt := 94) C d_Floor_isSeen_89 (by decide) (fun h8 => ?_) (fun h8 => ?_)
      · have hf := (if_pos h8).symm.trans hf
        refine gx_iinc C (v := a.1 + 1) (lv' := [(8, .int (a.1 + 1)), (0, .ref (gx_ad E 15)), (2, .int v2), (3, .int v3), (4, .int v4), (5, .int v5), (6, .int v6), (7, .int v7)]) 7 d_Floor_isSeen_94 rfl rfl (by decide) rfl ?_
        refine gx_goto (tgt := 45) C d_Floor_isSeen_97 (by decide) ?_
        cases hf
        refine gx_lv (lv' := [(0, .ref (gx_ad E 15)), (2, .int v2), (3, .int v3), (4, .int v4), (5, .int v5), (6, .int v6), (7, .int v7), (8, .int (a.1 + 1))]) [1, 2, 3, 4, 5, 6, 7, 0] rfl ?_
        exact hk
      · have hf := (if_neg h8).symm.trans hf
        cases hf
        have hk : pq_Floor_isSeen_45 K E v2 v3 v4 v5 v6 v7 _ := hk
        unfold pq_Floor_isSeen_45 at hk
        have hk := gx_ifp (rfl : (0 : Nat) = 0) hk
        refine gx_lv (lv' := [(2, .int v2), (3, .int v3), (4, .int v4), (5, .int v5), (6, .int v6), (7, .int v7)]) [1, 2, 3, 4, 5, 6] rfl ?_
        exact hk
set_option maxHeartbeats 4000000 in
set_option maxRecDepth 100000 in
theorem sc_Floor_isSeen_25 {K : gx_K} {E : gx_E} (C : gx_C K E "CaseLayout$Floor" prog_3_method_4_code 9) (hR : K.R = rm_Floor_isSeen) (hr : K.meth.sig.returnType = (some .boolean)) (hlk : K.meth.locks = false) (v2 : Int32) (v3 : Int32) (v4 : Int32) (v5 : Int32) (v6 : Int32) (a : Int32 × gx_S) (o : (Int32 × gx_S) ⊕ (Nat × Int32 × gx_S)) (hf : s_Floor_isSeen_25 v2 v3 v4 v5 v6 a = some o) (hk : gx_or (pp_Floor_isSeen_25 K E v2 v3 v4 v5 v6) (pq_Floor_isSeen_25 K E v2 v3 v4 v5 v6) o) : pp_Floor_isSeen_25 K E v2 v3 v4 v5 v6 a := by
  unfold s_Floor_isSeen_25 at hf
  unfold pp_Floor_isSeen_25
  refine gx_iload C 6 d_Floor_isSeen_25 rfl ?_
  refine gx_iload C 3 d_Floor_isSeen_27 rfl ?_
  refine gx_iload C 5 d_Floor_isSeen_29 rfl ?_
  refine gx_mmax C gw_564 gw_36 gw_3 gw_37 (by rw [hR]; decide) (by rw [hR]; exact Nat.le_of_ble_eq_true rfl) (by rw [hR]; decide) (by rw [hR]; decide) d_Floor_isSeen_31 ?_
  refine gx_icmp_gt (tgt := 106) C d_Floor_isSeen_34 (by decide) (fun h3 => ?_) (fun h3 => ?_)
  · have hf := (if_pos h3).symm.trans hf
    cases hf
    have hk : pq_Floor_isSeen_25 K E v2 v3 v4 v5 v6 _ := hk
    unfold pq_Floor_isSeen_25 at hk
    have hk := gx_ifn (by decide : ¬ ((1 : Nat) = 0)) hk
    refine gx_lv (lv' := []) [] rfl ?_
    exact hk
  · have hf := (if_neg h3).symm.trans hf
    refine gx_iload_n C 2 d_Floor_isSeen_37 rfl rfl ?_
    refine gx_iload C 4 d_Floor_isSeen_38 rfl ?_
    refine gx_mmin C gw_563 gw_33 gw_3 gw_34 (by rw [hR]; decide) (by rw [hR]; exact Nat.le_of_ble_eq_true rfl) (by rw [hR]; decide) (by rw [hR]; decide) d_Floor_isSeen_40 ?_
    refine gx_istore C (lv' := [(8, .int (if v5 < v3 then v5 else v3)), (0, .ref (gx_ad E 15)), (2, .int v2), (3, .int v3), (4, .int v4), (5, .int v5), (6, .int v6), (7, .int a.1)]) d_Floor_isSeen_43 (by decide) rfl ?_
    refine gx_lv (lv' := [(0, .ref (gx_ad E 15)), (2, .int v2), (3, .int v3), (4, .int v4), (5, .int v5), (6, .int v6), (7, .int a.1), (8, .int (if v5 < v3 then v5 else v3))]) [1, 2, 3, 4, 5, 6, 7, 0] rfl ?_
    obtain ⟨e9, he9, hf⟩ := gx_bl_some hf
    refine (gx_loop (P := pp_Floor_isSeen_45 K E v2 v3 v4 v5 v6 a.1) (Q := pq_Floor_isSeen_45 K E v2 v3 v4 v5 v6 a.1) (fun a9 o9 h1 h2 => sc_Floor_isSeen_45 C hR hr hlk v2 v3 v4 v5 v6 a.1 a9 o9 h1 h2) gx_fuel (if v5 < v3 then v5 else v3, a.2) e9 he9 ?_ : pp_Floor_isSeen_45 K E v2 v3 v4 v5 v6 a.1 (if v5 < v3 then v5 else v3, a.2))
    unfold pq_Floor_isSeen_45
    by_cases ht10 : e9.1 = 0
    · rw [if_pos ht10]
      have hf := (if_pos ht10).symm.trans hf
      cases hf
      have hk : pq_Floor_isSeen_25 K E v2 v3 v4 v5 v6 _ := hk
      unfold pq_Floor_isSeen_25 at hk
      have hk := gx_ifp (rfl : (0 : Nat) = 0) hk
      refine gx_lv (lv' := []) [] rfl ?_
      exact hk
    · rw [if_neg ht10]
      have hf := (if_neg ht10).symm.trans hf
      refine gx_iinc C (v := a.1 + 1) (lv' := [(7, .int (a.1 + 1)), (0, .ref (gx_ad E 15)), (2, .int v2), (3, .int v3), (4, .int v4), (5, .int v5), (6, .int v6)]) 6 d_Floor_isSeen_100 rfl rfl (by decide) rfl ?_
      refine gx_goto (tgt := 25) C d_Floor_isSeen_103 (by decide) ?_
      cases hf
      refine gx_lv (lv' := [(0, .ref (gx_ad E 15)), (2, .int v2), (3, .int v3), (4, .int v4), (5, .int v5), (6, .int v6), (7, .int (a.1 + 1))]) [1, 2, 3, 4, 5, 6, 0] rfl ?_
      exact hk
set_option maxHeartbeats 4000000 in
set_option maxRecDepth 100000 in
theorem c_Floor_isSeen (l : Launch) (a2 : Int32) (a3 : Int32) (a4 : Int32) (x : gx_S) (o : Int32 × gx_S) (hf : f_Floor_isSeen a2 a3 a4 x = some o) : gx_Mi false l y_Floor_isSeen prog_3_method_4_code 9 (some .boolean) rm_Floor_isSeen (fun E => [.ref (gx_ad E 15), .ref (gx_ad E 19), .int a2, .int a3, .int a4]) x o.1 o.2 := by
  refine gx_meti (own := "CaseLayout$Floor") (by decide) rfl (fun E => Nat.le_of_ble_eq_true rfl) (fun K E hl0 hR hr hlk hk C => ?_)
  subst hl0
  unfold f_Floor_isSeen at hf
  show gx_G K E _ 0 0 x 0 [(0, .ref (gx_ad E 15)), (1, .ref (gx_ad E 19)), (2, .int a2), (3, .int a3), (4, .int a4)] []
  refine gx_aload_n C 1 d_Floor_isSeen_0 rfl rfl ?_
  refine gx_getN C iw_Layout 19 (gx_w19 E _) rfl 1 (by decide) gn_192 rfl rfl d_Floor_isSeen_1 ?_
  refine gx_iload_n C 2 d_Floor_isSeen_4 rfl rfl ?_
  obtain ⟨hi1, hf⟩ := gx_ck_some hf
  refine gx_iald C 20 0 (gx_w20 E _) rfl hi1 d_Floor_isSeen_5 ?_
  refine gx_istore C (lv' := [(5, .int (gx_gA x 14 (a2 : Int32).toNatClampNeg)), (0, .ref (gx_ad E 15)), (1, .ref (gx_ad E 19)), (2, .int a2), (3, .int a3), (4, .int a4)]) d_Floor_isSeen_6 (by decide) rfl ?_
  refine gx_aload_n C 2 d_Floor_isSeen_8 rfl rfl ?_
  refine gx_getN C iw_Layout 19 (gx_w19 E _) rfl 2 (by decide) gn_196 rfl rfl d_Floor_isSeen_9 ?_
  refine gx_iload_n C 3 d_Floor_isSeen_12 rfl rfl ?_
  obtain ⟨hi2, hf⟩ := gx_ck_some hf
  refine gx_iald C 21 0 (gx_w21 E _) rfl hi2 d_Floor_isSeen_13 ?_
  refine gx_istore C (lv' := [(6, .int (gx_gA x 15 (a2 : Int32).toNatClampNeg)), (5, .int (gx_gA x 14 (a2 : Int32).toNatClampNeg)), (0, .ref (gx_ad E 15)), (1, .ref (gx_ad E 19)), (2, .int a2), (3, .int a3), (4, .int a4)]) d_Floor_isSeen_14 (by decide) rfl ?_
  refine gx_iload C 6 d_Floor_isSeen_16 rfl ?_
  refine gx_iload C 0 d_Floor_isSeen_18 rfl ?_
  refine gx_mmin C gw_563 gw_33 gw_3 gw_34 (by rw [hR]; decide) (by rw [hR]; exact Nat.le_of_ble_eq_true rfl) (by rw [hR]; decide) (by rw [hR]; decide) d_Floor_isSeen_20 ?_
  refine gx_istore C (lv' := [(7, .int (if (gx_gA x 15 (a2 : Int32).toNatClampNeg) < a4 then (gx_gA x 15 (a2 : Int32).toNatClampNeg) else a4)), (6, .int (gx_gA x 15 (a2 : Int32).toNatClampNeg)), (5, .int (gx_gA x 14 (a2 : Int32).toNatClampNeg)), (0, .ref (gx_ad E 15)), (1, .ref (gx_ad E 19)), (2, .int a2), (3, .int a3), (4, .int a4)]) d_Floor_isSeen_23 (by decide) rfl ?_
  refine gx_lv (lv' := [(0, .ref (gx_ad E 15)), (2, .int a2), (3, .int a3), (4, .int a4), (5, .int (gx_gA x 14 (a2 : Int32).toNatClampNeg)), (6, .int (gx_gA x 15 (a2 : Int32).toNatClampNeg)), (7, .int (if (gx_gA x 15 (a2 : Int32).toNatClampNeg) < a4 then (gx_gA x 15 (a2 : Int32).toNatClampNeg) else a4))]) [3, 5, 6, 7, 2, 1, 0] rfl ?_
  obtain ⟨e11, he11, hf⟩ := gx_bl_some hf
  refine (gx_loop (P := pp_Floor_isSeen_25 K E a2 a3 a4 (gx_gA x 14 (a2 : Int32).toNatClampNeg) (gx_gA x 15 (a2 : Int32).toNatClampNeg)) (Q := pq_Floor_isSeen_25 K E a2 a3 a4 (gx_gA x 14 (a2 : Int32).toNatClampNeg) (gx_gA x 15 (a2 : Int32).toNatClampNeg)) (fun a9 o9 h1 h2 => sc_Floor_isSeen_25 C hR hr hlk a2 a3 a4 (gx_gA x 14 (a2 : Int32).toNatClampNeg) (gx_gA x 15 (a2 : Int32).toNatClampNeg) a9 o9 h1 h2) gx_fuel (if (gx_gA x 15 (a2 : Int32).toNatClampNeg) < a4 then (gx_gA x 15 (a2 : Int32).toNatClampNeg) else a4, x) e11 he11 ?_ : pp_Floor_isSeen_25 K E a2 a3 a4 (gx_gA x 14 (a2 : Int32).toNatClampNeg) (gx_gA x 15 (a2 : Int32).toNatClampNeg) (if (gx_gA x 15 (a2 : Int32).toNatClampNeg) < a4 then (gx_gA x 15 (a2 : Int32).toNatClampNeg) else a4, x))
  unfold pq_Floor_isSeen_25
  by_cases ht12 : e11.1 = 0
  · rw [if_pos ht12]
    have hf := (if_pos ht12).symm.trans hf
    refine gx_iconst C (v := 0) d_Floor_isSeen_92 (by decide) ?_
    cases hf
    exact gx_zret C hr hlk hk (by decide) d_Floor_isSeen_93
  · rw [if_neg ht12]
    have hf := (if_neg ht12).symm.trans hf
    refine gx_iconst C (v := 1) d_Floor_isSeen_106 (by decide) ?_
    cases hf
    exact gx_zret C hr hlk hk (by decide) d_Floor_isSeen_107

def s_Search_allSeen_15 (v1 : Int32) (a : Int32 × gx_S) : Option ((Int32 × gx_S) ⊕ (Nat × Int32 × gx_S)) :=
  if (gx_gI a.2 3) ≤ a.1 then (some (.inr (1, a.1, a.2))) else (gx_bd (f_CaseLayout_sightOf v1 a.1 a.2) (fun r3 x3 => gx_ck r3 56 (if (gx_gA x3 9 (r3 : Int32).toNatClampNeg) = 0 then (some (.inl (a.1 + 1, x3))) else (gx_ck v1 8 (gx_ck v1 8 (gx_bd (f_Floor_isSeen a.1 (gx_gA x3 7 (v1 : Int32).toNatClampNeg) (gx_gA x3 8 (v1 : Int32).toNatClampNeg) x3) (fun r8 x8 => if r8 = 0 then (some (.inr (0, a.1, x8))) else (some (.inl (a.1 + 1, x8))))))))))
def s_Search_allSeen_2  (a : Int32 × gx_S) : Option ((Int32 × gx_S) ⊕ (Nat × Int32 × gx_S)) :=
  if (gx_gI a.2 4) ≤ a.1 then (some (.inr (1, a.1, a.2))) else (gx_bl (gx_it (s_Search_allSeen_15 a.1) gx_fuel (0, a.2)) (fun e10 => if e10.1 = 0 then (some (.inr (0, a.1, e10.2.2))) else (some (.inl (a.1 + 1, e10.2.2)))))
def f_Search_allSeen  (x : gx_S) : Option (Int32 × gx_S) :=
  gx_bl (gx_it (s_Search_allSeen_2 ) gx_fuel (0, x)) (fun e12 => if e12.1 = 0 then (some (0, e12.2.2)) else (some (1, e12.2.2)))
abbrev rm_Search_allSeen : Room := { frames := 3, cells := 0, slots := 0, locals := 74 }
def pp_Search_allSeen_15 (K : gx_K) (E : gx_E) (v1 : Int32) (a : Int32 × gx_S) : Prop := gx_G K E (gx_AB false E K.s.heap.size) 0 0 (a.2) 15 [(0, .ref (gx_ad E 25)), (1, .int v1), (2, .int a.1)] []
def pq_Search_allSeen_15 (K : gx_K) (E : gx_E) (v1 : Int32) (b : Nat × Int32 × gx_S) : Prop := if b.1 = 0 then gx_G K E (gx_AB false E K.s.heap.size) 0 0 (b.2.2) 75 [(1, .int v1)] [] else (gx_G K E (gx_AB false E K.s.heap.size) 0 0 (b.2.2) 83 [(0, .ref (gx_ad E 25)), (1, .int v1)] [])
def pp_Search_allSeen_2 (K : gx_K) (E : gx_E)  (a : Int32 × gx_S) : Prop := gx_G K E (gx_AB false E K.s.heap.size) 0 0 (a.2) 2 [(0, .ref (gx_ad E 25)), (1, .int a.1)] []
def pq_Search_allSeen_2 (K : gx_K) (E : gx_E)  (b : Nat × Int32 × gx_S) : Prop := if b.1 = 0 then gx_G K E (gx_AB false E K.s.heap.size) 0 0 (b.2.2) 75 [] [] else (gx_G K E (gx_AB false E K.s.heap.size) 0 0 (b.2.2) 89 [] [])
set_option maxHeartbeats 4000000 in
set_option maxRecDepth 100000 in
theorem sc_Search_allSeen_15 {K : gx_K} {E : gx_E} (C : gx_C K E "CaseLayout$Search" prog_7_method_10_code 3) (hR : K.R = rm_Search_allSeen) (hr : K.meth.sig.returnType = (some .boolean)) (hlk : K.meth.locks = false) (v1 : Int32) (a : Int32 × gx_S) (o : (Int32 × gx_S) ⊕ (Nat × Int32 × gx_S)) (hf : s_Search_allSeen_15 v1 a = some o) (hk : gx_or (pp_Search_allSeen_15 K E v1) (pq_Search_allSeen_15 K E v1) o) : pp_Search_allSeen_15 K E v1 a := by
  unfold s_Search_allSeen_15 at hf
  unfold pp_Search_allSeen_15
  refine gx_iload_n C 2 d_Search_allSeen_15 rfl rfl ?_
  refine gx_aload_n C 0 d_Search_allSeen_16 rfl rfl ?_
  refine gx_get C iw_Search 25 (gx_w25 E _) rfl 1 (by decide) gw_207 rfl rfl d_Search_allSeen_17 ?_
  refine gx_getN C iw_Things 3 (gx_w3 E _) rfl 5 (by decide) gn_91 rfl rfl d_Search_allSeen_20 ?_
  refine gx_icmp_ge (tgt := 83) C d_Search_allSeen_23 (by decide) (fun h2 => ?_) (fun h2 => ?_)
  · have hf := (if_pos h2).symm.trans hf
    cases hf
    have hk : pq_Search_allSeen_15 K E v1 _ := hk
    unfold pq_Search_allSeen_15 at hk
    have hk := gx_ifn (by decide : ¬ ((1 : Nat) = 0)) hk
    refine gx_lv (lv' := [(0, .ref (gx_ad E 25)), (1, .int v1)]) [0, 1] rfl ?_
    exact hk
  · have hf := (if_neg h2).symm.trans hf
    refine gx_aload_n C 0 d_Search_allSeen_26 rfl rfl ?_
    refine gx_get C iw_Search 25 (gx_w25 E _) rfl 2 (by decide) gw_208 rfl rfl d_Search_allSeen_27 ?_
    refine gx_getN C iw_Places 9 (gx_w9 E _) rfl 2 (by decide) gn_119 rfl rfl d_Search_allSeen_30 ?_
    refine gx_iload_n C 1 d_Search_allSeen_33 rfl rfl ?_
    refine gx_iload_n C 2 d_Search_allSeen_34 rfl rfl ?_
    obtain ⟨r3, x3, hc3, hf⟩ := gx_bd_some hf
    refine gx_cSNi (n2 := 0) (k2 := 0) C (As := [.int v1, .int a.1]) (rest := [.ref (gx_ad E 12)]) 2 (c_CaseLayout_sightOf K.l v1 a.1 a.2 _ hc3) (Or.inr rfl) rfl gw_492 gn_558 gw_1 gw_491 (by decide +kernel) (by rw [hR]; decide) rfl rfl (Nat.le_of_ble_eq_true rfl) d_Search_allSeen_35 (by rw [hR]; decide) rfl rfl ?_
    obtain ⟨hi4, hf⟩ := gx_ck_some hf
    refine gx_zald C 12 1 (gx_w12 E _) rfl hi4 d_Search_allSeen_38 ?_
    refine gx_if_eq (tgt := 77) C d_Search_allSeen_39 (by decide) (fun h5 => ?_) (fun h5 => ?_)
    · have hf := (if_pos h5).symm.trans hf
      refine gx_iinc C (v := a.1 + 1) (lv' := [(2, .int (a.1 + 1)), (0, .ref (gx_ad E 25)), (1, .int v1)]) 2 d_Search_allSeen_77 rfl rfl (by decide) rfl ?_
      refine gx_goto (tgt := 15) C d_Search_allSeen_80 (by decide) ?_
      cases hf
      refine gx_lv (lv' := [(0, .ref (gx_ad E 25)), (1, .int v1), (2, .int (a.1 + 1))]) [1, 2, 0] rfl ?_
      exact hk
    · have hf := (if_neg h5).symm.trans hf
      refine gx_aload_n C 0 d_Search_allSeen_42 rfl rfl ?_
      refine gx_get C iw_Search 25 (gx_w25 E _) rfl 4 (by decide) gw_210 rfl rfl d_Search_allSeen_43 ?_
      refine gx_aload_n C 0 d_Search_allSeen_46 rfl rfl ?_
      refine gx_get C iw_Search 25 (gx_w25 E _) rfl 5 (by decide) gw_211 rfl rfl d_Search_allSeen_47 ?_
      refine gx_iload_n C 2 d_Search_allSeen_50 rfl rfl ?_
      refine gx_aload_n C 0 d_Search_allSeen_51 rfl rfl ?_
      refine gx_get C iw_Search 25 (gx_w25 E _) rfl 2 (by decide) gw_208 rfl rfl d_Search_allSeen_52 ?_
      refine gx_getN C iw_Places 9 (gx_w9 E _) rfl 0 (by decide) gn_112 rfl rfl d_Search_allSeen_55 ?_
      refine gx_iload_n C 1 d_Search_allSeen_58 rfl rfl ?_
      obtain ⟨hi6, hf⟩ := gx_ck_some hf
      refine gx_iald C 10 0 (gx_w10 E _) rfl hi6 d_Search_allSeen_59 ?_
      refine gx_aload_n C 0 d_Search_allSeen_60 rfl rfl ?_
      refine gx_get C iw_Search 25 (gx_w25 E _) rfl 2 (by decide) gw_208 rfl rfl d_Search_allSeen_61 ?_
      refine gx_getN C iw_Places 9 (gx_w9 E _) rfl 1 (by decide) gn_115 rfl rfl d_Search_allSeen_64 ?_
      refine gx_iload_n C 1 d_Search_allSeen_67 rfl rfl ?_
      obtain ⟨hi7, hf⟩ := gx_ck_some hf
      refine gx_iald C 11 0 (gx_w11 E _) rfl hi7 d_Search_allSeen_68 ?_
      obtain ⟨r8, x8, hc8, hf⟩ := gx_bd_some hf
      refine gx_cVi (n2 := 0) (k2 := 0) C (As := [.ref (gx_ad E 19), .int a.1, .int (gx_gA x3 7 (v1 : Int32).toNatClampNeg), .int (gx_gA x3 8 (v1 : Int32).toNatClampNeg)]) (rest := []) 15 4 (c_Floor_isSeen K.l a.1 (gx_gA x3 7 (v1 : Int32).toNatClampNeg) (gx_gA x3 8 (v1 : Int32).toNatClampNeg) x3 _ hc8) (Or.inr rfl) rfl (gx_goodV gw_559 gw_560 gw_561 gw_7 gw_562) (by decide +kernel) (gx_w15 E _) rfl (by rw [hR]; decide) rfl rfl (Nat.le_of_ble_eq_true rfl) d_Search_allSeen_69 (by rw [hR]; decide) rfl rfl ?_
      refine gx_if_ne (tgt := 77) C d_Search_allSeen_72 (by decide) (fun h9 => ?_) (fun h9 => ?_)
      · have hf := (if_neg h9).symm.trans hf
        refine gx_iinc C (v := a.1 + 1) (lv' := [(2, .int (a.1 + 1)), (0, .ref (gx_ad E 25)), (1, .int v1)]) 2 d_Search_allSeen_77 rfl rfl (by decide) rfl ?_
        refine gx_goto (tgt := 15) C d_Search_allSeen_80 (by decide) ?_
        cases hf
        refine gx_lv (lv' := [(0, .ref (gx_ad E 25)), (1, .int v1), (2, .int (a.1 + 1))]) [1, 2, 0] rfl ?_
        exact hk
      · have hf := (if_pos h9).symm.trans hf
        cases hf
        have hk : pq_Search_allSeen_15 K E v1 _ := hk
        unfold pq_Search_allSeen_15 at hk
        have hk := gx_ifp (rfl : (0 : Nat) = 0) hk
        refine gx_lv (lv' := [(1, .int v1)]) [1] rfl ?_
        exact hk
set_option maxHeartbeats 4000000 in
set_option maxRecDepth 100000 in
theorem sc_Search_allSeen_2 {K : gx_K} {E : gx_E} (C : gx_C K E "CaseLayout$Search" prog_7_method_10_code 3) (hR : K.R = rm_Search_allSeen) (hr : K.meth.sig.returnType = (some .boolean)) (hlk : K.meth.locks = false)  (a : Int32 × gx_S) (o : (Int32 × gx_S) ⊕ (Nat × Int32 × gx_S)) (hf : s_Search_allSeen_2  a = some o) (hk : gx_or (pp_Search_allSeen_2 K E ) (pq_Search_allSeen_2 K E ) o) : pp_Search_allSeen_2 K E  a := by
  unfold s_Search_allSeen_2 at hf
  unfold pp_Search_allSeen_2
  refine gx_iload_n C 1 d_Search_allSeen_2 rfl rfl ?_
  refine gx_aload_n C 0 d_Search_allSeen_3 rfl rfl ?_
  refine gx_get C iw_Search 25 (gx_w25 E _) rfl 2 (by decide) gw_208 rfl rfl d_Search_allSeen_4 ?_
  refine gx_getN C iw_Places 9 (gx_w9 E _) rfl 3 (by decide) gn_122 rfl rfl d_Search_allSeen_7 ?_
  refine gx_icmp_ge (tgt := 89) C d_Search_allSeen_10 (by decide) (fun h1 => ?_) (fun h1 => ?_)
  · have hf := (if_pos h1).symm.trans hf
    cases hf
    have hk : pq_Search_allSeen_2 K E  _ := hk
    unfold pq_Search_allSeen_2 at hk
    have hk := gx_ifn (by decide : ¬ ((1 : Nat) = 0)) hk
    refine gx_lv (lv' := []) [] rfl ?_
    exact hk
  · have hf := (if_neg h1).symm.trans hf
    refine gx_iconst C (v := 0) d_Search_allSeen_13 (by decide) ?_
    refine gx_istore_n C (lv' := [(2, .int 0), (0, .ref (gx_ad E 25)), (1, .int a.1)]) d_Search_allSeen_14 rfl (by decide) rfl ?_
    refine gx_lv (lv' := [(0, .ref (gx_ad E 25)), (1, .int a.1), (2, .int 0)]) [1, 2, 0] rfl ?_
    obtain ⟨e10, he10, hf⟩ := gx_bl_some hf
    refine (gx_loop (P := pp_Search_allSeen_15 K E a.1) (Q := pq_Search_allSeen_15 K E a.1) (fun a9 o9 h1 h2 => sc_Search_allSeen_15 C hR hr hlk a.1 a9 o9 h1 h2) gx_fuel (0, a.2) e10 he10 ?_ : pp_Search_allSeen_15 K E a.1 (0, a.2))
    unfold pq_Search_allSeen_15
    by_cases ht11 : e10.1 = 0
    · rw [if_pos ht11]
      have hf := (if_pos ht11).symm.trans hf
      cases hf
      have hk : pq_Search_allSeen_2 K E  _ := hk
      unfold pq_Search_allSeen_2 at hk
      have hk := gx_ifp (rfl : (0 : Nat) = 0) hk
      refine gx_lv (lv' := []) [] rfl ?_
      exact hk
    · rw [if_neg ht11]
      have hf := (if_neg ht11).symm.trans hf
      refine gx_iinc C (v := a.1 + 1) (lv' := [(1, .int (a.1 + 1)), (0, .ref (gx_ad E 25))]) 1 d_Search_allSeen_83 rfl rfl (by decide) rfl ?_
      refine gx_goto (tgt := 2) C d_Search_allSeen_86 (by decide) ?_
      cases hf
      refine gx_lv (lv' := [(0, .ref (gx_ad E 25)), (1, .int (a.1 + 1))]) [1, 0] rfl ?_
      exact hk
set_option maxHeartbeats 4000000 in
set_option maxRecDepth 100000 in
theorem c_Search_allSeen (l : Launch)  (x : gx_S) (o : Int32 × gx_S) (hf : f_Search_allSeen  x = some o) : gx_Mi false l y_Search_allSeen prog_7_method_10_code 3 (some .boolean) rm_Search_allSeen (fun E => [.ref (gx_ad E 25)]) x o.1 o.2 := by
  refine gx_meti (own := "CaseLayout$Search") (by decide) rfl (fun E => Nat.le_of_ble_eq_true rfl) (fun K E hl0 hR hr hlk hk C => ?_)
  subst hl0
  unfold f_Search_allSeen at hf
  show gx_G K E _ 0 0 x 0 [(0, .ref (gx_ad E 25))] []
  refine gx_iconst C (v := 0) d_Search_allSeen_0 (by decide) ?_
  refine gx_istore_n C (lv' := [(1, .int 0), (0, .ref (gx_ad E 25))]) d_Search_allSeen_1 rfl (by decide) rfl ?_
  refine gx_lv (lv' := [(0, .ref (gx_ad E 25)), (1, .int 0)]) [1, 0] rfl ?_
  obtain ⟨e12, he12, hf⟩ := gx_bl_some hf
  refine (gx_loop (P := pp_Search_allSeen_2 K E ) (Q := pq_Search_allSeen_2 K E ) (fun a9 o9 h1 h2 => sc_Search_allSeen_2 C hR hr hlk  a9 o9 h1 h2) gx_fuel (0, x) e12 he12 ?_ : pp_Search_allSeen_2 K E  (0, x))
  unfold pq_Search_allSeen_2
  by_cases ht13 : e12.1 = 0
  · rw [if_pos ht13]
    have hf := (if_pos ht13).symm.trans hf
    refine gx_iconst C (v := 0) d_Search_allSeen_75 (by decide) ?_
    cases hf
    exact gx_zret C hr hlk hk (by decide) d_Search_allSeen_76
  · rw [if_neg ht13]
    have hf := (if_neg ht13).symm.trans hf
    refine gx_iconst C (v := 1) d_Search_allSeen_89 (by decide) ?_
    cases hf
    exact gx_zret C hr hlk hk (by decide) d_Search_allSeen_90
