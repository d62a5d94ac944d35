def s_Floor_cover_2_39 (v2 : Int32) (v3 : Int32) (v4 : Int32) (v5 : Int32) (a : Int32 × gx_S) : Option ((Int32 × gx_S) ⊕ (Nat × Int32 × gx_S)) :=
  gx_ck v2 7 (if (v3 + (gx_gA a.2 2 (v2 : Int32).toNatClampNeg)) ≤ a.1 then (some (.inr (0, a.1, a.2))) else (gx_bd (f_Grid_holds a.1 v5 a.2) (fun r7 x7 => if r7 = 0 then (some (.inl (a.1 + 1, x7))) else (gx_bd (f_CaseLayout_cellOf a.1 v5 x7) (fun r9 x9 => gx_ck r9 81 (some (.inl (a.1 + 1, gx_sA x9 11 (r9 : Int32).toNatClampNeg v2))))))))
def s_Floor_cover_2_19 (v2 : Int32) (v3 : Int32) (v4 : Int32) (a : Int32 × gx_S) : Option ((Int32 × gx_S) ⊕ (Nat × Int32 × gx_S)) :=
  gx_ck v2 7 (if (v4 + (gx_gA a.2 3 (v2 : Int32).toNatClampNeg)) ≤ a.1 then (some (.inr (0, a.1, a.2))) else (gx_bl (gx_it (s_Floor_cover_2_39 v2 v3 v4 a.1) gx_fuel (v3, a.2)) (fun e11 => some (.inl (a.1 + 1, e11.2.2)))))
def f_Floor_cover_2 (a2 : Int32) (x : gx_S) : Option (Int32 × gx_S) :=
  gx_ck a2 7 (gx_ck a2 7 (gx_bl (gx_it (s_Floor_cover_2_19 a2 (gx_gA x 16 (a2 : Int32).toNatClampNeg) (gx_gA x 17 (a2 : Int32).toNatClampNeg)) gx_fuel (gx_gA x 17 (a2 : Int32).toNatClampNeg, x)) (fun e12 => some (0, e12.2.2))))
abbrev rm_Floor_cover_2 : Room := { frames := 1, cells := 0, slots := 0, locals := 22 }
def pp_Floor_cover_2_39 (K : gx_K) (E : gx_E) (v2 : Int32) (v3 : Int32) (v4 : Int32) (v5 : Int32) (a : Int32 × gx_S) : Prop := gx_G K E (gx_AB true E K.s.heap.size) 0 0 (a.2) 39 [(0, .ref (gx_ad E 15)), (1, .ref (gx_ad E 22)), (2, .int v2), (3, .int v3), (4, .int v4), (5, .int v5), (6, .int a.1)] []
def pq_Floor_cover_2_39 (K : gx_K) (E : gx_E) (v2 : Int32) (v3 : Int32) (v4 : Int32) (v5 : Int32) (b : Nat × Int32 × gx_S) : Prop := gx_G K E (gx_AB true E K.s.heap.size) 0 0 (b.2.2) 88 [(0, .ref (gx_ad E 15)), (1, .ref (gx_ad E 22)), (2, .int v2), (3, .int v3), (4, .int v4), (5, .int v5)] []
def pp_Floor_cover_2_19 (K : gx_K) (E : gx_E) (v2 : Int32) (v3 : Int32) (v4 : Int32) (a : Int32 × gx_S) : Prop := gx_G K E (gx_AB true E K.s.heap.size) 0 0 (a.2) 19 [(0, .ref (gx_ad E 15)), (1, .ref (gx_ad E 22)), (2, .int v2), (3, .int v3), (4, .int v4), (5, .int a.1)] []
def pq_Floor_cover_2_19 (K : gx_K) (E : gx_E) (v2 : Int32) (v3 : Int32) (v4 : Int32) (b : Nat × Int32 × gx_S) : Prop := gx_G K E (gx_AB true E K.s.heap.size) 0 0 (b.2.2) 94 [] []
set_option maxHeartbeats 4000000 in
set_option maxRecDepth 100000 in
theorem sc_Floor_cover_2_39 {K : gx_K} {E : gx_E} (C : gx_C K E "CaseLayout$Floor" prog_3_method_3_code 7) (hR : K.R = rm_Floor_cover_2) (hr : K.meth.sig.returnType = none) (hlk : K.meth.locks = false) (v2 : Int32) (v3 : Int32) (v4 : Int32) (v5 : Int32) (a : Int32 × gx_S) (o : (Int32 × gx_S) ⊕ (Nat × Int32 × gx_S)) (hf : s_Floor_cover_2_39 v2 v3 v4 v5 a = some o) (hk : gx_or (pp_Floor_cover_2_39 K E v2 v3 v4 v5) (pq_Floor_cover_2_39 K E v2 v3 v4 v5) o) : pp_Floor_cover_2_39 K E v2 v3 v4 v5 a := by
  unfold s_Floor_cover_2_39 at hf
  unfold pp_Floor_cover_2_39
  refine gx_iload C 6 d_Floor_cover_39 rfl ?_
  refine gx_iload_n C 3 d_Floor_cover_41 rfl rfl ?_
  refine gx_aload_n C 1 d_Floor_cover_42 rfl rfl ?_
  refine gx_getN C iw_Layout 22 (gx_w22 E _) rfl 0 (by decide) gn_190 rfl rfl d_Floor_cover_43 ?_
  refine gx_getN C iw_Things 3 (gx_w3 E _) rfl 0 (by decide) gn_74 rfl rfl d_Floor_cover_46 ?_
  refine gx_iload_n C 2 d_Floor_cover_49 rfl rfl ?_
  obtain ⟨hi5, hf⟩ := gx_ck_some hf
  refine gx_iald C 4 0 (gx_w4 E _) rfl hi5 d_Floor_cover_50 ?_
  refine gx_iadd C d_Floor_cover_51 ?_
  refine gx_icmp_ge (tgt := 88) C d_Floor_cover_52 (by decide) (fun h6 => ?_) (fun h6 => ?_)
  · have hf := (if_pos h6).symm.trans hf
    cases hf
    have hk : pq_Floor_cover_2_39 K E v2 v3 v4 v5 _ := hk
    unfold pq_Floor_cover_2_39 at hk
    refine gx_lv (lv' := [(0, .ref (gx_ad E 15)), (1, .ref (gx_ad E 22)), (2, .int v2), (3, .int v3), (4, .int v4), (5, .int v5)]) [0, 1, 2, 3, 4, 5] rfl ?_
    exact hk
  · have hf := (if_neg h6).symm.trans hf
    refine gx_aload_n C 0 d_Floor_cover_55 rfl rfl ?_
    refine gx_get C iw_Floor 15 (gx_w15 E _) rfl 0 (by decide) gw_160 rfl rfl d_Floor_cover_56 ?_
    refine gx_iload C 6 d_Floor_cover_59 rfl ?_
    refine gx_iload C 5 d_Floor_cover_61 rfl ?_
    obtain ⟨r7, x7, hc7, hf⟩ := gx_bd_some hf
    refine gx_cVi (n2 := 0) (k2 := 0) C (As := [.int a.1, .int v5]) (rest := []) 0 2 (c_Grid_holds K.l a.1 v5 a.2 _ hc7) (Or.inl rfl) rfl (gx_goodV gw_552 gw_289 gw_290 gw_2 gw_291) (by decide +kernel) (gx_w0 E _) rfl (by rw [hR]; decide) rfl rfl (Nat.le_of_ble_eq_true rfl) d_Floor_cover_63 (by rw [hR]; decide) rfl rfl ?_
    refine gx_if_eq (tgt := 82) C d_Floor_cover_66 (by decide) (fun h8 => ?_) (fun h8 => ?_)
    · have hf := (if_pos h8).symm.trans hf
      refine gx_iinc C (v := a.1 + 1) (lv' := [(6, .int (a.1 + 1)), (0, .ref (gx_ad E 15)), (1, .ref (gx_ad E 22)), (2, .int v2), (3, .int v3), (4, .int v4), (5, .int v5)]) 6 d_Floor_cover_82 rfl rfl (by decide) rfl ?_
      refine gx_goto (tgt := 39) C d_Floor_cover_85 (by decide) ?_
      cases hf
      refine gx_lv (lv' := [(0, .ref (gx_ad E 15)), (1, .ref (gx_ad E 22)), (2, .int v2), (3, .int v3), (4, .int v4), (5, .int v5), (6, .int (a.1 + 1))]) [1, 2, 3, 4, 5, 6, 0] rfl ?_
      exact hk
    · have hf := (if_neg h8).symm.trans hf
      refine gx_aload_n C 0 d_Floor_cover_69 rfl rfl ?_
      refine gx_get C iw_Floor 15 (gx_w15 E _) rfl 1 (by decide) gw_161 rfl rfl d_Floor_cover_70 ?_
      refine gx_iload C 6 d_Floor_cover_73 rfl ?_
      refine gx_iload C 5 d_Floor_cover_75 rfl ?_
      obtain ⟨r9, x9, hc9, hf⟩ := gx_bd_some hf
      refine gx_cSNi (n2 := 0) (k2 := 0) C (As := [.int a.1, .int v5]) (rest := [.ref (gx_ad E 16)]) 2 (c_CaseLayout_cellOf K.l a.1 v5 x7 _ hc9) (Or.inl rfl) rfl gw_362 gn_553 gw_1 gw_361 (by decide +kernel) (by rw [hR]; decide) rfl rfl (Nat.le_of_ble_eq_true rfl) d_Floor_cover_77 (by rw [hR]; decide) rfl rfl ?_
      refine gx_iload_n C 2 d_Floor_cover_80 rfl rfl ?_
      obtain ⟨hi10, hf⟩ := gx_ck_some hf
      refine gx_iast C (x' := gx_sA x9 11 (r9 : Int32).toNatClampNeg v2) 16 0 (gx_w16 E _) rfl hi10 (gx_q16 E _ _ _) d_Floor_cover_81 ?_
      refine gx_iinc C (v := a.1 + 1) (lv' := [(6, .int (a.1 + 1)), (0, .ref (gx_ad E 15)), (1, .ref (gx_ad E 22)), (2, .int v2), (3, .int v3), (4, .int v4), (5, .int v5)]) 6 d_Floor_cover_82 rfl rfl (by decide) rfl ?_
      refine gx_goto (tgt := 39) C d_Floor_cover_85 (by decide) ?_
      cases hf
      refine gx_lv (lv' := [(0, .ref (gx_ad E 15)), (1, .ref (gx_ad E 22)), (2, .int v2), (3, .int v3), (4, .int v4), (5, .int v5), (6, .int (a.1 + 1))]) [1, 2, 3, 4, 5, 6, 0] rfl ?_
      exact hk
set_option maxHeartbeats 4000000 in
set_option maxRecDepth 100000 in
theorem sc_Floor_cover_2_19 {K : gx_K} {E : gx_E} (C : gx_C K E "CaseLayout$Floor" prog_3_method_3_code 7) (hR : K.R = rm_Floor_cover_2) (hr : K.meth.sig.returnType = none) (hlk : K.meth.locks = false) (v2 : Int32) (v3 : Int32) (v4 : Int32) (a : Int32 × gx_S) (o : (Int32 × gx_S) ⊕ (Nat × Int32 × gx_S)) (hf : s_Floor_cover_2_19 v2 v3 v4 a = some o) (hk : gx_or (pp_Floor_cover_2_19 K E v2 v3 v4) (pq_Floor_cover_2_19 K E v2 v3 v4) o) : pp_Floor_cover_2_19 K E v2 v3 v4 a := by
  unfold s_Floor_cover_2_19 at hf
  unfold pp_Floor_cover_2_19
  refine gx_iload C 5 d_Floor_cover_19 rfl ?_
  refine gx_iload C 4 d_Floor_cover_21 rfl ?_
  refine gx_aload_n C 1 d_Floor_cover_23 rfl rfl ?_
  refine gx_getN C iw_Layout 22 (gx_w22 E _) rfl 0 (by decide) gn_190 rfl rfl d_Floor_cover_24 ?_
  refine gx_getN C iw_Things 3 (gx_w3 E _) rfl 1 (by decide) gn_78 rfl rfl d_Floor_cover_27 ?_
  refine gx_iload_n C 2 d_Floor_cover_30 rfl rfl ?_
  obtain ⟨hi3, hf⟩ := gx_ck_some hf
  refine gx_iald C 5 0 (gx_w5 E _) rfl hi3 d_Floor_cover_31 ?_
  refine gx_iadd C d_Floor_cover_32 ?_
  refine gx_icmp_ge (tgt := 94) C d_Floor_cover_33 (by decide) (fun h4 => ?_) (fun h4 => ?_)
  · have hf := (if_pos h4).symm.trans hf
    cases hf
    have hk : pq_Floor_cover_2_19 K E v2 v3 v4 _ := hk
    unfold pq_Floor_cover_2_19 at hk
    refine gx_lv (lv' := []) [] rfl ?_
    exact hk
  · have hf := (if_neg h4).symm.trans hf
    refine gx_iload_n C 3 d_Floor_cover_36 rfl rfl ?_
    refine gx_istore C (lv' := [(6, .int v3), (0, .ref (gx_ad E 15)), (1, .ref (gx_ad E 22)), (2, .int v2), (3, .int v3), (4, .int v4), (5, .int a.1)]) d_Floor_cover_37 (by decide) rfl ?_
    refine gx_lv (lv' := [(0, .ref (gx_ad E 15)), (1, .ref (gx_ad E 22)), (2, .int v2), (3, .int v3), (4, .int v4), (5, .int a.1), (6, .int v3)]) [1, 2, 3, 4, 5, 6, 0] rfl ?_
    obtain ⟨e11, he11, hf⟩ := gx_bl_some hf
    refine (gx_loop (P := pp_Floor_cover_2_39 K E v2 v3 v4 a.1) (Q := pq_Floor_cover_2_39 K E v2 v3 v4 a.1) (fun a9 o9 h1 h2 => sc_Floor_cover_2_39 C hR hr hlk v2 v3 v4 a.1 a9 o9 h1 h2) gx_fuel (v3, a.2) e11 he11 ?_ : pp_Floor_cover_2_39 K E v2 v3 v4 a.1 (v3, a.2))
    unfold pq_Floor_cover_2_39
    refine gx_iinc C (v := a.1 + 1) (lv' := [(5, .int (a.1 + 1)), (0, .ref (gx_ad E 15)), (1, .ref (gx_ad E 22)), (2, .int v2), (3, .int v3), (4, .int v4)]) 5 d_Floor_cover_88 rfl rfl (by decide) rfl ?_
    refine gx_goto (tgt := 19) C d_Floor_cover_91 (by decide) ?_
    cases hf
    refine gx_lv (lv' := [(0, .ref (gx_ad E 15)), (1, .ref (gx_ad E 22)), (2, .int v2), (3, .int v3), (4, .int v4), (5, .int (a.1 + 1))]) [1, 2, 3, 4, 5, 0] rfl ?_
    exact hk
set_option maxHeartbeats 4000000 in
set_option maxRecDepth 100000 in
theorem c_Floor_cover_2 (l : Launch) (a2 : Int32) (x : gx_S) (o : Int32 × gx_S) (hf : f_Floor_cover_2 a2 x = some o) : gx_Mv true l y_Floor_cover prog_3_method_3_code 7 rm_Floor_cover_2 (fun E => [.ref (gx_ad E 15), .ref (gx_ad E 22), .int a2]) x o.2 := by
  refine gx_metv (own := "CaseLayout$Floor") (by decide) rfl (fun E => Nat.le_of_ble_eq_true rfl) (fun K E hl0 hR hr hlk hk C => ?_)
  subst hl0
  unfold f_Floor_cover_2 at hf
  show gx_G K E _ 0 0 x 0 [(0, .ref (gx_ad E 15)), (1, .ref (gx_ad E 22)), (2, .int a2)] []
  refine gx_aload_n C 1 d_Floor_cover_0 rfl rfl ?_
  refine gx_getN C iw_Layout 22 (gx_w22 E _) rfl 1 (by decide) gn_192 rfl rfl d_Floor_cover_1 ?_
  refine gx_iload_n C 2 d_Floor_cover_4 rfl rfl ?_
  obtain ⟨hi1, hf⟩ := gx_ck_some hf
  refine gx_iald C 23 0 (gx_w23 E _) rfl hi1 d_Floor_cover_5 ?_
  refine gx_istore_n C (lv' := [(3, .int (gx_gA x 16 (a2 : Int32).toNatClampNeg)), (0, .ref (gx_ad E 15)), (1, .ref (gx_ad E 22)), (2, .int a2)]) d_Floor_cover_6 rfl (by decide) rfl ?_
  refine gx_aload_n C 2 d_Floor_cover_7 rfl rfl ?_
  refine gx_getN C iw_Layout 22 (gx_w22 E _) rfl 2 (by decide) gn_196 rfl rfl d_Floor_cover_8 ?_
  refine gx_iload_n C 3 d_Floor_cover_11 rfl rfl ?_
  obtain ⟨hi2, hf⟩ := gx_ck_some hf
  refine gx_iald C 24 0 (gx_w24 E _) rfl hi2 d_Floor_cover_12 ?_
  refine gx_istore C (lv' := [(4, .int (gx_gA x 17 (a2 : Int32).toNatClampNeg)), (3, .int (gx_gA x 16 (a2 : Int32).toNatClampNeg)), (0, .ref (gx_ad E 15)), (1, .ref (gx_ad E 22)), (2, .int a2)]) d_Floor_cover_13 (by decide) rfl ?_
  refine gx_iload C 0 d_Floor_cover_15 rfl ?_
  refine gx_istore C (lv' := [(5, .int (gx_gA x 17 (a2 : Int32).toNatClampNeg)), (4, .int (gx_gA x 17 (a2 : Int32).toNatClampNeg)), (3, .int (gx_gA x 16 (a2 : Int32).toNatClampNeg)), (0, .ref (gx_ad E 15)), (1, .ref (gx_ad E 22)), (2, .int a2)]) d_Floor_cover_17 (by decide) rfl ?_
  refine gx_lv (lv' := [(0, .ref (gx_ad E 15)), (1, .ref (gx_ad E 22)), (2, .int a2), (3, .int (gx_gA x 16 (a2 : Int32).toNatClampNeg)), (4, .int (gx_gA x 17 (a2 : Int32).toNatClampNeg)), (5, .int (gx_gA x 17 (a2 : Int32).toNatClampNeg))]) [3, 4, 5, 2, 1, 0] rfl ?_
  obtain ⟨e12, he12, hf⟩ := gx_bl_some hf
  refine (gx_loop (P := pp_Floor_cover_2_19 K E a2 (gx_gA x 16 (a2 : Int32).toNatClampNeg) (gx_gA x 17 (a2 : Int32).toNatClampNeg)) (Q := pq_Floor_cover_2_19 K E a2 (gx_gA x 16 (a2 : Int32).toNatClampNeg) (gx_gA x 17 (a2 : Int32).toNatClampNeg)) (fun a9 o9 h1 h2 => sc_Floor_cover_2_19 C hR hr hlk a2 (gx_gA x 16 (a2 : Int32).toNatClampNeg) (gx_gA x 17 (a2 : Int32).toNatClampNeg) a9 o9 h1 h2) gx_fuel (gx_gA x 17 (a2 : Int32).toNatClampNeg, x) e12 he12 ?_ : pp_Floor_cover_2_19 K E a2 (gx_gA x 16 (a2 : Int32).toNatClampNeg) (gx_gA x 17 (a2 : Int32).toNatClampNeg) (gx_gA x 17 (a2 : Int32).toNatClampNeg, x))
  unfold pq_Floor_cover_2_19
  cases hf
  exact gx_vret C hr hlk hk d_Floor_cover_94

def s_Floor_lay_2_2  (a : Int32 × gx_S) : Option ((Int32 × gx_S) ⊕ (Nat × Int32 × gx_S)) :=
  if 81 ≤ a.1 then (some (.inr (0, a.1, a.2))) else (gx_ck a.1 81 (if (gx_gA a.2 0 (a.1 : Int32).toNatClampNeg) = 0 then (gx_ck a.1 81 (some (.inl (a.1 + 1, gx_sA a.2 11 (a.1 : Int32).toNatClampNeg (-1))))) else (gx_ck a.1 81 (some (.inl (a.1 + 1, gx_sA a.2 11 (a.1 : Int32).toNatClampNeg (-2)))))))
def s_Floor_lay_2_40  (a : Int32 × gx_S) : Option ((Int32 × gx_S) ⊕ (Nat × Int32 × gx_S)) :=
  if (gx_gI a.2 3) ≤ a.1 then (some (.inr (0, a.1, a.2))) else (gx_bd (f_Floor_cover_2 a.1 a.2) (fun r8 x8 => some (.inl (a.1 + 1, x8))))
def f_Floor_lay_2  (x : gx_S) : Option (Int32 × gx_S) :=
  gx_bl (gx_it (s_Floor_lay_2_2 ) gx_fuel (0, x)) (fun e6 => gx_bl (gx_it (s_Floor_lay_2_40 ) gx_fuel (0, e6.2.2)) (fun e9 => some (0, e9.2.2)))
abbrev rm_Floor_lay_2 : Room := { frames := 2, cells := 0, slots := 0, locals := 48 }
def pp_Floor_lay_2_2 (K : gx_K) (E : gx_E)  (a : Int32 × gx_S) : Prop := gx_G K E (gx_AB true E K.s.heap.size) 0 0 (a.2) 2 [(0, .ref (gx_ad E 15)), (1, .ref (gx_ad E 22)), (2, .int a.1)] []
def pq_Floor_lay_2_2 (K : gx_K) (E : gx_E)  (b : Nat × Int32 × gx_S) : Prop := gx_G K E (gx_AB true E K.s.heap.size) 0 0 (b.2.2) 38 [(0, .ref (gx_ad E 15)), (1, .ref (gx_ad E 22))] []
def pp_Floor_lay_2_40 (K : gx_K) (E : gx_E)  (a : Int32 × gx_S) : Prop := gx_G K E (gx_AB true E K.s.heap.size) 0 0 (a.2) 40 [(0, .ref (gx_ad E 15)), (1, .ref (gx_ad E 22)), (2, .int a.1)] []
def pq_Floor_lay_2_40 (K : gx_K) (E : gx_E)  (b : Nat × Int32 × gx_S) : Prop := gx_G K E (gx_AB true E K.s.heap.size) 0 0 (b.2.2) 63 [] []
set_option maxHeartbeats 4000000 in
set_option maxRecDepth 100000 in
theorem sc_Floor_lay_2_2 {K : gx_K} {E : gx_E} (C : gx_C K E "CaseLayout$Floor" prog_3_method_2_code 3) (hR : K.R = rm_Floor_lay_2) (hr : K.meth.sig.returnType = none) (hlk : K.meth.locks = false)  (a : Int32 × gx_S) (o : (Int32 × gx_S) ⊕ (Nat × Int32 × gx_S)) (hf : s_Floor_lay_2_2  a = some o) (hk : gx_or (pp_Floor_lay_2_2 K E ) (pq_Floor_lay_2_2 K E ) o) : pp_Floor_lay_2_2 K E  a := by
  unfold s_Floor_lay_2_2 at hf
  unfold pp_Floor_lay_2_2
  refine gx_iload_n C 2 d_Floor_lay_2 rfl rfl ?_
  refine gx_bipush C (v := 81) d_Floor_lay_3 (by decide) ?_
  refine gx_icmp_ge (tgt := 38) C d_Floor_lay_5 (by decide) (fun h1 => ?_) (fun h1 => ?_)
  · have hf := (if_pos h1).symm.trans hf
    cases hf
    have hk : pq_Floor_lay_2_2 K E  _ := hk
    unfold pq_Floor_lay_2_2 at hk
    refine gx_lv (lv' := [(0, .ref (gx_ad E 15)), (1, .ref (gx_ad E 22))]) [0, 1] rfl ?_
    exact hk
  · have hf := (if_neg h1).symm.trans hf
    refine gx_aload_n C 0 d_Floor_lay_8 rfl rfl ?_
    refine gx_get C iw_Floor 15 (gx_w15 E _) rfl 1 (by decide) gw_161 rfl rfl d_Floor_lay_9 ?_
    refine gx_iload_n C 2 d_Floor_lay_12 rfl rfl ?_
    refine gx_aload_n C 0 d_Floor_lay_13 rfl rfl ?_
    refine gx_get C iw_Floor 15 (gx_w15 E _) rfl 0 (by decide) gw_160 rfl rfl d_Floor_lay_14 ?_
    refine gx_getN C iw_Grid 0 (gx_w0 E _) rfl 2 (by decide) gn_48 rfl rfl d_Floor_lay_17 ?_
    refine gx_iload_n C 2 d_Floor_lay_20 rfl rfl ?_
    obtain ⟨hi2, hf⟩ := gx_ck_some hf
    refine gx_zald C 1 1 (gx_w1 E _) rfl hi2 d_Floor_lay_21 ?_
    refine gx_if_eq (tgt := 30) C d_Floor_lay_22 (by decide) (fun h3 => ?_) (fun h3 => ?_)
    · have hf := (if_pos h3).symm.trans hf
      refine gx_iconst C (v := (-1)) d_Floor_lay_30 (by decide) ?_
      obtain ⟨hi4, hf⟩ := gx_ck_some hf
      refine gx_iast C (x' := gx_sA a.2 11 (a.1 : Int32).toNatClampNeg (-1)) 16 0 (gx_w16 E _) rfl hi4 (gx_q16 E _ _ _) d_Floor_lay_31 ?_
      refine gx_iinc C (v := a.1 + 1) (lv' := [(2, .int (a.1 + 1)), (0, .ref (gx_ad E 15)), (1, .ref (gx_ad E 22))]) 2 d_Floor_lay_32 rfl rfl (by decide) rfl ?_
      refine gx_goto (tgt := 2) C d_Floor_lay_35 (by decide) ?_
      cases hf
      refine gx_lv (lv' := [(0, .ref (gx_ad E 15)), (1, .ref (gx_ad E 22)), (2, .int (a.1 + 1))]) [1, 2, 0] rfl ?_
      exact hk
    · have hf := (if_neg h3).symm.trans hf
      refine gx_bipush C (v := (-2)) d_Floor_lay_25 (by decide) ?_
      refine gx_goto (tgt := 31) C d_Floor_lay_27 (by decide) ?_
      obtain ⟨hi5, hf⟩ := gx_ck_some hf
      refine gx_iast C (x' := gx_sA a.2 11 (a.1 : Int32).toNatClampNeg (-2)) 16 0 (gx_w16 E _) rfl hi5 (gx_q16 E _ _ _) d_Floor_lay_31 ?_
      refine gx_iinc C (v := a.1 + 1) (lv' := [(2, .int (a.1 + 1)), (0, .ref (gx_ad E 15)), (1, .ref (gx_ad E 22))]) 2 d_Floor_lay_32 rfl rfl (by decide) rfl ?_
      refine gx_goto (tgt := 2) C d_Floor_lay_35 (by decide) ?_
      cases hf
      refine gx_lv (lv' := [(0, .ref (gx_ad E 15)), (1, .ref (gx_ad E 22)), (2, .int (a.1 + 1))]) [1, 2, 0] rfl ?_
      exact hk
set_option maxHeartbeats 4000000 in
set_option maxRecDepth 100000 in
theorem sc_Floor_lay_2_40 {K : gx_K} {E : gx_E} (C : gx_C K E "CaseLayout$Floor" prog_3_method_2_code 3) (hR : K.R = rm_Floor_lay_2) (hr : K.meth.sig.returnType = none) (hlk : K.meth.locks = false)  (a : Int32 × gx_S) (o : (Int32 × gx_S) ⊕ (Nat × Int32 × gx_S)) (hf : s_Floor_lay_2_40  a = some o) (hk : gx_or (pp_Floor_lay_2_40 K E ) (pq_Floor_lay_2_40 K E ) o) : pp_Floor_lay_2_40 K E  a := by
  unfold s_Floor_lay_2_40 at hf
  unfold pp_Floor_lay_2_40
  refine gx_iload_n C 2 d_Floor_lay_40 rfl rfl ?_
  refine gx_aload_n C 1 d_Floor_lay_41 rfl rfl ?_
  refine gx_getN C iw_Layout 22 (gx_w22 E _) rfl 0 (by decide) gn_190 rfl rfl d_Floor_lay_42 ?_
  refine gx_getN C iw_Things 3 (gx_w3 E _) rfl 5 (by decide) gn_89 rfl rfl d_Floor_lay_45 ?_
  refine gx_icmp_ge (tgt := 63) C d_Floor_lay_48 (by decide) (fun h7 => ?_) (fun h7 => ?_)
  · have hf := (if_pos h7).symm.trans hf
    cases hf
    have hk : pq_Floor_lay_2_40 K E  _ := hk
    unfold pq_Floor_lay_2_40 at hk
    refine gx_lv (lv' := []) [] rfl ?_
    exact hk
  · have hf := (if_neg h7).symm.trans hf
    refine gx_aload_n C 0 d_Floor_lay_51 rfl rfl ?_
    refine gx_aload_n C 1 d_Floor_lay_52 rfl rfl ?_
    refine gx_iload_n C 2 d_Floor_lay_53 rfl rfl ?_
    obtain ⟨r8, x8, hc8, hf⟩ := gx_bd_some hf
    refine gx_cVv (n2 := 0) (k2 := 0) C (As := [.ref (gx_ad E 22), .int a.1]) (rest := []) 15 2 (c_Floor_cover_2 K.l a.1 a.2 _ hc8) (Or.inl rfl) rfl (gx_goodV gw_548 gw_550 gs_7 gw_7 gw_551) (by decide +kernel) (gx_w15 E _) rfl (by rw [hR]; decide) rfl rfl (Nat.le_of_ble_eq_true rfl) d_Floor_lay_54 (by rw [hR]; decide) rfl rfl ?_
    refine gx_iinc C (v := a.1 + 1) (lv' := [(2, .int (a.1 + 1)), (0, .ref (gx_ad E 15)), (1, .ref (gx_ad E 22))]) 2 d_Floor_lay_57 rfl rfl (by decide) rfl ?_
    refine gx_goto (tgt := 40) C d_Floor_lay_60 (by decide) ?_
    cases hf
    refine gx_lv (lv' := [(0, .ref (gx_ad E 15)), (1, .ref (gx_ad E 22)), (2, .int (a.1 + 1))]) [1, 2, 0] rfl ?_
    exact hk
set_option maxHeartbeats 4000000 in
set_option maxRecDepth 100000 in
theorem c_Floor_lay_2 (l : Launch)  (x : gx_S) (o : Int32 × gx_S) (hf : f_Floor_lay_2  x = some o) : gx_Mv true l y_Floor_lay prog_3_method_2_code 3 rm_Floor_lay_2 (fun E => [.ref (gx_ad E 15), .ref (gx_ad E 22)]) x o.2 := by
  refine gx_metv (own := "CaseLayout$Floor") (by decide) rfl (fun E => Nat.le_of_ble_eq_true rfl) (fun K E hl0 hR hr hlk hk C => ?_)
  subst hl0
  unfold f_Floor_lay_2 at hf
  show gx_G K E _ 0 0 x 0 [(0, .ref (gx_ad E 15)), (1, .ref (gx_ad E 22))] []
  refine gx_iconst C (v := 0) d_Floor_lay_0 (by decide) ?_
  refine gx_istore_n C (lv' := [(2, .int 0), (0, .ref (gx_ad E 15)), (1, .ref (gx_ad E 22))]) d_Floor_lay_1 rfl (by decide) rfl ?_
  refine gx_lv (lv' := [(0, .ref (gx_ad E 15)), (1, .ref (gx_ad E 22)), (2, .int 0)]) [1, 2, 0] rfl ?_
  obtain ⟨e6, he6, hf⟩ := gx_bl_some hf
  refine (gx_loop (P := pp_Floor_lay_2_2 K E ) (Q := pq_Floor_lay_2_2 K E ) (fun a9 o9 h1 h2 => sc_Floor_lay_2_2 C hR hr hlk  a9 o9 h1 h2) gx_fuel (0, x) e6 he6 ?_ : pp_Floor_lay_2_2 K E  (0, x))
  unfold pq_Floor_lay_2_2
  refine gx_iconst C (v := 0) d_Floor_lay_38 (by decide) ?_
  refine gx_istore_n C (lv' := [(2, .int 0), (0, .ref (gx_ad E 15)), (1, .ref (gx_ad E 22))]) d_Floor_lay_39 rfl (by decide) rfl ?_
  refine gx_lv (lv' := [(0, .ref (gx_ad E 15)), (1, .ref (gx_ad E 22)), (2, .int 0)]) [1, 2, 0] rfl ?_
  obtain ⟨e9, he9, hf⟩ := gx_bl_some hf
  refine (gx_loop (P := pp_Floor_lay_2_40 K E ) (Q := pq_Floor_lay_2_40 K E ) (fun a9 o9 h1 h2 => sc_Floor_lay_2_40 C hR hr hlk  a9 o9 h1 h2) gx_fuel (0, e6.2.2) e9 he9 ?_ : pp_Floor_lay_2_40 K E  (0, e6.2.2))
  unfold pq_Floor_lay_2_40
  cases hf
  exact gx_vret C hr hlk hk d_Floor_lay_63

def s_Floor_isSeen_2_45 (v2 : Int32) (v3 : Int32) (v4 : Int32) (v5 : Int32) (v6 : Int32) (v7 : Int32) (a : Int32 × gx_S) : Option ((Int32 × gx_S) ⊕ (Nat × Int32 × gx_S)) :=
  if (if v3 < v5 then v5 else v3) < a.1 then (some (.inr (1, a.1, a.2))) else (gx_bd (f_Floor_hides a.1 v7 v2 a.2) (fun r5 x5 => if r5 = 0 then (some (.inl (a.1 + 1, x5))) else (gx_bd (f_Floor_isCrossed (a.1 - v3) (v7 - v4) (v5 - v3) (v6 - v4) x5) (fun r7 x7 => if r7 = 0 then (some (.inl (a.1 + 1, x7))) else (some (.inr (0, a.1, x7)))))))
def s_Floor_isSeen_2_25 (v2 : Int32) (v3 : Int32) (v4 : Int32) (v5 : Int32) (v6 : Int32) (a : Int32 × gx_S) : Option ((Int32 × gx_S) ⊕ (Nat × Int32 × gx_S)) :=
  if (if v4 < v6 then v6 else v4) < a.1 then (some (.inr (1, a.1, a.2))) else (gx_bl (gx_it (s_Floor_isSeen_2_45 v2 v3 v4 v5 v6 a.1) gx_fuel (if v5 < v3 then v5 else v3, a.2)) (fun e9 => if e9.1 = 0 then (some (.inr (0, a.1, e9.2.2))) else (some (.inl (a.1 + 1, e9.2.2)))))
def f_Floor_isSeen_2 (a2 : Int32) (a3 : Int32) (a4 : Int32) (x : gx_S) : Option (Int32 × gx_S) :=
  gx_ck a2 7 (gx_ck a2 7 (gx_bl (gx_it (s_Floor_isSeen_2_25 a2 a3 a4 (gx_gA x 16 (a2 : Int32).toNatClampNeg) (gx_gA x 17 (a2 : Int32).toNatClampNeg)) gx_fuel (if (gx_gA x 17 (a2 : Int32).toNatClampNeg) < a4 then (gx_gA x 17 (a2 : Int32).toNatClampNeg) else a4, x)) (fun e11 => if e11.1 = 0 then (some (0, e11.2.2)) else (some (1, e11.2.2)))))
abbrev rm_Floor_isSeen_2 : Room := { frames := 2, cells := 0, slots := 0, locals := 46 }
def pp_Floor_isSeen_2_45 (K : gx_K) (E : gx_E) (v2 : Int32) (v3 : Int32) (v4 : Int32) (v5 : Int32) (v6 : Int32) (v7 : Int32) (a : Int32 × gx_S) : Prop := gx_G K E (gx_AB false E K.s.heap.size) 0 0 (a.2) 45 [(0, .ref (gx_ad E 15)), (2, .int v2), (3, .int v3), (4, .int v4), (5, .int v5), (6, .int v6), (7, .int v7), (8, .int a.1)] []
def pq_Floor_isSeen_2_45 (K : gx_K) (E : gx_E) (v2 : Int32) (v3 : Int32) (v4 : Int32) (v5 : Int32) (v6 : Int32) (v7 : Int32) (b : Nat × Int32 × gx_S) : Prop := if b.1 = 0 then gx_G K E (gx_AB false E K.s.heap.size) 0 0 (b.2.2) 92 [(2, .int v2), (3, .int v3), (4, .int v4), (5, .int v5), (6, .int v6), (7, .int v7)] [] else (gx_G K E (gx_AB false E K.s.heap.size) 0 0 (b.2.2) 100 [(0, .ref (gx_ad E 15)), (2, .int v2), (3, .int v3), (4, .int v4), (5, .int v5), (6, .int v6), (7, .int v7)] [])
def pp_Floor_isSeen_2_25 (K : gx_K) (E : gx_E) (v2 : Int32) (v3 : Int32) (v4 : Int32) (v5 : Int32) (v6 : Int32) (a : Int32 × gx_S) : Prop := gx_G K E (gx_AB false E K.s.heap.size) 0 0 (a.2) 25 [(0, .ref (gx_ad E 15)), (2, .int v2), (3, .int v3), (4, .int v4), (5, .int v5), (6, .int v6), (7, .int a.1)] []
def pq_Floor_isSeen_2_25 (K : gx_K) (E : gx_E) (v2 : Int32) (v3 : Int32) (v4 : Int32) (v5 : Int32) (v6 : Int32) (b : Nat × Int32 × gx_S) : Prop := if b.1 = 0 then gx_G K E (gx_AB false E K.s.heap.size) 0 0 (b.2.2) 92 [] [] else (gx_G K E (gx_AB false E K.s.heap.size) 0 0 (b.2.2) 106 [] [])
set_option maxHeartbeats 4000000 in
set_option maxRecDepth 100000 in
theorem sc_Floor_isSeen_2_45 {K : gx_K} {E : gx_E} (C : gx_C K E "CaseLayout$Floor" prog_3_method_4_code 9) (hR : K.R = rm_Floor_isSeen_2) (hr : K.meth.sig.returnType = (some .boolean)) (hlk : K.meth.locks = false) (v2 : Int32) (v3 : Int32) (v4 : Int32) (v5 : Int32) (v6 : Int32) (v7 : Int32) (a : Int32 × gx_S) (o : (Int32 × gx_S) ⊕ (Nat × Int32 × gx_S)) (hf : s_Floor_isSeen_2_45 v2 v3 v4 v5 v6 v7 a = some o) (hk : gx_or (pp_Floor_isSeen_2_45 K E v2 v3 v4 v5 v6 v7) (pq_Floor_isSeen_2_45 K E v2 v3 v4 v5 v6 v7) o) : pp_Floor_isSeen_2_45 K E v2 v3 v4 v5 v6 v7 a := by
  unfold s_Floor_isSeen_2_45 at hf
  unfold pp_Floor_isSeen_2_45
  refine gx_iload C 7 d_Floor_isSeen_45 rfl ?_
  refine gx_iload_n C 2 d_Floor_isSeen_47 rfl rfl ?_
  refine gx_iload C 4 d_Floor_isSeen_48 rfl ?_
  refine gx_mmax C gw_564 gw_36 gw_3 gw_37 (by rw [hR]; decide) (by rw [hR]; exact Nat.le_of_ble_eq_true rfl) (by rw [hR]; decide) (by rw [hR]; decide) d_Floor_isSeen_50 ?_
  refine gx_icmp_gt (tgt := 100) C d_Floor_isSeen_53 (by decide) (fun h4 => ?_) (fun h4 => ?_)
  · have hf := (if_pos h4).symm.trans hf
    cases hf
    have hk : pq_Floor_isSeen_2_45 K E v2 v3 v4 v5 v6 v7 _ := hk
    unfold pq_Floor_isSeen_2_45 at hk
    have hk := gx_ifn (by decide : ¬ ((1 : Nat) = 0)) hk
    refine gx_lv (lv' := [(0, .ref (gx_ad E 15)), (2, .int v2), (3, .int v3), (4, .int v4), (5, .int v5), (6, .int v6), (7, .int v7)]) [0, 1, 2, 3, 4, 5, 6] rfl ?_
    exact hk
  · have hf := (if_neg h4).symm.trans hf
    refine gx_aload_n C 0 d_Floor_isSeen_56 rfl rfl ?_
    refine gx_iload C 7 d_Floor_isSeen_57 rfl ?_
    refine gx_iload C 6 d_Floor_isSeen_59 rfl ?_
    refine gx_iload_n C 1 d_Floor_isSeen_61 rfl rfl ?_
    obtain ⟨r5, x5, hc5, hf⟩ := gx_bd_some hf
    refine gx_cVi (n2 := 0) (k2 := 0) C (As := [.int a.1, .int v7, .int v2]) (rest := []) 15 3 (c_Floor_hides K.l a.1 v7 v2 a.2 _ hc5) (Or.inr rfl) rfl (gx_goodV gw_565 gw_567 gs_9 gw_7 gw_568) (by decide +kernel) (gx_w15 E _) rfl (by rw [hR]; decide) rfl rfl (Nat.le_of_ble_eq_true rfl) d_Floor_isSeen_62 (by rw [hR]; decide) rfl rfl ?_
    refine gx_if_eq (tgt := 94) C d_Floor_isSeen_65 (by decide) (fun h6 => ?_) (fun h6 => ?_)
    · have hf := (if_pos h6).symm.trans hf
      refine gx_iinc C (v := a.1 + 1) (lv' := [(8, .int (a.1 + 1)), (0, .ref (gx_ad E 15)), (2, .int v2), (3, .int v3), (4, .int v4), (5, .int v5), (6, .int v6), (7, .int v7)]) 7 d_Floor_isSeen_94 rfl rfl (by decide) rfl ?_
      refine gx_goto (tgt := 45) C d_Floor_isSeen_97 (by decide) ?_
      cases hf
      refine gx_lv (lv' := [(0, .ref (gx_ad E 15)), (2, .int v2), (3, .int v3), (4, .int v4), (5, .int v5), (6, .int v6), (7, .int v7), (8, .int (a.1 + 1))]) [1, 2, 3, 4, 5, 6, 7, 0] rfl ?_
      exact hk
    · have hf := (if_neg h6).symm.trans hf
      refine gx_iload C 7 d_Floor_isSeen_68 rfl ?_
      refine gx_iload_n C 2 d_Floor_isSeen_70 rfl rfl ?_
      refine gx_isub C d_Floor_isSeen_71 ?_
      refine gx_iload C 6 d_Floor_isSeen_72 rfl ?_
      refine gx_iload C 3 d_Floor_isSeen_74 rfl ?_
      refine gx_isub C d_Floor_isSeen_76 ?_
      refine gx_iload C 4 d_Floor_isSeen_77 rfl ?_
      refine gx_iload_n C 2 d_Floor_isSeen_79 rfl rfl ?_
      refine gx_isub C d_Floor_isSeen_80 ?_
      refine gx_iload C 5 d_Floor_isSeen_81 rfl ?_
      refine gx_iload C 3 d_Floor_isSeen_83 rfl ?_
      refine gx_isub C d_Floor_isSeen_85 ?_
      obtain ⟨r7, x7, hc7, hf⟩ := gx_bd_some hf
      refine gx_cSi (n2 := 0) (k2 := 0) C (As := [.int (a.1 - v3), .int (v7 - v4), .int (v5 - v3), .int (v6 - v4)]) (rest := []) 4 (c_Floor_isCrossed K.l (a.1 - v3) (v7 - v4) (v5 - v3) (v6 - v4) x5 _ hc7) (Or.inr rfl) rfl (gx_goodS gw_569 gw_570 gw_7 gw_571) (by decide +kernel) (by rw [hR]; decide) rfl rfl (Nat.le_of_ble_eq_true rfl) d_Floor_isSeen_86 (by rw [hR]; decide) rfl rfl ?_
      refine gx_if_eq (tgt := 94) C d_Floor_isSeen_89 (by decide) (fun h8 => ?_) (fun h8 => ?_)
      · have hf := (if_pos h8).symm.trans hf
        refine gx_iinc C (v := a.1 + 1) (lv' := [(8, .int (a.1 + 1)), (0, .ref (gx_ad E 15)), (2, .int v2), (3, .int v3), (4, .int v4), (5, .int v5), (6, .int v6), (7, .int v7)]) 7 d_Floor_isSeen_94 rfl rfl (by decide) rfl ?_
        refine gx_goto (tgt := 45) C d_Floor_isSeen_97 (by decide) ?_
        cases hf
        refine gx_lv (lv' := [(0, .ref (gx_ad E 15)), (2, .int v2), (3, .int v3), (4, .int v4), (5, .int v5), (6, .int v6), (7, .int v7), (8, .int (a.1 + 1))]) [1, 2, 3, 4, 5, 6, 7, 0] rfl ?_
        exact hk
      · have hf := (if_neg h8).symm.trans hf
        cases hf
        have hk : pq_Floor_isSeen_2_45 K E v2 v3 v4 v5 v6 v7 _ := hk
        unfold pq_Floor_isSeen_2_45 at hk
        have hk := gx_ifp (rfl : (0 : Nat) = 0) hk
        refine gx_lv (lv' := [(2, .int v2), (3, .int v3), (4, .int v4), (5, .int v5), (6, .int v6), (7, .int v7)]) [1, 2, 3, 4, 5, 6] rfl ?_
        exact hk
set_option maxHeartbeats 4000000 in
set_option maxRecDepth 100000 in
theorem sc_Floor_isSeen_2_25 {K : gx_K} {E : gx_E} (C : gx_C K E "CaseLayout$Floor" prog_3_method_4_code 9) (hR : K.R = rm_Floor_isSeen_2) (hr : K.meth.sig.returnType = (some .boolean)) (hlk : K.meth.locks = false) (v2 : Int32) (v3 : Int32) (v4 : Int32) (v5 : Int32) (v6 : Int32) (a : Int32 × gx_S) (o : (Int32 × gx_S) ⊕ (Nat × Int32 × gx_S)) (hf : s_Floor_isSeen_2_25 v2 v3 v4 v5 v6 a = some o) (hk : gx_or (pp_Floor_isSeen_2_25 K E v2 v3 v4 v5 v6) (pq_Floor_isSeen_2_25 K E v2 v3 v4 v5 v6) o) : pp_Floor_isSeen_2_25 K E v2 v3 v4 v5 v6 a := by
  unfold s_Floor_isSeen_2_25 at hf
  unfold pp_Floor_isSeen_2_25
  refine gx_iload C 6 d_Floor_isSeen_25 rfl ?_
  refine gx_iload C 3 d_Floor_isSeen_27 rfl ?_
  refine gx_iload C 5 d_Floor_isSeen_29 rfl ?_
  refine gx_mmax C gw_564 gw_36 gw_3 gw_37 (by rw [hR]; decide) (by rw [hR]; exact Nat.le_of_ble_eq_true rfl) (by rw [hR]; decide) (by rw [hR]; decide) d_Floor_isSeen_31 ?_
  refine gx_icmp_gt (tgt := 106) C d_Floor_isSeen_34 (by decide) (fun h3 => ?_) (fun h3 => ?_)
  · have hf := (if_pos h3).symm.trans hf
    cases hf
    have hk : pq_Floor_isSeen_2_25 K E v2 v3 v4 v5 v6 _ := hk
    unfold pq_Floor_isSeen_2_25 at hk
    have hk := gx_ifn (by decide : ¬ ((1 : Nat) = 0)) hk
    refine gx_lv (lv' := []) [] rfl ?_
    exact hk
  · have hf := (if_neg h3).symm.trans hf
    refine gx_iload_n C 2 d_Floor_isSeen_37 rfl rfl ?_
    refine gx_iload C 4 d_Floor_isSeen_38 rfl ?_
    refine gx_mmin C gw_563 gw_33 gw_3 gw_34 (by rw [hR]; decide) (by rw [hR]; exact Nat.le_of_ble_eq_true rfl) (by rw [hR]; decide) (by rw [hR]; decide) d_Floor_isSeen_40 ?_
    refine gx_istore C (lv' := [(8, .int (if v5 < v3 then v5 else v3)), (0, .ref (gx_ad E 15)), (2, .int v2), (3, .int v3), (4, .int v4), (5, .int v5), (6, .int v6), (7, .int a.1)]) d_Floor_isSeen_43 (by decide) rfl ?_
    refine gx_lv (lv' := [(0, .ref (gx_ad E 15)), (2, .int v2), (3, .int v3), (4, .int v4), (5, .int v5), (6, .int v6), (7, .int a.1), (8, .int (if v5 < v3 then v5 else v3))]) [1, 2, 3, 4, 5, 6, 7, 0] rfl ?_
    obtain ⟨e9, he9, hf⟩ := gx_bl_some hf
    refine (gx_loop (P := pp_Floor_isSeen_2_45 K E v2 v3 v4 v5 v6 a.1) (Q := pq_Floor_isSeen_2_45 K E v2 v3 v4 v5 v6 a.1) (fun a9 o9 h1 h2 => sc_Floor_isSeen_2_45 C hR hr hlk v2 v3 v4 v5 v6 a.1 a9 o9 h1 h2) gx_fuel (if v5 < v3 then v5 else v3, a.2) e9 he9 ?_ : pp_Floor_isSeen_2_45 K E v2 v3 v4 v5 v6 a.1 (if v5 < v3 then v5 else v3, a.2))
    unfold pq_Floor_isSeen_2_45
    by_cases ht10 : e9.1 = 0
    · rw [if_pos ht10]
      have hf := (if_pos ht10).symm.trans hf
      cases hf
      have hk : pq_Floor_isSeen_2_25 K E v2 v3 v4 v5 v6 _ := hk
      unfold pq_Floor_isSeen_2_25 at hk
      have hk := gx_ifp (rfl : (0 : Nat) = 0) hk
      refine gx_lv (lv' := []) [] rfl ?_
      exact hk
    · rw [if_neg ht10]
      have hf := (if_neg ht10).symm.trans hf
      refine gx_iinc C (v := a.1 + 1) (lv' := [(7, .int (a.1 + 1)), (0, .ref (gx_ad E 15)), (2, .int v2), (3, .int v3), (4, .int v4), (5, .int v5), (6, .int v6)]) 6 d_Floor_isSeen_100 rfl rfl (by decide) rfl ?_
      refine gx_goto (tgt := 25) C d_Floor_isSeen_103 (by decide) ?_
      cases hf
      refine gx_lv (lv' := [(0, .ref (gx_ad E 15)), (2, .int v2), (3, .int v3), (4, .int v4), (5, .int v5), (6, .int v6), (7, .int (a.1 + 1))]) [1, 2, 3, 4, 5, 6, 0] rfl ?_
      exact hk
set_option maxHeartbeats 4000000 in
set_option maxRecDepth 100000 in
theorem c_Floor_isSeen_2 (l : Launch) (a2 : Int32) (a3 : Int32) (a4 : Int32) (x : gx_S) (o : Int32 × gx_S) (hf : f_Floor_isSeen_2 a2 a3 a4 x = some o) : gx_Mi false l y_Floor_isSeen prog_3_method_4_code 9 (some .boolean) rm_Floor_isSeen_2 (fun E => [.ref (gx_ad E 15), .ref (gx_ad E 22), .int a2, .int a3, .int a4]) x o.1 o.2 := by
  refine gx_meti (own := "CaseLayout$Floor") (by decide) rfl (fun E => Nat.le_of_ble_eq_true rfl) (fun K E hl0 hR hr hlk hk C => ?_)
  subst hl0
  unfold f_Floor_isSeen_2 at hf
  show gx_G K E _ 0 0 x 0 [(0, .ref (gx_ad E 15)), (1, .ref (gx_ad E 22)), (2, .int a2), (3, .int a3), (4, .int a4)] []
  refine gx_aload_n C 1 d_Floor_isSeen_0 rfl rfl ?_
  refine gx_getN C iw_Layout 22 (gx_w22 E _) rfl 1 (by decide) gn_192 rfl rfl d_Floor_isSeen_1 ?_
  refine gx_iload_n C 2 d_Floor_isSeen_4 rfl rfl ?_
  obtain ⟨hi1, hf⟩ := gx_ck_some hf
  refine gx_iald C 23 0 (gx_w23 E _) rfl hi1 d_Floor_isSeen_5 ?_
  refine gx_istore C (lv' := [(5, .int (gx_gA x 16 (a2 : Int32).toNatClampNeg)), (0, .ref (gx_ad E 15)), (1, .ref (gx_ad E 22)), (2, .int a2), (3, .int a3), (4, .int a4)]) d_Floor_isSeen_6 (by decide) rfl ?_
  refine gx_aload_n C 2 d_Floor_isSeen_8 rfl rfl ?_
  refine gx_getN C iw_Layout 22 (gx_w22 E _) rfl 2 (by decide) gn_196 rfl rfl d_Floor_isSeen_9 ?_
  refine gx_iload_n C 3 d_Floor_isSeen_12 rfl rfl ?_
  obtain ⟨hi2, hf⟩ := gx_ck_some hf
  refine gx_iald C 24 0 (gx_w24 E _) rfl hi2 d_Floor_isSeen_13 ?_
  refine gx_istore C (lv' := [(6, .int (gx_gA x 17 (a2 : Int32).toNatClampNeg)), (5, .int (gx_gA x 16 (a2 : Int32).toNatClampNeg)), (0, .ref (gx_ad E 15)), (1, .ref (gx_ad E 22)), (2, .int a2), (3, .int a3), (4, .int a4)]) d_Floor_isSeen_14 (by decide) rfl ?_
  refine gx_iload C 6 d_Floor_isSeen_16 rfl ?_
  refine gx_iload C 0 d_Floor_isSeen_18 rfl ?_
  refine gx_mmin C gw_563 gw_33 gw_3 gw_34 (by rw [hR]; decide) (by rw [hR]; exact Nat.le_of_ble_eq_true rfl) (by rw [hR]; decide) (by rw [hR]; decide) d_Floor_isSeen_20 ?_
  refine gx_istore C (lv' := [(7, .int (if (gx_gA x 17 (a2 : Int32).toNatClampNeg) < a4 then (gx_gA x 17 (a2 : Int32).toNatClampNeg) else a4)), (6, .int (gx_gA x 17 (a2 : Int32).toNatClampNeg)), (5, .int (gx_gA x 16 (a2 : Int32).toNatClampNeg)), (0, .ref (gx_ad E 15)), (1, .ref (gx_ad E 22)), (2, .int a2), (3, .int a3), (4, .int a4)]) d_Floor_isSeen_23 (by decide) rfl ?_
  refine gx_lv (lv' := [(0, .ref (gx_ad E 15)), (2, .int a2), (3, .int a3), (4, .int a4), (5, .int (gx_gA x 16 (a2 : Int32).toNatClampNeg)), (6, .int (gx_gA x 17 (a2 : Int32).toNatClampNeg)), (7, .int (if (gx_gA x 17 (a2 : Int32).toNatClampNeg) < a4 then (gx_gA x 17 (a2 : Int32).toNatClampNeg) else a4))]) [3, 5, 6, 7, 2, 1, 0] rfl ?_
  obtain ⟨e11, he11, hf⟩ := gx_bl_some hf
  refine (gx_loop (P := pp_Floor_isSeen_2_25 K E a2 a3 a4 (gx_gA x 16 (a2 : Int32).toNatClampNeg) (gx_gA x 17 (a2 : Int32).toNatClampNeg)) (Q := pq_Floor_isSeen_2_25 K E a2 a3 a4 (gx_gA x 16 (a2 : Int32).toNatClampNeg) (gx_gA x 17 (a2 : Int32).toNatClampNeg)) (fun a9 o9 h1 h2 => sc_Floor_isSeen_2_25 C hR hr hlk a2 a3 a4 (gx_gA x 16 (a2 : Int32).toNatClampNeg) (gx_gA x 17 (a2 : Int32).toNatClampNeg) a9 o9 h1 h2) gx_fuel (if (gx_gA x 17 (a2 : Int32).toNatClampNeg) < a4 then (gx_gA x 17 (a2 : Int32).toNatClampNeg) else a4, x) e11 he11 ?_ : pp_Floor_isSeen_2_25 K E a2 a3 a4 (gx_gA x 16 (a2 : Int32).toNatClampNeg) (gx_gA x 17 (a2 : Int32).toNatClampNeg) (if (gx_gA x 17 (a2 : Int32).toNatClampNeg) < a4 then (gx_gA x 17 (a2 : Int32).toNatClampNeg) else a4, x))
  unfold pq_Floor_isSeen_2_25
  by_cases ht12 : e11.1 = 0
  · rw [if_pos ht12]
    have hf := (if_pos ht12).symm.trans hf
    refine gx_iconst C (v := 0) d_Floor_isSeen_92 (by decide) ?_
    cases hf
    exact gx_zret C hr hlk hk (by decide) d_Floor_isSeen_93
  · rw [if_neg ht12]
    have hf := (if_neg ht12).symm.trans hf
    refine gx_iconst C (v := 1) d_Floor_isSeen_106 (by decide) ?_
    cases hf
    exact gx_zret C hr hlk hk (by decide) d_Floor_isSeen_107

def f_CaseLayout_sight (a1 : Int32) (a2 : Int32) (x : gx_S) : Option (Nat × Int32 × gx_S) :=
  gx_bx (f_CaseLayout_needPlace a1 x) (fun r1 x1 => gx_bx (f_CaseLayout_needThing a2 x1) (fun r2 x2 => gx_bx (f_CaseLayout_needFound  x2) (fun r3 x3 => gx_bd (f_Floor_lay_2  x3) (fun r4 x4 => gx_ck a1 8 (gx_ck a1 8 (gx_bd (f_Floor_isSeen_2 a2 (gx_gA x4 7 (a1 : Int32).toNatClampNeg) (gx_gA x4 8 (a1 : Int32).toNatClampNeg) x4) (fun r7 x7 => gx_nb r7 (some (0, r7, x7)))))))))
abbrev rm_CaseLayout_sight : Room := { frames := 7, cells := 3, slots := 18, locals := 103 }
set_option maxHeartbeats 4000000 in
set_option maxRecDepth 100000 in
theorem c_CaseLayout_sight (l : Launch) (hlt : l.stackTraces = false) (a1 : Int32) (a2 : Int32) (x : gx_S) (o : Nat × Int32 × gx_S) (hf : f_CaseLayout_sight a1 a2 x = some o) : gx_MX true l y_CaseLayout_sight prog_1_method_15_code 3 (some .boolean) rm_CaseLayout_sight (fun E => [.ref (gx_ad E 28), .int a1, .int a2]) x (some (.int o.2.1)) o.1 o.2.2 := by
  refine gx_metX (own := "CaseLayout") (by decide) rfl (fun E => Nat.le_of_ble_eq_true rfl) (fun K E hl0 hR hr hlk hnh hLT hk C => ?_)
  subst hl0
  unfold f_CaseLayout_sight at hf
  show gx_G K E (gx_AB false E K.s.heap.size) 0 0 x 0 [(0, .ref (gx_ad E 28)), (1, .int a1), (2, .int a2)] []
  refine gx_aload_n C 0 d_CaseLayout_sight_0 rfl rfl ?_
  refine gx_iload_n C 1 d_CaseLayout_sight_1 rfl rfl ?_
  obtain ⟨j1, r1, x1, hc1, ⟨hq1, hf⟩ | ⟨hq1, hf⟩⟩ := gx_bx_some hf
  rotate_left
  · subst hf
    refine gx_cVx (n2 := 1) (k2 := 6) C hq1 (As := [.int a1]) (rest := []) 28 1 (c_CaseLayout_needPlace K.l hlt a1 x _ hc1) (Or.inr rfl) rfl (gx_goodV gw_485 gw_487 gs_4 gw_1 gw_488) (by decide +kernel) (gx_w28 E _) rfl (by rw [hR]; decide) rfl rfl (Nat.le_of_ble_eq_true rfl) d_CaseLayout_sight_2 (by rw [hR]; decide) rfl rfl ?_
    refine gx_H.widen (n' := 3) (k' := 18) (by decide) (by decide) ?_
    refine gx_H.toF ?_
    exact gx_outX hq1 hnh hlk hk
  subst hq1
  refine gx_cVv (n2 := 1) (k2 := 6) C (As := [.int a1]) (rest := []) 28 1 (c_CaseLayout_needPlace K.l hlt a1 x _ hc1).toV (Or.inr rfl) rfl (gx_goodV gw_485 gw_487 gs_4 gw_1 gw_488) (by decide +kernel) (gx_w28 E _) rfl (by rw [hR]; decide) rfl rfl (Nat.le_of_ble_eq_true rfl) d_CaseLayout_sight_2 (by rw [hR]; decide) rfl rfl ?_
  refine gx_aload_n C 0 d_CaseLayout_sight_5 rfl rfl ?_
  refine gx_iload_n C 2 d_CaseLayout_sight_6 rfl rfl ?_
  obtain ⟨j2, r2, x2, hc2, ⟨hq2, hf⟩ | ⟨hq2, hf⟩⟩ := gx_bx_some hf
  rotate_left
  · subst hf
    refine gx_cVx (n2 := 2) (k2 := 12) C hq2 (As := [.int a2]) (rest := []) 28 1 (c_CaseLayout_needThing K.l hlt a2 x1 _ hc2) (Or.inr rfl) rfl (gx_goodV gw_446 gw_448 gs_3 gw_1 gw_449) (by decide +kernel) (gx_w28 E _) rfl (by rw [hR]; decide) rfl rfl (Nat.le_of_ble_eq_true rfl) d_CaseLayout_sight_7 (by rw [hR]; decide) rfl rfl ?_
    refine gx_H.widen (n' := 3) (k' := 18) (by decide) (by decide) ?_
    refine gx_H.toF ?_
    exact gx_outX hq2 hnh hlk hk
  subst hq2
  refine gx_cVv (n2 := 2) (k2 := 12) C (As := [.int a2]) (rest := []) 28 1 (c_CaseLayout_needThing K.l hlt a2 x1 _ hc2).toV (Or.inr rfl) rfl (gx_goodV gw_446 gw_448 gs_3 gw_1 gw_449) (by decide +kernel) (gx_w28 E _) rfl (by rw [hR]; decide) rfl rfl (Nat.le_of_ble_eq_true rfl) d_CaseLayout_sight_7 (by rw [hR]; decide) rfl rfl ?_
  refine gx_aload_n C 0 d_CaseLayout_sight_10 rfl rfl ?_
  obtain ⟨j3, r3, x3, hc3, ⟨hq3, hf⟩ | ⟨hq3, hf⟩⟩ := gx_bx_some hf
  rotate_left
  · subst hf
    refine gx_cVx (n2 := 3) (k2 := 18) C hq3 (As := []) (rest := []) 28 0 (c_CaseLayout_needFound K.l hlt  x2 _ hc3) (Or.inr rfl) rfl (gx_goodV gw_635 gw_637 gs_15 gw_1 gw_638) (by decide +kernel) (gx_w28 E _) rfl (by rw [hR]; decide) rfl rfl (Nat.le_of_ble_eq_true rfl) d_CaseLayout_sight_11 (by rw [hR]; decide) rfl rfl ?_
    refine gx_H.toF ?_
    exact gx_outX hq3 hnh hlk hk
  subst hq3
  refine gx_cVv (n2 := 3) (k2 := 18) C (As := []) (rest := []) 28 0 (c_CaseLayout_needFound K.l hlt  x2 _ hc3).toV (Or.inr rfl) rfl (gx_goodV gw_635 gw_637 gs_15 gw_1 gw_638) (by decide +kernel) (gx_w28 E _) rfl (by rw [hR]; decide) rfl rfl (Nat.le_of_ble_eq_true rfl) d_CaseLayout_sight_11 (by rw [hR]; decide) rfl rfl ?_
  refine gx_aload_n C 0 d_CaseLayout_sight_14 rfl rfl ?_
  refine gx_get C iw_CaseLayout 28 (gx_w28 E _) rfl 4 (by decide) gw_250 rfl rfl d_CaseLayout_sight_15 ?_
  refine gx_aload_n C 0 d_CaseLayout_sight_18 rfl rfl ?_
  refine gx_get C iw_CaseLayout 28 (gx_w28 E _) rfl 5 (by decide) gw_251 rfl rfl d_CaseLayout_sight_19 ?_
  refine gx_getN C iw_Search 25 (gx_w25 E _) rfl 6 (by decide) gn_213 rfl rfl d_CaseLayout_sight_22 ?_
  refine gx_toF ?_
  obtain ⟨r4, x4, hc4, hf⟩ := gx_bd_some hf
  refine gx_cVv (n2 := 3) (k2 := 18) C (As := [.ref (gx_ad E 22)]) (rest := []) 15 1 (c_Floor_lay_2 K.l  x3 _ hc4) (Or.inl rfl) rfl (gx_goodV gw_647 gw_545 gw_546 gw_7 gw_547) (by decide +kernel) (gx_w15 E _) rfl (by rw [hR]; decide) rfl rfl (Nat.le_of_ble_eq_true rfl) d_CaseLayout_sight_25 (by rw [hR]; decide) rfl rfl ?_
  refine gx_aload_n C 0 d_CaseLayout_sight_28 rfl rfl ?_
  refine gx_get C iw_CaseLayout 28 (gx_w28 E _) rfl 4 (by decide) gw_250 rfl rfl d_CaseLayout_sight_29 ?_
  refine gx_aload_n C 0 d_CaseLayout_sight_32 rfl rfl ?_
  refine gx_get C iw_CaseLayout 28 (gx_w28 E _) rfl 5 (by decide) gw_251 rfl rfl d_CaseLayout_sight_33 ?_
  refine gx_getN C iw_Search 25 (gx_w25 E _) rfl 6 (by decide) gn_213 rfl rfl d_CaseLayout_sight_36 ?_
  refine gx_iload_n C 2 d_CaseLayout_sight_39 rfl rfl ?_
  refine gx_aload_n C 0 d_CaseLayout_sight_40 rfl rfl ?_
  refine gx_get C iw_CaseLayout 28 (gx_w28 E _) rfl 2 (by decide) gw_248 rfl rfl d_CaseLayout_sight_41 ?_
  refine gx_getN C iw_Places 9 (gx_w9 E _) rfl 0 (by decide) gn_113 rfl rfl d_CaseLayout_sight_44 ?_
  refine gx_iload_n C 1 d_CaseLayout_sight_47 rfl rfl ?_
  obtain ⟨hi5, hf⟩ := gx_ck_some hf
  refine gx_iald C 10 0 (gx_w10 E _) rfl hi5 d_CaseLayout_sight_48 ?_
  refine gx_aload_n C 0 d_CaseLayout_sight_49 rfl rfl ?_
  refine gx_get C iw_CaseLayout 28 (gx_w28 E _) rfl 2 (by decide) gw_248 rfl rfl d_CaseLayout_sight_50 ?_
  refine gx_getN C iw_Places 9 (gx_w9 E _) rfl 1 (by decide) gn_116 rfl rfl d_CaseLayout_sight_53 ?_
  refine gx_iload_n C 1 d_CaseLayout_sight_56 rfl rfl ?_
  obtain ⟨hi6, hf⟩ := gx_ck_some hf
  refine gx_iald C 11 0 (gx_w11 E _) rfl hi6 d_CaseLayout_sight_57 ?_
  obtain ⟨r7, x7, hc7, hf⟩ := gx_bd_some hf
  refine gx_cVi (n2 := 3) (k2 := 18) C (As := [.ref (gx_ad E 22), .int a2, .int (gx_gA x4 7 (a1 : Int32).toNatClampNeg), .int (gx_gA x4 8 (a1 : Int32).toNatClampNeg)]) (rest := []) 15 4 (c_Floor_isSeen_2 K.l a2 (gx_gA x4 7 (a1 : Int32).toNatClampNeg) (gx_gA x4 8 (a1 : Int32).toNatClampNeg) x4 _ hc7) (Or.inl rfl) rfl (gx_goodV gw_648 gw_560 gw_561 gw_7 gw_562) (by decide +kernel) (gx_w15 E _) rfl (by rw [hR]; decide) rfl rfl (Nat.le_of_ble_eq_true rfl) d_CaseLayout_sight_58 (by rw [hR]; decide) rfl rfl ?_
  obtain ⟨hn8, hf⟩ := gx_nb_some hf
  cases hf
  exact gx_zretX C hr hlk hk hn8 d_CaseLayout_sight_61

def f_CaseLayout_escape (a1 : Int32) (a2 : Int32) (x : gx_S) : Option (Nat × Int32 × gx_S) :=
  gx_bx (f_CaseLayout_needCell a1 a2 x) (fun r1 x1 => gx_bx (f_CaseLayout_needFound  x1) (fun r2 x2 => gx_bd (f_Floor_lay_2  x2) (fun r3 x3 => gx_bd (f_Floor_measure  x3) (fun r4 x4 => gx_bd (f_CaseLayout_cellOf a1 a2 x4) (fun r5 x5 => gx_ck r5 81 (some (0, gx_gA x5 12 (r5 : Int32).toNatClampNeg, x5)))))))
abbrev rm_CaseLayout_escape : Room := { frames := 7, cells := 2, slots := 12, locals := 104 }
set_option maxHeartbeats 4000000 in
set_option maxRecDepth 100000 in
theorem c_CaseLayout_escape (l : Launch) (hlt : l.stackTraces = false) (a1 : Int32) (a2 : Int32) (x : gx_S) (o : Nat × Int32 × gx_S) (hf : f_CaseLayout_escape a1 a2 x = some o) : gx_MX true l y_CaseLayout_escape prog_1_method_16_code 3 (some .int) rm_CaseLayout_escape (fun E => [.ref (gx_ad E 28), .int a1, .int a2]) x (some (.int o.2.1)) o.1 o.2.2 := by
  refine gx_metX (own := "CaseLayout") (by decide) rfl (fun E => Nat.le_of_ble_eq_true rfl) (fun K E hl0 hR hr hlk hnh hLT hk C => ?_)
  subst hl0
  unfold f_CaseLayout_escape at hf
  show gx_G K E (gx_AB false E K.s.heap.size) 0 0 x 0 [(0, .ref (gx_ad E 28)), (1, .int a1), (2, .int a2)] []
  refine gx_aload_n C 0 d_CaseLayout_escape_0 rfl rfl ?_
  refine gx_iload_n C 1 d_CaseLayout_escape_1 rfl rfl ?_
  refine gx_iload_n C 2 d_CaseLayout_escape_2 rfl rfl ?_
  obtain ⟨j1, r1, x1, hc1, ⟨hq1, hf⟩ | ⟨hq1, hf⟩⟩ := gx_bx_some hf
  rotate_left
  · subst hf
    refine gx_cVx (n2 := 1) (k2 := 6) C hq1 (As := [.int a1, .int a2]) (rest := []) 28 2 (c_CaseLayout_needCell K.l hlt a1 a2 x _ hc1) (Or.inr rfl) rfl (gx_goodV gw_284 gw_286 gs_0 gw_1 gw_287) (by decide +kernel) (gx_w28 E _) rfl (by rw [hR]; decide) rfl rfl (Nat.le_of_ble_eq_true rfl) d_CaseLayout_escape_3 (by rw [hR]; decide) rfl rfl ?_
    refine gx_H.widen (n' := 2) (k' := 12) (by decide) (by decide) ?_
    refine gx_H.toF ?_
    exact gx_outX hq1 hnh hlk hk
  subst hq1
  refine gx_cVv (n2 := 1) (k2 := 6) C (As := [.int a1, .int a2]) (rest := []) 28 2 (c_CaseLayout_needCell K.l hlt a1 a2 x _ hc1).toV (Or.inr rfl) rfl (gx_goodV gw_284 gw_286 gs_0 gw_1 gw_287) (by decide +kernel) (gx_w28 E _) rfl (by rw [hR]; decide) rfl rfl (Nat.le_of_ble_eq_true rfl) d_CaseLayout_escape_3 (by rw [hR]; decide) rfl rfl ?_
  refine gx_aload_n C 0 d_CaseLayout_escape_6 rfl rfl ?_
  obtain ⟨j2, r2, x2, hc2, ⟨hq2, hf⟩ | ⟨hq2, hf⟩⟩ := gx_bx_some hf
  rotate_left
  · subst hf
    refine gx_cVx (n2 := 2) (k2 := 12) C hq2 (As := []) (rest := []) 28 0 (c_CaseLayout_needFound K.l hlt  x1 _ hc2) (Or.inr rfl) rfl (gx_goodV gw_635 gw_637 gs_15 gw_1 gw_638) (by decide +kernel) (gx_w28 E _) rfl (by rw [hR]; decide) rfl rfl (Nat.le_of_ble_eq_true rfl) d_CaseLayout_escape_7 (by rw [hR]; decide) rfl rfl ?_
    refine gx_H.toF ?_
    exact gx_outX hq2 hnh hlk hk
  subst hq2
  refine gx_cVv (n2 := 2) (k2 := 12) C (As := []) (rest := []) 28 0 (c_CaseLayout_needFound K.l hlt  x1 _ hc2).toV (Or.inr rfl) rfl (gx_goodV gw_635 gw_637 gs_15 gw_1 gw_638) (by decide +kernel) (gx_w28 E _) rfl (by rw [hR]; decide) rfl rfl (Nat.le_of_ble_eq_true rfl) d_CaseLayout_escape_7 (by rw [hR]; decide) rfl rfl ?_
  refine gx_aload_n C 0 d_CaseLayout_escape_10 rfl rfl ?_
  refine gx_get C iw_CaseLayout 28 (gx_w28 E _) rfl 4 (by decide) gw_250 rfl rfl d_CaseLayout_escape_11 ?_
  refine gx_aload_n C 0 d_CaseLayout_escape_14 rfl rfl ?_
  refine gx_get C iw_CaseLayout 28 (gx_w28 E _) rfl 5 (by decide) gw_251 rfl rfl d_CaseLayout_escape_15 ?_
  refine gx_getN C iw_Search 25 (gx_w25 E _) rfl 6 (by decide) gn_213 rfl rfl d_CaseLayout_escape_18 ?_
  refine gx_toF ?_
  obtain ⟨r3, x3, hc3, hf⟩ := gx_bd_some hf
  refine gx_cVv (n2 := 2) (k2 := 12) C (As := [.ref (gx_ad E 22)]) (rest := []) 15 1 (c_Floor_lay_2 K.l  x2 _ hc3) (Or.inl rfl) rfl (gx_goodV gw_647 gw_545 gw_546 gw_7 gw_547) (by decide +kernel) (gx_w15 E _) rfl (by rw [hR]; decide) rfl rfl (Nat.le_of_ble_eq_true rfl) d_CaseLayout_escape_21 (by rw [hR]; decide) rfl rfl ?_
  refine gx_aload_n C 0 d_CaseLayout_escape_24 rfl rfl ?_
  refine gx_get C iw_CaseLayout 28 (gx_w28 E _) rfl 4 (by decide) gw_250 rfl rfl d_CaseLayout_escape_25 ?_
  refine gx_aload_n C 0 d_CaseLayout_escape_28 rfl rfl ?_
  refine gx_get C iw_CaseLayout 28 (gx_w28 E _) rfl 3 (by decide) gw_249 rfl rfl d_CaseLayout_escape_29 ?_
  obtain ⟨r4, x4, hc4, hf⟩ := gx_bd_some hf
  refine gx_cVv (n2 := 2) (k2 := 12) C (As := [.ref (gx_ad E 13)]) (rest := []) 15 1 (c_Floor_measure K.l  x3 _ hc4) (Or.inl rfl) rfl (gx_goodV gw_656 gw_580 gw_581 gw_7 gw_582) (by decide +kernel) (gx_w15 E _) rfl (by rw [hR]; decide) rfl rfl (Nat.le_of_ble_eq_true rfl) d_CaseLayout_escape_32 (by rw [hR]; decide) rfl rfl ?_
  refine gx_aload_n C 0 d_CaseLayout_escape_35 rfl rfl ?_
  refine gx_get C iw_CaseLayout 28 (gx_w28 E _) rfl 4 (by decide) gw_250 rfl rfl d_CaseLayout_escape_36 ?_
  refine gx_getN C iw_Floor 15 (gx_w15 E _) rfl 2 (by decide) gn_163 rfl rfl d_CaseLayout_escape_39 ?_
  refine gx_iload_n C 1 d_CaseLayout_escape_42 rfl rfl ?_
  refine gx_iload_n C 2 d_CaseLayout_escape_43 rfl rfl ?_
  obtain ⟨r5, x5, hc5, hf⟩ := gx_bd_some hf
  refine gx_cSi (n2 := 2) (k2 := 12) C (As := [.int a1, .int a2]) (rest := [.ref (gx_ad E 17)]) 2 (c_CaseLayout_cellOf K.l a1 a2 x4 _ hc5) (Or.inl rfl) rfl (gx_goodS gw_360 gw_361 gw_1 gw_362) (by decide +kernel) (by rw [hR]; decide) rfl rfl (Nat.le_of_ble_eq_true rfl) d_CaseLayout_escape_44 (by rw [hR]; decide) rfl rfl ?_
  obtain ⟨hi6, hf⟩ := gx_ck_some hf
  refine gx_iald C 17 0 (gx_w17 E _) rfl hi6 d_CaseLayout_escape_47 ?_
  cases hf
  exact gx_iretX C hr hlk hk d_CaseLayout_escape_48

def f_CaseLayout_count (a1 : Int32) (x : gx_S) : Option (Nat × Int32 × gx_S) :=
  if a1 < 0 then (some (1, 0, x)) else if 3 < a1 then (some (1, 0, x)) else if a1 = 0 then (some (0, gx_gI x 3, x)) else (if a1 = 1 then (some (0, gx_gI x 4, x)) else (if a1 = 2 then (some (0, gx_gI x 5, x)) else (some (0, gx_gI x 2, x))))
abbrev rm_CaseLayout_count : Room := { frames := 6, cells := 1, slots := 6, locals := 82 }
set_option maxHeartbeats 4000000 in
set_option maxRecDepth 100000 in
theorem c_CaseLayout_count (l : Launch) (hlt : l.stackTraces = false) (a1 : Int32) (x : gx_S) (o : Nat × Int32 × gx_S) (hf : f_CaseLayout_count a1 x = some o) : gx_MX false l y_CaseLayout_count prog_1_method_17_code 2 (some .int) rm_CaseLayout_count (fun E => [.ref (gx_ad E 28), .int a1]) x (some (.int o.2.1)) o.1 o.2.2 := by
  refine gx_metX (own := "CaseLayout") (by decide) rfl (fun E => Nat.le_of_ble_eq_true rfl) (fun K E hl0 hR hr hlk hnh hLT hk C => ?_)
  subst hl0
  unfold f_CaseLayout_count at hf
  show gx_G K E (gx_AB false E K.s.heap.size) 0 0 x 0 [(0, .ref (gx_ad E 28)), (1, .int a1)] []
  refine gx_iload_n C 1 d_CaseLayout_count_0 rfl rfl ?_
  by_cases h1 : a1 < 0
  · have hf := (if_pos h1).symm.trans hf
    refine gx_tabOut (tgt := 64) C d_CaseLayout_count_1 (Or.inl (gx_tlt h1)) (by decide) ?_
    cases hf
    exact gx_throw (w := false) (j := 1) (tx := "nothing of this kind is counted") (names := ["java/lang/RuntimeException", "java/lang/Exception"]) C (by decide) hLT hlt hnh hlk gw_292 gw_293 gw_14 (by decide +kernel) (ga_CaseLayout_171 C) (by decide +kernel) (by decide +kernel) d_CaseLayout_count_64 d_CaseLayout_count_67 d_CaseLayout_count_68 d_CaseLayout_count_70 d_CaseLayout_count_73 (by rw [hR]; decide) (by rw [hR]; exact Nat.le_of_ble_eq_true rfl) (by rw [hR]; decide) (by rw [hR]; decide) hk
  · have hf := (if_neg h1).symm.trans hf
    by_cases h2 : 3 < a1
    · have hf := (if_pos h2).symm.trans hf
      refine gx_tabOut (tgt := 64) C d_CaseLayout_count_1 (Or.inr (gx_tgt (a := 3) (by decide) h2)) (by decide) ?_
      cases hf
      exact gx_throw (w := false) (j := 1) (tx := "nothing of this kind is counted") (names := ["java/lang/RuntimeException", "java/lang/Exception"]) C (by decide) hLT hlt hnh hlk gw_292 gw_293 gw_14 (by decide +kernel) (ga_CaseLayout_171 C) (by decide +kernel) (by decide +kernel) d_CaseLayout_count_64 d_CaseLayout_count_67 d_CaseLayout_count_68 d_CaseLayout_count_70 d_CaseLayout_count_73 (by rw [hR]; decide) (by rw [hR]; exact Nat.le_of_ble_eq_true rfl) (by rw [hR]; decide) (by rw [hR]; decide) hk
    · have hf := (if_neg h2).symm.trans hf
      by_cases h3 : a1 = 0
      · have hf := (if_pos h3).symm.trans hf
        refine gx_tabIn (tgt := 32) (off := 31) C d_CaseLayout_count_1 (gx_tnl h1) (gx_tng (a := 3) (by decide) h2) (by rw [h3]; rfl) (by decide) ?_
        refine gx_aload_n C 0 d_CaseLayout_count_32 rfl rfl ?_
        refine gx_get C iw_CaseLayout 28 (gx_w28 E _) rfl 1 (by decide) gw_247 rfl rfl d_CaseLayout_count_33 ?_
        refine gx_getN C iw_Things 3 (gx_w3 E _) rfl 5 (by decide) gn_90 rfl rfl d_CaseLayout_count_36 ?_
        cases hf
        refine gx_widen (n' := 1) (k' := 6) (by decide) (by decide) ?_
        exact gx_iretX C hr hlk hk d_CaseLayout_count_39
      · have hf := (if_neg h3).symm.trans hf
        by_cases h4 : a1 = 1
        · have hf := (if_pos h4).symm.trans hf
          refine gx_tabIn (tgt := 40) (off := 39) C d_CaseLayout_count_1 (gx_tnl h1) (gx_tng (a := 3) (by decide) h2) (by rw [h4]; rfl) (by decide) ?_
          refine gx_aload_n C 0 d_CaseLayout_count_40 rfl rfl ?_
          refine gx_get C iw_CaseLayout 28 (gx_w28 E _) rfl 2 (by decide) gw_248 rfl rfl d_CaseLayout_count_41 ?_
          refine gx_getN C iw_Places 9 (gx_w9 E _) rfl 3 (by decide) gn_121 rfl rfl d_CaseLayout_count_44 ?_
          cases hf
          refine gx_widen (n' := 1) (k' := 6) (by decide) (by decide) ?_
          exact gx_iretX C hr hlk hk d_CaseLayout_count_47
        · have hf := (if_neg h4).symm.trans hf
          by_cases h5 : a1 = 2
          · have hf := (if_pos h5).symm.trans hf
            refine gx_tabIn (tgt := 48) (off := 47) C d_CaseLayout_count_1 (gx_tnl h1) (gx_tng (a := 3) (by decide) h2) (by rw [h5]; rfl) (by decide) ?_
            refine gx_aload_n C 0 d_CaseLayout_count_48 rfl rfl ?_
            refine gx_get C iw_CaseLayout 28 (gx_w28 E _) rfl 3 (by decide) gw_249 rfl rfl d_CaseLayout_count_49 ?_
            refine gx_getN C iw_Exits 13 (gx_w13 E _) rfl 1 (by decide) gn_142 rfl rfl d_CaseLayout_count_52 ?_
            cases hf
            refine gx_widen (n' := 1) (k' := 6) (by decide) (by decide) ?_
            exact gx_iretX C hr hlk hk d_CaseLayout_count_55
          · have hf := (if_neg h5).symm.trans hf
            have h6 : a1 = 3 := gx_tlast3 h1 h2 h3 h4 h5
            refine gx_tabIn (tgt := 56) (off := 55) C d_CaseLayout_count_1 (gx_tnl h1) (gx_tng (a := 3) (by decide) h2) (by rw [h6]; rfl) (by decide) ?_
            refine gx_aload_n C 0 d_CaseLayout_count_56 rfl rfl ?_
            refine gx_get C iw_CaseLayout 28 (gx_w28 E _) rfl 0 (by decide) gw_246 rfl rfl d_CaseLayout_count_57 ?_
            refine gx_getN C iw_Grid 0 (gx_w0 E _) rfl 4 (by decide) gn_52 rfl rfl d_CaseLayout_count_60 ?_
            cases hf
            refine gx_widen (n' := 1) (k' := 6) (by decide) (by decide) ?_
            exact gx_iretX C hr hlk hk d_CaseLayout_count_63
