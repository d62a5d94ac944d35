def s_Arrays_fill_5 (v1 : Int32) (v3 : Int32) (a : Int32 × gx_S) : Option ((Int32 × gx_S) ⊕ (Nat × Int32 × gx_S)) :=
  if v3 ≤ a.1 then (some (.inr (0, a.1, a.2))) else (gx_ck a.1 81 (some (.inl (a.1 + 1, gx_sA a.2 12 (a.1 : Int32).toNatClampNeg v1))))
def f_Arrays_fill (a1 : Int32) (x : gx_S) : Option (Int32 × gx_S) :=
  gx_bl (gx_it (s_Arrays_fill_5 a1 81) gx_fuel (0, x)) (fun e3 => some (0, e3.2.2))
abbrev rm_Arrays_fill : Room := { frames := 0, cells := 0, slots := 0, locals := 0 }
def pp_Arrays_fill_5 (K : gx_K) (E : gx_E) (v1 : Int32) (v3 : Int32) (a : Int32 × gx_S) : Prop := gx_G K E (gx_AB true E K.s.heap.size) 0 0 (a.2) 5 [(0, .ref (gx_ad E 17)), (1, .int v1), (2, .int a.1), (3, .int v3)] []
def pq_Arrays_fill_5 (K : gx_K) (E : gx_E) (v1 : Int32) (v3 : Int32) (b : Nat × Int32 × gx_S) : Prop := gx_G K E (gx_AB true E K.s.heap.size) 0 0 (b.2.2) 20 [] []
set_option maxHeartbeats 4000000 in
set_option maxRecDepth 100000 in
theorem sc_Arrays_fill_5 {K : gx_K} {E : gx_E} (C : gx_C K E "java/util/Arrays" prog_20_method_103_code 4) (hR : K.R = rm_Arrays_fill) (hr : K.meth.sig.returnType = none) (hlk : K.meth.locks = false) (v1 : Int32) (v3 : Int32) (a : Int32 × gx_S) (o : (Int32 × gx_S) ⊕ (Nat × Int32 × gx_S)) (hf : s_Arrays_fill_5 v1 v3 a = some o) (hk : gx_or (pp_Arrays_fill_5 K E v1 v3) (pq_Arrays_fill_5 K E v1 v3) o) : pp_Arrays_fill_5 K E v1 v3 a := by
  unfold s_Arrays_fill_5 at hf
  unfold pp_Arrays_fill_5
  refine gx_iload_n C 2 d_Arrays_fill_5 rfl rfl ?_
  refine gx_iload_n C 3 d_Arrays_fill_6 rfl rfl ?_
  refine gx_icmp_ge (tgt := 20) C d_Arrays_fill_7 (by decide) (fun h1 => ?_) (fun h1 => ?_)
  · have hf := (if_pos h1).symm.trans hf
    cases hf
    have hk : pq_Arrays_fill_5 K E v1 v3 _ := hk
    unfold pq_Arrays_fill_5 at hk
    refine gx_lv (lv' := []) [] rfl ?_
    exact hk
  · have hf := (if_neg h1).symm.trans hf
    refine gx_aload_n C 0 d_Arrays_fill_10 rfl rfl ?_
    refine gx_iload_n C 2 d_Arrays_fill_11 rfl rfl ?_
    refine gx_iload_n C 1 d_Arrays_fill_12 rfl rfl ?_
    obtain ⟨hi2, hf⟩ := gx_ck_some hf
    refine gx_iast C (x' := gx_sA a.2 12 (a.1 : Int32).toNatClampNeg v1) 17 0 (gx_w17 E _) rfl hi2 (gx_q17 E _ _ _) d_Arrays_fill_13 ?_
    refine gx_iinc C (v := a.1 + 1) (lv' := [(2, .int (a.1 + 1)), (0, .ref (gx_ad E 17)), (1, .int v1), (3, .int v3)]) 2 d_Arrays_fill_14 rfl rfl (by decide) rfl ?_
    refine gx_goto (tgt := 5) C d_Arrays_fill_17 (by decide) ?_
    cases hf
    refine gx_lv (lv' := [(0, .ref (gx_ad E 17)), (1, .int v1), (2, .int (a.1 + 1)), (3, .int v3)]) [1, 2, 0, 3] rfl ?_
    exact hk
set_option maxHeartbeats 4000000 in
set_option maxRecDepth 100000 in
theorem c_Arrays_fill (l : Launch) (a1 : Int32) (x : gx_S) (o : Int32 × gx_S) (hf : f_Arrays_fill a1 x = some o) : gx_Mv true l y_Arrays_fill prog_20_method_103_code 4 rm_Arrays_fill (fun E => [.ref (gx_ad E 17), .int a1]) x o.2 := by
  refine gx_metv (own := "java/util/Arrays") (by decide) rfl (fun E => Nat.le_of_ble_eq_true rfl) (fun K E hl0 hR hr hlk hk C => ?_)
  subst hl0
  unfold f_Arrays_fill at hf
  show gx_G K E _ 0 0 x 0 [(0, .ref (gx_ad E 17)), (1, .int a1)] []
  refine gx_iconst C (v := 0) d_Arrays_fill_0 (by decide) ?_
  refine gx_istore_n C (lv' := [(2, .int 0), (0, .ref (gx_ad E 17)), (1, .int a1)]) d_Arrays_fill_1 rfl (by decide) rfl ?_
  refine gx_aload_n C 1 d_Arrays_fill_2 rfl rfl ?_
  refine gx_alen C (v := 81) 17 0 (gx_w17 E _) rfl rfl d_Arrays_fill_3 ?_
  refine gx_istore_n C (lv' := [(3, .int 81), (2, .int 0), (0, .ref (gx_ad E 17)), (1, .int a1)]) d_Arrays_fill_4 rfl (by decide) rfl ?_
  refine gx_lv (lv' := [(0, .ref (gx_ad E 17)), (1, .int a1), (2, .int 0), (3, .int 81)]) [2, 3, 1, 0] rfl ?_
  obtain ⟨e3, he3, hf⟩ := gx_bl_some hf
  refine (gx_loop (P := pp_Arrays_fill_5 K E a1 81) (Q := pq_Arrays_fill_5 K E a1 81) (fun a9 o9 h1 h2 => sc_Arrays_fill_5 C hR hr hlk a1 81 a9 o9 h1 h2) gx_fuel (0, x) e3 he3 ?_ : pp_Arrays_fill_5 K E a1 81 (0, x))
  unfold pq_Arrays_fill_5
  cases hf
  exact gx_vret C hr hlk hk d_Arrays_fill_20

def f_Floor_reach (a1 : Int32) (a2 : Int32) (a3 : Int32) (x : gx_S) : Option (Int32 × gx_S) :=
  gx_bd (f_Grid_holds a1 a2 x) (fun r1 x1 => if r1 = 0 then (some (0, x1)) else (gx_bd (f_CaseLayout_cellOf a1 a2 x1) (fun r3 x3 => gx_ck r3 81 (if (gx_gA x3 11 (r3 : Int32).toNatClampNeg) = (-1) then (gx_ck r3 81 (if (gx_gA x3 12 (r3 : Int32).toNatClampNeg) = (-1) then (if (gx_gI x3 7) < 81 then (gx_ck r3 81 (gx_ck (gx_gI (gx_sA x3 12 (r3 : Int32).toNatClampNeg a3) 7) 81 (some (0, gx_sI (gx_sA (gx_sA x3 12 (r3 : Int32).toNatClampNeg a3) 13 (gx_gI (gx_sA x3 12 (r3 : Int32).toNatClampNeg a3) 7 : Int32).toNatClampNeg r3) 7 ((gx_gI (gx_sA (gx_sA x3 12 (r3 : Int32).toNatClampNeg a3) 13 (gx_gI (gx_sA x3 12 (r3 : Int32).toNatClampNeg a3) 7 : Int32).toNatClampNeg r3) 7) + 1))))) else (some (0, x3))) else (some (0, x3)))) else (some (0, x3))))))
abbrev rm_Floor_reach : Room := { frames := 1, cells := 0, slots := 0, locals := 22 }
set_option maxHeartbeats 4000000 in
set_option maxRecDepth 100000 in
theorem c_Floor_reach (l : Launch) (a1 : Int32) (a2 : Int32) (a3 : Int32) (x : gx_S) (o : Int32 × gx_S) (hf : f_Floor_reach a1 a2 a3 x = some o) : gx_Mv true l y_Floor_reach prog_3_method_8_code 5 rm_Floor_reach (fun E => [.ref (gx_ad E 15), .int a1, .int a2, .int a3]) x o.2 := by
  refine gx_metv (own := "CaseLayout$Floor") (by decide) rfl (fun E => Nat.le_of_ble_eq_true rfl) (fun K E hl0 hR hr hlk hk C => ?_)
  subst hl0
  unfold f_Floor_reach at hf
  show gx_G K E _ 0 0 x 0 [(0, .ref (gx_ad E 15)), (1, .int a1), (2, .int a2), (3, .int a3)] []
  refine gx_aload_n C 0 d_Floor_reach_0 rfl rfl ?_
  refine gx_get C iw_Floor 15 (gx_w15 E _) rfl 0 (by decide) gw_160 rfl rfl d_Floor_reach_1 ?_
  refine gx_iload_n C 1 d_Floor_reach_4 rfl rfl ?_
  refine gx_iload_n C 2 d_Floor_reach_5 rfl rfl ?_
  obtain ⟨r1, x1, hc1, hf⟩ := gx_bd_some hf
  refine gx_cVi (n2 := 0) (k2 := 0) C (As := [.int a1, .int a2]) (rest := []) 0 2 (c_Grid_holds K.l a1 a2 x _ hc1) (Or.inl rfl) rfl (gx_goodV gw_552 gw_289 gw_290 gw_2 gw_291) (by decide +kernel) (gx_w0 E _) rfl (by rw [hR]; decide) rfl rfl (Nat.le_of_ble_eq_true rfl) d_Floor_reach_6 (by rw [hR]; decide) rfl rfl ?_
  refine gx_if_ne (tgt := 13) C d_Floor_reach_9 (by decide) (fun h2 => ?_) (fun h2 => ?_)
  · have hf := (if_neg h2).symm.trans hf
    refine gx_iload_n C 1 d_Floor_reach_13 rfl rfl ?_
    refine gx_iload_n C 2 d_Floor_reach_14 rfl rfl ?_
    obtain ⟨r3, x3, hc3, hf⟩ := gx_bd_some hf
    refine gx_cSNi (n2 := 0) (k2 := 0) C (As := [.int a1, .int a2]) (rest := []) 2 (c_CaseLayout_cellOf K.l a1 a2 x1 _ hc3) (Or.inl rfl) rfl gw_362 gn_553 gw_1 gw_361 (by decide +kernel) (by rw [hR]; decide) rfl rfl (Nat.le_of_ble_eq_true rfl) d_Floor_reach_15 (by rw [hR]; decide) rfl rfl ?_
    refine gx_istore C (lv' := [(4, .int r3), (0, .ref (gx_ad E 15)), (1, .int a1), (2, .int a2), (3, .int a3)]) d_Floor_reach_18 (by decide) rfl ?_
    refine gx_aload_n C 1 d_Floor_reach_20 rfl rfl ?_
    refine gx_get C iw_Floor 15 (gx_w15 E _) rfl 1 (by decide) gw_161 rfl rfl d_Floor_reach_21 ?_
    refine gx_iload C 0 d_Floor_reach_24 rfl ?_
    obtain ⟨hi4, hf⟩ := gx_ck_some hf
    refine gx_iald C 16 0 (gx_w16 E _) rfl hi4 d_Floor_reach_26 ?_
    refine gx_iconst C (v := (-1)) d_Floor_reach_27 (by decide) ?_
    refine gx_icmp_ne (tgt := 51) C d_Floor_reach_28 (by decide) (fun h5 => ?_) (fun h5 => ?_)
    · have hf := (if_neg h5).symm.trans hf
      cases hf
      exact gx_vret C hr hlk hk d_Floor_reach_51
    · have hf := (if_pos h5).symm.trans hf
      refine gx_aload_n C 1 d_Floor_reach_31 rfl rfl ?_
      refine gx_get C iw_Floor 15 (gx_w15 E _) rfl 2 (by decide) gw_162 rfl rfl d_Floor_reach_32 ?_
      refine gx_iload C 0 d_Floor_reach_35 rfl ?_
      obtain ⟨hi6, hf⟩ := gx_ck_some hf
      refine gx_iald C 17 0 (gx_w17 E _) rfl hi6 d_Floor_reach_37 ?_
      refine gx_iconst C (v := (-1)) d_Floor_reach_38 (by decide) ?_
      refine gx_icmp_ne (tgt := 51) C d_Floor_reach_39 (by decide) (fun h7 => ?_) (fun h7 => ?_)
      · have hf := (if_neg h7).symm.trans hf
        cases hf
        exact gx_vret C hr hlk hk d_Floor_reach_51
      · have hf := (if_pos h7).symm.trans hf
        refine gx_aload_n C 1 d_Floor_reach_42 rfl rfl ?_
        refine gx_get C iw_Floor 15 (gx_w15 E _) rfl 4 (by decide) gw_165 rfl rfl d_Floor_reach_43 ?_
        refine gx_bipush C (v := 81) d_Floor_reach_46 (by decide) ?_
        refine gx_icmp_lt (tgt := 52) C d_Floor_reach_48 (by decide) (fun h8 => ?_) (fun h8 => ?_)
        · have hf := (if_pos h8).symm.trans hf
          refine gx_aload_n C 1 d_Floor_reach_52 rfl rfl ?_
          refine gx_get C iw_Floor 15 (gx_w15 E _) rfl 2 (by decide) gw_162 rfl rfl d_Floor_reach_53 ?_
          refine gx_iload C 0 d_Floor_reach_56 rfl ?_
          refine gx_iload_n C 4 d_Floor_reach_58 rfl rfl ?_
          obtain ⟨hi9, hf⟩ := gx_ck_some hf
          refine gx_iast C (x' := gx_sA x3 12 (r3 : Int32).toNatClampNeg a3) 17 0 (gx_w17 E _) rfl hi9 (gx_q17 E _ _ _) d_Floor_reach_59 ?_
          refine gx_aload_n C 1 d_Floor_reach_60 rfl rfl ?_
          refine gx_get C iw_Floor 15 (gx_w15 E _) rfl 3 (by decide) gw_164 rfl rfl d_Floor_reach_61 ?_
          refine gx_aload_n C 1 d_Floor_reach_64 rfl rfl ?_
          refine gx_get C iw_Floor 15 (gx_w15 E _) rfl 4 (by decide) gw_165 rfl rfl d_Floor_reach_65 ?_
          refine gx_iload C 0 d_Floor_reach_68 rfl ?_
          obtain ⟨hi10, hf⟩ := gx_ck_some hf
          refine gx_iast C (x' := gx_sA (gx_sA x3 12 (r3 : Int32).toNatClampNeg a3) 13 (gx_gI (gx_sA x3 12 (r3 : Int32).toNatClampNeg a3) 7 : Int32).toNatClampNeg r3) 18 0 (gx_w18 E _) rfl hi10 (gx_q18 E _ _ _) d_Floor_reach_70 ?_
          refine gx_aload_n C 1 d_Floor_reach_71 rfl rfl ?_
          refine gx_dup C d_Floor_reach_72 rfl ?_
          refine gx_get C iw_Floor 15 (gx_w15 E _) rfl 4 (by decide) gw_165 rfl rfl d_Floor_reach_73 ?_
          refine gx_iconst C (v := 1) d_Floor_reach_76 (by decide) ?_
          refine gx_iadd C d_Floor_reach_77 ?_
          refine gx_put C (ty := .int) (x' := gx_sI (gx_sA (gx_sA x3 12 (r3 : Int32).toNatClampNeg a3) 13 (gx_gI (gx_sA x3 12 (r3 : Int32).toNatClampNeg a3) 7 : Int32).toNatClampNeg r3) 7 ((gx_gI (gx_sA (gx_sA x3 12 (r3 : Int32).toNatClampNeg a3) 13 (gx_gI (gx_sA x3 12 (r3 : Int32).toNatClampNeg a3) 7 : Int32).toNatClampNeg r3) 7) + 1)) iw_Floor ty_Floor tk_Floor tn_Floor 15 (gx_w15 E _) rfl 4 (by decide) gw_165 rfl rfl (by decide +kernel) rfl rfl (Nat.le_of_ble_eq_true rfl) (gx_p15_4 E _ _) d_Floor_reach_78 ?_
          cases hf
          exact gx_vret C hr hlk hk d_Floor_reach_81
        · have hf := (if_neg h8).symm.trans hf
          cases hf
          exact gx_vret C hr hlk hk d_Floor_reach_51
  · have hf := (if_pos h2).symm.trans hf
    cases hf
    exact gx_vret C hr hlk hk d_Floor_reach_12

def s_Floor_measure_15  (a : Int32 × gx_S) : Option ((Int32 × gx_S) ⊕ (Nat × Int32 × gx_S)) :=
  if (gx_gI a.2 5) ≤ a.1 then (some (.inr (0, a.1, a.2))) else (gx_ck a.1 6 (gx_bd (f_Floor_reach ((gx_gA a.2 10 (a.1 : Int32).toNatClampNeg) - (gx_gA a.2 10 (a.1 : Int32).toNatClampNeg) / 9 * 9) ((gx_gA a.2 10 (a.1 : Int32).toNatClampNeg) / 9) 0 a.2) (fun r4 x4 => some (.inl (a.1 + 1, x4)))))
def s_Floor_measure_51  (a : Int32 × gx_S) : Option ((Int32 × gx_S) ⊕ (Nat × Int32 × gx_S)) :=
  if (gx_gI a.2 7) ≤ a.1 then (some (.inr (0, a.1, a.2))) else (if 81 ≤ a.1 then (some (.inr (0, a.1, a.2))) else (gx_ck a.1 81 (gx_ck a.1 81 (gx_ck a.1 81 (gx_ck (gx_gA a.2 13 (a.1 : Int32).toNatClampNeg) 81 (gx_bd (f_Floor_reach (((gx_gA a.2 13 (a.1 : Int32).toNatClampNeg) - (gx_gA a.2 13 (a.1 : Int32).toNatClampNeg) / 9 * 9) - 1) ((gx_gA a.2 13 (a.1 : Int32).toNatClampNeg) / 9) ((gx_gA a.2 12 (gx_gA a.2 13 (a.1 : Int32).toNatClampNeg : Int32).toNatClampNeg) + 1) a.2) (fun r12 x12 => gx_bd (f_Floor_reach (((gx_gA a.2 13 (a.1 : Int32).toNatClampNeg) - (gx_gA a.2 13 (a.1 : Int32).toNatClampNeg) / 9 * 9) + 1) ((gx_gA a.2 13 (a.1 : Int32).toNatClampNeg) / 9) ((gx_gA a.2 12 (gx_gA a.2 13 (a.1 : Int32).toNatClampNeg : Int32).toNatClampNeg) + 1) x12) (fun r13 x13 => gx_bd (f_Floor_reach ((gx_gA a.2 13 (a.1 : Int32).toNatClampNeg) - (gx_gA a.2 13 (a.1 : Int32).toNatClampNeg) / 9 * 9) (((gx_gA a.2 13 (a.1 : Int32).toNatClampNeg) / 9) - 1) ((gx_gA a.2 12 (gx_gA a.2 13 (a.1 : Int32).toNatClampNeg : Int32).toNatClampNeg) + 1) x13) (fun r14 x14 => gx_bd (f_Floor_reach ((gx_gA a.2 13 (a.1 : Int32).toNatClampNeg) - (gx_gA a.2 13 (a.1 : Int32).toNatClampNeg) / 9 * 9) (((gx_gA a.2 13 (a.1 : Int32).toNatClampNeg) / 9) + 1) ((gx_gA a.2 12 (gx_gA a.2 13 (a.1 : Int32).toNatClampNeg : Int32).toNatClampNeg) + 1) x14) (fun r15 x15 => some (.inl (a.1 + 1, x15))))))))))))
def f_Floor_measure  (x : gx_S) : Option (Int32 × gx_S) :=
  gx_bd (f_Arrays_fill (-1) x) (fun r1 x1 => gx_bl (gx_it (s_Floor_measure_15 ) gx_fuel (0, gx_sI x1 7 0)) (fun e5 => gx_bl (gx_it (s_Floor_measure_51 ) gx_fuel (0, e5.2.2)) (fun e16 => some (0, e16.2.2))))
abbrev rm_Floor_measure : Room := { frames := 2, cells := 0, slots := 0, locals := 46 }
def pp_Floor_measure_15 (K : gx_K) (E : gx_E)  (a : Int32 × gx_S) : Prop := gx_G K E (gx_AB true E K.s.heap.size) 0 0 (a.2) 15 [(0, .ref (gx_ad E 15)), (1, .ref (gx_ad E 13)), (2, .int a.1)] []
def pq_Floor_measure_15 (K : gx_K) (E : gx_E)  (b : Nat × Int32 × gx_S) : Prop := gx_G K E (gx_AB true E K.s.heap.size) 0 0 (b.2.2) 49 [(0, .ref (gx_ad E 15))] []
def pp_Floor_measure_51 (K : gx_K) (E : gx_E)  (a : Int32 × gx_S) : Prop := gx_G K E (gx_AB true E K.s.heap.size) 0 0 (a.2) 51 [(0, .ref (gx_ad E 15)), (2, .int a.1)] []
def pq_Floor_measure_51 (K : gx_K) (E : gx_E)  (b : Nat × Int32 × gx_S) : Prop := gx_G K E (gx_AB true E K.s.heap.size) 0 0 (b.2.2) 151 [] []
set_option maxHeartbeats 4000000 in
set_option maxRecDepth 100000 in
theorem sc_Floor_measure_15 {K : gx_K} {E : gx_E} (C : gx_C K E "CaseLayout$Floor" prog_3_method_7_code 6) (hR : K.R = rm_Floor_measure) (hr : K.meth.sig.returnType = none) (hlk : K.meth.locks = false)  (a : Int32 × gx_S) (o : (Int32 × gx_S) ⊕ (Nat × Int32 × gx_S)) (hf : s_Floor_measure_15  a = some o) (hk : gx_or (pp_Floor_measure_15 K E ) (pq_Floor_measure_15 K E ) o) : pp_Floor_measure_15 K E  a := by
  unfold s_Floor_measure_15 at hf
  unfold pp_Floor_measure_15
  refine gx_iload_n C 2 d_Floor_measure_15 rfl rfl ?_
  refine gx_aload_n C 1 d_Floor_measure_16 rfl rfl ?_
  refine gx_getN C iw_Exits 13 (gx_w13 E _) rfl 1 (by decide) gn_141 rfl rfl d_Floor_measure_17 ?_
  refine gx_icmp_ge (tgt := 49) C d_Floor_measure_20 (by decide) (fun h2 => ?_) (fun h2 => ?_)
  · have hf := (if_pos h2).symm.trans hf
    cases hf
    have hk : pq_Floor_measure_15 K E  _ := hk
    unfold pq_Floor_measure_15 at hk
    refine gx_lv (lv' := [(0, .ref (gx_ad E 15))]) [0] rfl ?_
    exact hk
  · have hf := (if_neg h2).symm.trans hf
    refine gx_aload_n C 1 d_Floor_measure_23 rfl rfl ?_
    refine gx_getN C iw_Exits 13 (gx_w13 E _) rfl 0 (by decide) gn_139 rfl rfl d_Floor_measure_24 ?_
    refine gx_iload_n C 2 d_Floor_measure_27 rfl rfl ?_
    obtain ⟨hi3, hf⟩ := gx_ck_some hf
    refine gx_iald C 14 0 (gx_w14 E _) rfl hi3 d_Floor_measure_28 ?_
    refine gx_istore_n C (lv' := [(3, .int (gx_gA a.2 10 (a.1 : Int32).toNatClampNeg)), (0, .ref (gx_ad E 15)), (1, .ref (gx_ad E 13)), (2, .int a.1)]) d_Floor_measure_29 rfl (by decide) rfl ?_
    refine gx_aload_n C 1 d_Floor_measure_30 rfl rfl ?_
    refine gx_iload_n C 0 d_Floor_measure_31 rfl rfl ?_
    refine gx_bipush C (v := 9) d_Floor_measure_32 (by decide) ?_
    refine gx_irem C d_Floor_measure_34 (by decide) ?_
    refine gx_iload_n C 0 d_Floor_measure_35 rfl rfl ?_
    refine gx_bipush C (v := 9) d_Floor_measure_36 (by decide) ?_
    refine gx_idiv C d_Floor_measure_38 (by decide) ?_
    refine gx_iconst C (v := 0) d_Floor_measure_39 (by decide) ?_
    obtain ⟨r4, x4, hc4, hf⟩ := gx_bd_some hf
    refine gx_cVv (n2 := 0) (k2 := 0) C (As := [.int ((gx_gA a.2 10 (a.1 : Int32).toNatClampNeg) - (gx_gA a.2 10 (a.1 : Int32).toNatClampNeg) / 9 * 9), .int ((gx_gA a.2 10 (a.1 : Int32).toNatClampNeg) / 9), .int 0]) (rest := []) 15 3 (c_Floor_reach K.l ((gx_gA a.2 10 (a.1 : Int32).toNatClampNeg) - (gx_gA a.2 10 (a.1 : Int32).toNatClampNeg) / 9 * 9) ((gx_gA a.2 10 (a.1 : Int32).toNatClampNeg) / 9) 0 a.2 _ hc4) (Or.inl rfl) rfl (gx_goodV gw_586 gw_588 gs_11 gw_7 gw_589) (by decide +kernel) (gx_w15 E _) rfl (by rw [hR]; decide) rfl rfl (Nat.le_of_ble_eq_true rfl) d_Floor_measure_40 (by rw [hR]; decide) rfl rfl ?_
    refine gx_iinc C (v := a.1 + 1) (lv' := [(2, .int (a.1 + 1)), (3, .int (gx_gA a.2 10 (a.1 : Int32).toNatClampNeg)), (0, .ref (gx_ad E 15)), (1, .ref (gx_ad E 13))]) 3 d_Floor_measure_43 rfl rfl (by decide) rfl ?_
    refine gx_goto (tgt := 15) C d_Floor_measure_46 (by decide) ?_
    cases hf
    refine gx_lv (lv' := [(0, .ref (gx_ad E 15)), (1, .ref (gx_ad E 13)), (2, .int (a.1 + 1))]) [2, 3, 0] rfl ?_
    exact hk
set_option maxHeartbeats 4000000 in
set_option maxRecDepth 100000 in
theorem sc_Floor_measure_51 {K : gx_K} {E : gx_E} (C : gx_C K E "CaseLayout$Floor" prog_3_method_7_code 6) (hR : K.R = rm_Floor_measure) (hr : K.meth.sig.returnType = none) (hlk : K.meth.locks = false)  (a : Int32 × gx_S) (o : (Int32 × gx_S) ⊕ (Nat × Int32 × gx_S)) (hf : s_Floor_measure_51  a = some o) (hk : gx_or (pp_Floor_measure_51 K E ) (pq_Floor_measure_51 K E ) o) : pp_Floor_measure_51 K E  a := by
  unfold s_Floor_measure_51 at hf
  unfold pp_Floor_measure_51
  refine gx_iload_n C 1 d_Floor_measure_51 rfl rfl ?_
  refine gx_aload_n C 0 d_Floor_measure_52 rfl rfl ?_
  refine gx_get C iw_Floor 15 (gx_w15 E _) rfl 4 (by decide) gw_165 rfl rfl d_Floor_measure_53 ?_
  refine gx_icmp_ge (tgt := 151) C d_Floor_measure_56 (by decide) (fun h6 => ?_) (fun h6 => ?_)
  · have hf := (if_pos h6).symm.trans hf
    cases hf
    have hk : pq_Floor_measure_51 K E  _ := hk
    unfold pq_Floor_measure_51 at hk
    refine gx_lv (lv' := []) [] rfl ?_
    exact hk
  · have hf := (if_neg h6).symm.trans hf
    refine gx_iload_n C 1 d_Floor_measure_59 rfl rfl ?_
    refine gx_bipush C (v := 81) d_Floor_measure_60 (by decide) ?_
    refine gx_icmp_ge (tgt := 151) C d_Floor_measure_62 (by decide) (fun h7 => ?_) (fun h7 => ?_)
    · have hf := (if_pos h7).symm.trans hf
      cases hf
      have hk : pq_Floor_measure_51 K E  _ := hk
      unfold pq_Floor_measure_51 at hk
      refine gx_lv (lv' := []) [] rfl ?_
      exact hk
    · have hf := (if_neg h7).symm.trans hf
      refine gx_aload_n C 0 d_Floor_measure_65 rfl rfl ?_
      refine gx_get C iw_Floor 15 (gx_w15 E _) rfl 3 (by decide) gw_164 rfl rfl d_Floor_measure_66 ?_
      refine gx_iload_n C 1 d_Floor_measure_69 rfl rfl ?_
      obtain ⟨hi8, hf⟩ := gx_ck_some hf
      refine gx_iald C 18 0 (gx_w18 E _) rfl hi8 d_Floor_measure_70 ?_
      refine gx_bipush C (v := 9) d_Floor_measure_71 (by decide) ?_
      refine gx_irem C d_Floor_measure_73 (by decide) ?_
      refine gx_istore_n C (lv' := [(3, .int ((gx_gA a.2 13 (a.1 : Int32).toNatClampNeg) - (gx_gA a.2 13 (a.1 : Int32).toNatClampNeg) / 9 * 9)), (0, .ref (gx_ad E 15)), (2, .int a.1)]) d_Floor_measure_74 rfl (by decide) rfl ?_
      refine gx_aload_n C 1 d_Floor_measure_75 rfl rfl ?_
      refine gx_get C iw_Floor 15 (gx_w15 E _) rfl 3 (by decide) gw_164 rfl rfl d_Floor_measure_76 ?_
      refine gx_iload_n C 2 d_Floor_measure_79 rfl rfl ?_
      obtain ⟨hi9, hf⟩ := gx_ck_some hf
      refine gx_iald C 18 0 (gx_w18 E _) rfl hi9 d_Floor_measure_80 ?_
      refine gx_bipush C (v := 9) d_Floor_measure_81 (by decide) ?_
      refine gx_idiv C d_Floor_measure_83 (by decide) ?_
      refine gx_istore C (lv' := [(4, .int ((gx_gA a.2 13 (a.1 : Int32).toNatClampNeg) / 9)), (3, .int ((gx_gA a.2 13 (a.1 : Int32).toNatClampNeg) - (gx_gA a.2 13 (a.1 : Int32).toNatClampNeg) / 9 * 9)), (0, .ref (gx_ad E 15)), (2, .int a.1)]) d_Floor_measure_84 (by decide) rfl ?_
      refine gx_aload_n C 2 d_Floor_measure_86 rfl rfl ?_
      refine gx_get C iw_Floor 15 (gx_w15 E _) rfl 2 (by decide) gw_162 rfl rfl d_Floor_measure_87 ?_
      refine gx_aload_n C 2 d_Floor_measure_90 rfl rfl ?_
      refine gx_get C iw_Floor 15 (gx_w15 E _) rfl 3 (by decide) gw_164 rfl rfl d_Floor_measure_91 ?_
      refine gx_iload_n C 3 d_Floor_measure_94 rfl rfl ?_
      obtain ⟨hi10, hf⟩ := gx_ck_some hf
      refine gx_iald C 18 0 (gx_w18 E _) rfl hi10 d_Floor_measure_95 ?_
      obtain ⟨hi11, hf⟩ := gx_ck_some hf
      refine gx_iald C 17 0 (gx_w17 E _) rfl hi11 d_Floor_measure_96 ?_
      refine gx_iconst C (v := 1) d_Floor_measure_97 (by decide) ?_
      refine gx_iadd C d_Floor_measure_98 ?_
      refine gx_istore C (lv' := [(5, .int ((gx_gA a.2 12 (gx_gA a.2 13 (a.1 : Int32).toNatClampNeg : Int32).toNatClampNeg) + 1)), (4, .int ((gx_gA a.2 13 (a.1 : Int32).toNatClampNeg) / 9)), (3, .int ((gx_gA a.2 13 (a.1 : Int32).toNatClampNeg) - (gx_gA a.2 13 (a.1 : Int32).toNatClampNeg) / 9 * 9)), (0, .ref (gx_ad E 15)), (2, .int a.1)]) d_Floor_measure_99 (by decide) rfl ?_
      refine gx_aload_n C 3 d_Floor_measure_101 rfl rfl ?_
      refine gx_iload_n C 2 d_Floor_measure_102 rfl rfl ?_
      refine gx_iconst C (v := 1) d_Floor_measure_103 (by decide) ?_
      refine gx_isub C d_Floor_measure_104 ?_
      refine gx_iload C 1 d_Floor_measure_105 rfl ?_
      refine gx_iload C 0 d_Floor_measure_107 rfl ?_
      obtain ⟨r12, x12, hc12, hf⟩ := gx_bd_some hf
      refine gx_cVv (n2 := 0) (k2 := 0) C (As := [.int (((gx_gA a.2 13 (a.1 : Int32).toNatClampNeg) - (gx_gA a.2 13 (a.1 : Int32).toNatClampNeg) / 9 * 9) - 1), .int ((gx_gA a.2 13 (a.1 : Int32).toNatClampNeg) / 9), .int ((gx_gA a.2 12 (gx_gA a.2 13 (a.1 : Int32).toNatClampNeg : Int32).toNatClampNeg) + 1)]) (rest := []) 15 3 (c_Floor_reach K.l (((gx_gA a.2 13 (a.1 : Int32).toNatClampNeg) - (gx_gA a.2 13 (a.1 : Int32).toNatClampNeg) / 9 * 9) - 1) ((gx_gA a.2 13 (a.1 : Int32).toNatClampNeg) / 9) ((gx_gA a.2 12 (gx_gA a.2 13 (a.1 : Int32).toNatClampNeg : Int32).toNatClampNeg) + 1) a.2 _ hc12) (Or.inl rfl) rfl (gx_goodV gw_586 gw_588 gs_11 gw_7 gw_589) (by decide +kernel) (gx_w15 E _) rfl (by rw [hR]; decide) rfl rfl (Nat.le_of_ble_eq_true rfl) d_Floor_measure_109 (by rw [hR]; decide) rfl rfl ?_
      refine gx_aload_n C 3 d_Floor_measure_112 rfl rfl ?_
      refine gx_iload_n C 2 d_Floor_measure_113 rfl rfl ?_
      refine gx_iconst C (v := 1) d_Floor_measure_114 (by decide) ?_
      refine gx_iadd C d_Floor_measure_115 ?_
      refine gx_iload C 1 d_Floor_measure_116 rfl ?_
      refine gx_iload C 0 d_Floor_measure_118 rfl ?_
      obtain ⟨r13, x13, hc13, hf⟩ := gx_bd_some hf
      refine gx_cVv (n2 := 0) (k2 := 0) C (As := [.int (((gx_gA a.2 13 (a.1 : Int32).toNatClampNeg) - (gx_gA a.2 13 (a.1 : Int32).toNatClampNeg) / 9 * 9) + 1), .int ((gx_gA a.2 13 (a.1 : Int32).toNatClampNeg) / 9), .int ((gx_gA a.2 12 (gx_gA a.2 13 (a.1 : Int32).toNatClampNeg : Int32).toNatClampNeg) + 1)]) (rest := []) 15 3 (c_Floor_reach K.l (((gx_gA a.2 13 (a.1 : Int32).toNatClampNeg) - (gx_gA a.2 13 (a.1 : Int32).toNatClampNeg) / 9 * 9) + 1) ((gx_gA a.2 13 (a.1 : Int32).toNatClampNeg) / 9) ((gx_gA a.2 12 (gx_gA a.2 13 (a.1 : Int32).toNatClampNeg : Int32).toNatClampNeg) + 1) x12 _ hc13) (Or.inl rfl) rfl (gx_goodV gw_586 gw_588 gs_11 gw_7 gw_589) (by decide +kernel) (gx_w15 E _) rfl (by rw [hR]; decide) rfl rfl (Nat.le_of_ble_eq_true rfl) d_Floor_measure_120 (by rw [hR]; decide) rfl rfl ?_
      refine gx_aload_n C 3 d_Floor_measure_123 rfl rfl ?_
      refine gx_iload_n C 2 d_Floor_measure_124 rfl rfl ?_
      refine gx_iload C 1 d_Floor_measure_125 rfl ?_
      refine gx_iconst C (v := 1) d_Floor_measure_127 (by decide) ?_
      refine gx_isub C d_Floor_measure_128 ?_
      refine gx_iload C 0 d_Floor_measure_129 rfl ?_
      obtain ⟨r14, x14, hc14, hf⟩ := gx_bd_some hf
      refine gx_cVv (n2 := 0) (k2 := 0) C (As := [.int ((gx_gA a.2 13 (a.1 : Int32).toNatClampNeg) - (gx_gA a.2 13 (a.1 : Int32).toNatClampNeg) / 9 * 9), .int (((gx_gA a.2 13 (a.1 : Int32).toNatClampNeg) / 9) - 1), .int ((gx_gA a.2 12 (gx_gA a.2 13 (a.1 : Int32).toNatClampNeg : Int32).toNatClampNeg) + 1)]) (rest := []) 15 3 (c_Floor_reach K.l ((gx_gA a.2 13 (a.1 : Int32).toNatClampNeg) - (gx_gA a.2 13 (a.1 : Int32).toNatClampNeg) / 9 * 9) (((gx_gA a.2 13 (a.1 : Int32).toNatClampNeg) / 9) - 1) ((gx_gA a.2 12 (gx_gA a.2 13 (a.1 : Int32).toNatClampNeg : Int32).toNatClampNeg) + 1) x13 _ hc14) (Or.inl rfl) rfl (gx_goodV gw_586 gw_588 gs_11 gw_7 gw_589) (by decide +kernel) (gx_w15 E _) rfl (by rw [hR]; decide) rfl rfl (Nat.le_of_ble_eq_true rfl) d_Floor_measure_131 (by rw [hR]; decide) rfl rfl ?_
      refine gx_aload_n C 3 d_Floor_measure_134 rfl rfl ?_
      refine gx_iload_n C 2 d_Floor_measure_135 rfl rfl ?_
      refine gx_iload C 1 d_Floor_measure_136 rfl ?_
      refine gx_iconst C (v := 1) d_Floor_measure_138 (by decide) ?_
      refine gx_iadd C d_Floor_measure_139 ?_
      refine gx_iload C 0 d_Floor_measure_140 rfl ?_
      obtain ⟨r15, x15, hc15, hf⟩ := gx_bd_some hf
      refine gx_cVv (n2 := 0) (k2 := 0) C (As := [.int ((gx_gA a.2 13 (a.1 : Int32).toNatClampNeg) - (gx_gA a.2 13 (a.1 : Int32).toNatClampNeg) / 9 * 9), .int (((gx_gA a.2 13 (a.1 : Int32).toNatClampNeg) / 9) + 1), .int ((gx_gA a.2 12 (gx_gA a.2 13 (a.1 : Int32).toNatClampNeg : Int32).toNatClampNeg) + 1)]) (rest := []) 15 3 (c_Floor_reach K.l ((gx_gA a.2 13 (a.1 : Int32).toNatClampNeg) - (gx_gA a.2 13 (a.1 : Int32).toNatClampNeg) / 9 * 9) (((gx_gA a.2 13 (a.1 : Int32).toNatClampNeg) / 9) + 1) ((gx_gA a.2 12 (gx_gA a.2 13 (a.1 : Int32).toNatClampNeg : Int32).toNatClampNeg) + 1) x14 _ hc15) (Or.inl rfl) rfl (gx_goodV gw_586 gw_588 gs_11 gw_7 gw_589) (by decide +kernel) (gx_w15 E _) rfl (by rw [hR]; decide) rfl rfl (Nat.le_of_ble_eq_true rfl) d_Floor_measure_142 (by rw [hR]; decide) rfl rfl ?_
      refine gx_iinc C (v := a.1 + 1) (lv' := [(2, .int (a.1 + 1)), (5, .int ((gx_gA a.2 12 (gx_gA a.2 13 (a.1 : Int32).toNatClampNeg : Int32).toNatClampNeg) + 1)), (4, .int ((gx_gA a.2 13 (a.1 : Int32).toNatClampNeg) / 9)), (3, .int ((gx_gA a.2 13 (a.1 : Int32).toNatClampNeg) - (gx_gA a.2 13 (a.1 : Int32).toNatClampNeg) / 9 * 9)), (0, .ref (gx_ad E 15))]) 4 d_Floor_measure_145 rfl rfl (by decide) rfl ?_
      refine gx_goto (tgt := 51) C d_Floor_measure_148 (by decide) ?_
      cases hf
      refine gx_lv (lv' := [(0, .ref (gx_ad E 15)), (2, .int (a.1 + 1))]) [4, 0] rfl ?_
      exact hk
set_option maxHeartbeats 4000000 in
set_option maxRecDepth 100000 in
theorem c_Floor_measure (l : Launch)  (x : gx_S) (o : Int32 × gx_S) (hf : f_Floor_measure  x = some o) : gx_Mv true l y_Floor_measure prog_3_method_7_code 6 rm_Floor_measure (fun E => [.ref (gx_ad E 15), .ref (gx_ad E 13)]) x o.2 := by
  refine gx_metv (own := "CaseLayout$Floor") (by decide) rfl (fun E => Nat.le_of_ble_eq_true rfl) (fun K E hl0 hR hr hlk hk C => ?_)
  subst hl0
  unfold f_Floor_measure at hf
  show gx_G K E _ 0 0 x 0 [(0, .ref (gx_ad E 15)), (1, .ref (gx_ad E 13))] []
  refine gx_aload_n C 0 d_Floor_measure_0 rfl rfl ?_
  refine gx_get C iw_Floor 15 (gx_w15 E _) rfl 2 (by decide) gw_162 rfl rfl d_Floor_measure_1 ?_
  refine gx_iconst C (v := (-1)) d_Floor_measure_4 (by decide) ?_
  obtain ⟨r1, x1, hc1, hf⟩ := gx_bd_some hf
  refine gx_cSv (n2 := 0) (k2 := 0) C (As := [.ref (gx_ad E 17), .int (-1)]) (rest := []) 2 (c_Arrays_fill K.l (-1) x _ hc1) (Or.inl rfl) rfl (gx_goodS gw_583 gw_584 gw_17 gw_585) (by decide +kernel) (by rw [hR]; decide) rfl rfl (Nat.le_of_ble_eq_true rfl) d_Floor_measure_5 (by rw [hR]; decide) rfl rfl ?_
  refine gx_aload_n C 0 d_Floor_measure_8 rfl rfl ?_
  refine gx_iconst C (v := 0) d_Floor_measure_9 (by decide) ?_
  refine gx_put C (ty := .int) (x' := gx_sI x1 7 0) iw_Floor ty_Floor tk_Floor tn_Floor 15 (gx_w15 E _) rfl 4 (by decide) gw_165 rfl rfl (by decide +kernel) rfl rfl (Nat.le_of_ble_eq_true rfl) (gx_p15_4 E _ _) d_Floor_measure_10 ?_
  refine gx_iconst C (v := 0) d_Floor_measure_13 (by decide) ?_
  refine gx_istore_n C (lv' := [(2, .int 0), (0, .ref (gx_ad E 15)), (1, .ref (gx_ad E 13))]) d_Floor_measure_14 rfl (by decide) rfl ?_
  refine gx_lv (lv' := [(0, .ref (gx_ad E 15)), (1, .ref (gx_ad E 13)), (2, .int 0)]) [1, 2, 0] rfl ?_
  obtain ⟨e5, he5, hf⟩ := gx_bl_some hf
  refine (gx_loop (P := pp_Floor_measure_15 K E ) (Q := pq_Floor_measure_15 K E ) (fun a9 o9 h1 h2 => sc_Floor_measure_15 C hR hr hlk  a9 o9 h1 h2) gx_fuel (0, gx_sI x1 7 0) e5 he5 ?_ : pp_Floor_measure_15 K E  (0, gx_sI x1 7 0))
  unfold pq_Floor_measure_15
  refine gx_iconst C (v := 0) d_Floor_measure_49 (by decide) ?_
  refine gx_istore_n C (lv' := [(2, .int 0), (0, .ref (gx_ad E 15))]) d_Floor_measure_50 rfl (by decide) rfl ?_
  refine gx_lv (lv' := [(0, .ref (gx_ad E 15)), (2, .int 0)]) [1, 0] rfl ?_
  obtain ⟨e16, he16, hf⟩ := gx_bl_some hf
  refine (gx_loop (P := pp_Floor_measure_51 K E ) (Q := pq_Floor_measure_51 K E ) (fun a9 o9 h1 h2 => sc_Floor_measure_51 C hR hr hlk  a9 o9 h1 h2) gx_fuel (0, e5.2.2) e16 he16 ?_ : pp_Floor_measure_51 K E  (0, e5.2.2))
  unfold pq_Floor_measure_51
  cases hf
  exact gx_vret C hr hlk hk d_Floor_measure_151

def f_Floor_isNear (a1 : Int32) (a2 : Int32) (a3 : Int32) (x : gx_S) : Option (Int32 × gx_S) :=
  gx_bd (f_Grid_holds a1 a2 x) (fun r1 x1 => if r1 = 0 then (some (0, x1)) else (gx_bd (f_CaseLayout_cellOf a1 a2 x1) (fun r3 x3 => gx_ck r3 81 (if (gx_gA x3 12 (r3 : Int32).toNatClampNeg) = (-1) then (some (0, x3)) else (if a3 < (gx_gA x3 12 (r3 : Int32).toNatClampNeg) then (some (0, x3)) else (some (1, x3)))))))
abbrev rm_Floor_isNear : Room := { frames := 1, cells := 0, slots := 0, locals := 22 }
set_option maxHeartbeats 4000000 in
set_option maxRecDepth 100000 in
theorem c_Floor_isNear (l : Launch) (a1 : Int32) (a2 : Int32) (a3 : Int32) (x : gx_S) (o : Int32 × gx_S) (hf : f_Floor_isNear a1 a2 a3 x = some o) : gx_Mi false l y_Floor_isNear prog_3_method_10_code 5 (some .boolean) rm_Floor_isNear (fun E => [.ref (gx_ad E 15), .int a1, .int a2, .int a3]) x o.1 o.2 := by
  refine gx_meti (own := "CaseLayout$Floor") (by decide) rfl (fun E => Nat.le_of_ble_eq_true rfl) (fun K E hl0 hR hr hlk hk C => ?_)
  subst hl0
  unfold f_Floor_isNear at hf
  show gx_G K E _ 0 0 x 0 [(0, .ref (gx_ad E 15)), (1, .int a1), (2, .int a2), (3, .int a3)] []
  refine gx_aload_n C 0 d_Floor_isNear_0 rfl rfl ?_
  refine gx_get C iw_Floor 15 (gx_w15 E _) rfl 0 (by decide) gw_160 rfl rfl d_Floor_isNear_1 ?_
  refine gx_iload_n C 1 d_Floor_isNear_4 rfl rfl ?_
  refine gx_iload_n C 2 d_Floor_isNear_5 rfl rfl ?_
  obtain ⟨r1, x1, hc1, hf⟩ := gx_bd_some hf
  refine gx_cVi (n2 := 0) (k2 := 0) C (As := [.int a1, .int a2]) (rest := []) 0 2 (c_Grid_holds K.l a1 a2 x _ hc1) (Or.inr rfl) rfl (gx_goodV gw_552 gw_289 gw_290 gw_2 gw_291) (by decide +kernel) (gx_w0 E _) rfl (by rw [hR]; decide) rfl rfl (Nat.le_of_ble_eq_true rfl) d_Floor_isNear_6 (by rw [hR]; decide) rfl rfl ?_
  refine gx_if_ne (tgt := 14) C d_Floor_isNear_9 (by decide) (fun h2 => ?_) (fun h2 => ?_)
  · have hf := (if_neg h2).symm.trans hf
    refine gx_aload_n C 0 d_Floor_isNear_14 rfl rfl ?_
    refine gx_get C iw_Floor 15 (gx_w15 E _) rfl 2 (by decide) gw_162 rfl rfl d_Floor_isNear_15 ?_
    refine gx_iload_n C 1 d_Floor_isNear_18 rfl rfl ?_
    refine gx_iload_n C 2 d_Floor_isNear_19 rfl rfl ?_
    obtain ⟨r3, x3, hc3, hf⟩ := gx_bd_some hf
    refine gx_cSNi (n2 := 0) (k2 := 0) C (As := [.int a1, .int a2]) (rest := [.ref (gx_ad E 17)]) 2 (c_CaseLayout_cellOf K.l a1 a2 x1 _ hc3) (Or.inr rfl) rfl gw_362 gn_553 gw_1 gw_361 (by decide +kernel) (by rw [hR]; decide) rfl rfl (Nat.le_of_ble_eq_true rfl) d_Floor_isNear_20 (by rw [hR]; decide) rfl rfl ?_
    obtain ⟨hi4, hf⟩ := gx_ck_some hf
    refine gx_iald C 17 0 (gx_w17 E _) rfl hi4 d_Floor_isNear_23 ?_
    refine gx_istore C (lv' := [(4, .int (gx_gA x3 12 (r3 : Int32).toNatClampNeg)), (0, .ref (gx_ad E 15)), (1, .int a1), (2, .int a2), (3, .int a3)]) d_Floor_isNear_24 (by decide) rfl ?_
    refine gx_iload C 0 d_Floor_isNear_26 rfl ?_
    refine gx_iconst C (v := (-1)) d_Floor_isNear_28 (by decide) ?_
    refine gx_icmp_eq (tgt := 42) C d_Floor_isNear_29 (by decide) (fun h5 => ?_) (fun h5 => ?_)
    · have hf := (if_pos h5).symm.trans hf
      refine gx_iconst C (v := 0) d_Floor_isNear_42 (by decide) ?_
      cases hf
      exact gx_zret C hr hlk hk (by decide) d_Floor_isNear_43
    · have hf := (if_neg h5).symm.trans hf
      refine gx_iload C 0 d_Floor_isNear_32 rfl ?_
      refine gx_iload_n C 4 d_Floor_isNear_34 rfl rfl ?_
      refine gx_icmp_gt (tgt := 42) C d_Floor_isNear_35 (by decide) (fun h6 => ?_) (fun h6 => ?_)
      · have hf := (if_pos h6).symm.trans hf
        refine gx_iconst C (v := 0) d_Floor_isNear_42 (by decide) ?_
        cases hf
        exact gx_zret C hr hlk hk (by decide) d_Floor_isNear_43
      · have hf := (if_neg h6).symm.trans hf
        refine gx_iconst C (v := 1) d_Floor_isNear_38 (by decide) ?_
        refine gx_goto (tgt := 43) C d_Floor_isNear_39 (by decide) ?_
        cases hf
        exact gx_zret C hr hlk hk (by decide) d_Floor_isNear_43
  · have hf := (if_pos h2).symm.trans hf
    refine gx_iconst C (v := 0) d_Floor_isNear_12 (by decide) ?_
    cases hf
    exact gx_zret C hr hlk hk (by decide) d_Floor_isNear_13

def s_Floor_hasEscape_42 (v3 : Int32) (v4 : Int32) (v5 : Int32) (v6 : Int32) (v7 : Int32) (a : Int32 × gx_S) : Option ((Int32 × gx_S) ⊕ (Nat × Int32 × gx_S)) :=
  if (v5 + v7) ≤ a.1 then (some (.inr (1, a.1, a.2))) else (gx_bd (f_Floor_isNear (v4 - 1) a.1 v3 a.2) (fun r6 x6 => if r6 = 0 then (gx_bd (f_Floor_isNear (v4 + v6) a.1 v3 x6) (fun r8 x8 => if r8 = 0 then (some (.inl (a.1 + 1, x8))) else (some (.inr (0, a.1, x8))))) else (some (.inr (0, a.1, x6)))))
def s_Floor_hasEscape_93 (v3 : Int32) (v4 : Int32) (v5 : Int32) (v6 : Int32) (v7 : Int32) (a : Int32 × gx_S) : Option ((Int32 × gx_S) ⊕ (Nat × Int32 × gx_S)) :=
  if (v4 + v6) ≤ a.1 then (some (.inr (1, a.1, a.2))) else (gx_bd (f_Floor_isNear a.1 (v5 - 1) v3 a.2) (fun r13 x13 => if r13 = 0 then (gx_bd (f_Floor_isNear a.1 (v5 + v7) v3 x13) (fun r15 x15 => if r15 = 0 then (some (.inl (a.1 + 1, x15))) else (some (.inr (0, a.1, x15))))) else (some (.inr (0, a.1, x13)))))
def f_Floor_hasEscape (a2 : Int32) (a3 : Int32) (x : gx_S) : Option (Int32 × gx_S) :=
  gx_ck a2 7 (gx_ck a2 7 (gx_ck a2 7 (gx_ck a2 7 (gx_bl (gx_it (s_Floor_hasEscape_42 a3 (gx_gA x 14 (a2 : Int32).toNatClampNeg) (gx_gA x 15 (a2 : Int32).toNatClampNeg) (gx_gA x 2 (a2 : Int32).toNatClampNeg) (gx_gA x 3 (a2 : Int32).toNatClampNeg)) gx_fuel (gx_gA x 15 (a2 : Int32).toNatClampNeg, x)) (fun e10 => if e10.1 = 0 then (some (1, e10.2.2)) else (gx_bl (gx_it (s_Floor_hasEscape_93 a3 (gx_gA x 14 (a2 : Int32).toNatClampNeg) (gx_gA x 15 (a2 : Int32).toNatClampNeg) (gx_gA x 2 (a2 : Int32).toNatClampNeg) (gx_gA x 3 (a2 : Int32).toNatClampNeg)) gx_fuel (gx_gA x 14 (a2 : Int32).toNatClampNeg, e10.2.2)) (fun e17 => if e17.1 = 0 then (some (1, e17.2.2)) else (some (0, e17.2.2)))))))))
abbrev rm_Floor_hasEscape : Room := { frames := 2, cells := 0, slots := 0, locals := 46 }
def pp_Floor_hasEscape_42 (K : gx_K) (E : gx_E) (v3 : Int32) (v4 : Int32) (v5 : Int32) (v6 : Int32) (v7 : Int32) (a : Int32 × gx_S) : Prop := gx_G K E (gx_AB false E K.s.heap.size) 0 0 (a.2) 42 [(0, .ref (gx_ad E 15)), (3, .int v3), (4, .int v4), (5, .int v5), (6, .int v6), (7, .int v7), (8, .int a.1)] []
def pq_Floor_hasEscape_42 (K : gx_K) (E : gx_E) (v3 : Int32) (v4 : Int32) (v5 : Int32) (v6 : Int32) (v7 : Int32) (b : Nat × Int32 × gx_S) : Prop := if b.1 = 0 then gx_G K E (gx_AB false E K.s.heap.size) 0 0 (b.2.2) 81 [] [] else (gx_G K E (gx_AB false E K.s.heap.size) 0 0 (b.2.2) 89 [(0, .ref (gx_ad E 15)), (3, .int v3), (4, .int v4), (5, .int v5), (6, .int v6), (7, .int v7)] [])
def pp_Floor_hasEscape_93 (K : gx_K) (E : gx_E) (v3 : Int32) (v4 : Int32) (v5 : Int32) (v6 : Int32) (v7 : Int32) (a : Int32 × gx_S) : Prop := gx_G K E (gx_AB false E K.s.heap.size) 0 0 (a.2) 93 [(0, .ref (gx_ad E 15)), (3, .int v3), (4, .int v4), (5, .int v5), (6, .int v6), (7, .int v7), (8, .int a.1)] []
def pq_Floor_hasEscape_93 (K : gx_K) (E : gx_E) (v3 : Int32) (v4 : Int32) (v5 : Int32) (v6 : Int32) (v7 : Int32) (b : Nat × Int32 × gx_S) : Prop := if b.1 = 0 then gx_G K E (gx_AB false E K.s.heap.size) 0 0 (b.2.2) 132 [] [] else (gx_G K E (gx_AB false E K.s.heap.size) 0 0 (b.2.2) 140 [] [])
set_option maxHeartbeats 4000000 in
set_option maxRecDepth 100000 in
theorem sc_Floor_hasEscape_42 {K : gx_K} {E : gx_E} (C : gx_C K E "CaseLayout$Floor" prog_3_method_9_code 9) (hR : K.R = rm_Floor_hasEscape) (hr : K.meth.sig.returnType = (some .boolean)) (hlk : K.meth.locks = false) (v3 : Int32) (v4 : Int32) (v5 : Int32) (v6 : Int32) (v7 : Int32) (a : Int32 × gx_S) (o : (Int32 × gx_S) ⊕ (Nat × Int32 × gx_S)) (hf : s_Floor_hasEscape_42 v3 v4 v5 v6 v7 a = some o) (hk : gx_or (pp_Floor_hasEscape_42 K E v3 v4 v5 v6 v7) (pq_Floor_hasEscape_42 K E v3 v4 v5 v6 v7) o) : pp_Floor_hasEscape_42 K E v3 v4 v5 v6 v7 a := by
  unfold s_Floor_hasEscape_42 at hf
  unfold pp_Floor_hasEscape_42
  refine gx_iload C 6 d_Floor_hasEscape_42 rfl ?_
  refine gx_iload C 3 d_Floor_hasEscape_44 rfl ?_
  refine gx_iload C 5 d_Floor_hasEscape_46 rfl ?_
  refine gx_iadd C d_Floor_hasEscape_48 ?_
  refine gx_icmp_ge (tgt := 89) C d_Floor_hasEscape_49 (by decide) (fun h5 => ?_) (fun h5 => ?_)
  · have hf := (if_pos h5).symm.trans hf
    cases hf
    have hk : pq_Floor_hasEscape_42 K E v3 v4 v5 v6 v7 _ := hk
    unfold pq_Floor_hasEscape_42 at hk
    have hk := gx_ifn (by decide : ¬ ((1 : Nat) = 0)) hk
    refine gx_lv (lv' := [(0, .ref (gx_ad E 15)), (3, .int v3), (4, .int v4), (5, .int v5), (6, .int v6), (7, .int v7)]) [0, 1, 2, 3, 4, 5] rfl ?_
    exact hk
  · have hf := (if_neg h5).symm.trans hf
    refine gx_aload_n C 0 d_Floor_hasEscape_52 rfl rfl ?_
    refine gx_iload C 2 d_Floor_hasEscape_53 rfl ?_
    refine gx_iconst C (v := 1) d_Floor_hasEscape_55 (by decide) ?_
    refine gx_isub C d_Floor_hasEscape_56 ?_
    refine gx_iload C 6 d_Floor_hasEscape_57 rfl ?_
    refine gx_iload_n C 1 d_Floor_hasEscape_59 rfl rfl ?_
    obtain ⟨r6, x6, hc6, hf⟩ := gx_bd_some hf
    refine gx_cVi (n2 := 0) (k2 := 0) C (As := [.int (v4 - 1), .int a.1, .int v3]) (rest := []) 15 3 (c_Floor_isNear K.l (v4 - 1) a.1 v3 a.2 _ hc6) (Or.inr rfl) rfl (gx_goodV gw_594 gw_596 gs_12 gw_7 gw_597) (by decide +kernel) (gx_w15 E _) rfl (by rw [hR]; decide) rfl rfl (Nat.le_of_ble_eq_true rfl) d_Floor_hasEscape_60 (by rw [hR]; decide) rfl rfl ?_
    refine gx_if_ne (tgt := 81) C d_Floor_hasEscape_63 (by decide) (fun h7 => ?_) (fun h7 => ?_)
    · have hf := (if_neg h7).symm.trans hf
      cases hf
      have hk : pq_Floor_hasEscape_42 K E v3 v4 v5 v6 v7 _ := hk
      unfold pq_Floor_hasEscape_42 at hk
      have hk := gx_ifp (rfl : (0 : Nat) = 0) hk
      refine gx_lv (lv' := []) [] rfl ?_
      exact hk
    · have hf := (if_pos h7).symm.trans hf
      refine gx_aload_n C 0 d_Floor_hasEscape_66 rfl rfl ?_
      refine gx_iload C 2 d_Floor_hasEscape_67 rfl ?_
      refine gx_iload C 4 d_Floor_hasEscape_69 rfl ?_
      refine gx_iadd C d_Floor_hasEscape_71 ?_
      refine gx_iload C 6 d_Floor_hasEscape_72 rfl ?_
      refine gx_iload_n C 1 d_Floor_hasEscape_74 rfl rfl ?_
      obtain ⟨r8, x8, hc8, hf⟩ := gx_bd_some hf
      refine gx_cVi (n2 := 0) (k2 := 0) C (As := [.int (v4 + v6), .int a.1, .int v3]) (rest := []) 15 3 (c_Floor_isNear K.l (v4 + v6) a.1 v3 x6 _ hc8) (Or.inr rfl) rfl (gx_goodV gw_594 gw_596 gs_12 gw_7 gw_597) (by decide +kernel) (gx_w15 E _) rfl (by rw [hR]; decide) rfl rfl (Nat.le_of_ble_eq_true rfl) d_Floor_hasEscape_75 (by rw [hR]; decide) rfl rfl ?_
      refine gx_if_eq (tgt := 83) C d_Floor_hasEscape_78 (by decide) (fun h9 => ?_) (fun h9 => ?_)
      · have hf := (if_pos h9).symm.trans hf
        refine gx_iinc C (v := a.1 + 1) (lv' := [(8, .int (a.1 + 1)), (0, .ref (gx_ad E 15)), (3, .int v3), (4, .int v4), (5, .int v5), (6, .int v6), (7, .int v7)]) 6 d_Floor_hasEscape_83 rfl rfl (by decide) rfl ?_
        refine gx_goto (tgt := 42) C d_Floor_hasEscape_86 (by decide) ?_
        cases hf
        refine gx_lv (lv' := [(0, .ref (gx_ad E 15)), (3, .int v3), (4, .int v4), (5, .int v5), (6, .int v6), (7, .int v7), (8, .int (a.1 + 1))]) [1, 2, 3, 4, 5, 6, 0] rfl ?_
        exact hk
      · have hf := (if_neg h9).symm.trans hf
        cases hf
        have hk : pq_Floor_hasEscape_42 K E v3 v4 v5 v6 v7 _ := hk
        unfold pq_Floor_hasEscape_42 at hk
        have hk := gx_ifp (rfl : (0 : Nat) = 0) hk
        refine gx_lv (lv' := []) [] rfl ?_
        exact hk
set_option maxHeartbeats 4000000 in
set_option maxRecDepth 100000 in
theorem sc_Floor_hasEscape_93 {K : gx_K} {E : gx_E} (C : gx_C K E "CaseLayout$Floor" prog_3_method_9_code 9) (hR : K.R = rm_Floor_hasEscape) (hr : K.meth.sig.returnType = (some .boolean)) (hlk : K.meth.locks = false) (v3 : Int32) (v4 : Int32) (v5 : Int32) (v6 : Int32) (v7 : Int32) (a : Int32 × gx_S) (o : (Int32 × gx_S) ⊕ (Nat × Int32 × gx_S)) (hf : s_Floor_hasEscape_93 v3 v4 v5 v6 v7 a = some o) (hk : gx_or (pp_Floor_hasEscape_93 K E v3 v4 v5 v6 v7) (pq_Floor_hasEscape_93 K E v3 v4 v5 v6 v7) o) : pp_Floor_hasEscape_93 K E v3 v4 v5 v6 v7 a := by
  unfold s_Floor_hasEscape_93 at hf
  unfold pp_Floor_hasEscape_93
  refine gx_iload C 6 d_Floor_hasEscape_93 rfl ?_
  refine gx_iload C 2 d_Floor_hasEscape_95 rfl ?_
  refine gx_iload C 4 d_Floor_hasEscape_97 rfl ?_
  refine gx_iadd C d_Floor_hasEscape_99 ?_
  refine gx_icmp_ge (tgt := 140) C d_Floor_hasEscape_100 (by decide) (fun h12 => ?_) (fun h12 => ?_)
  · have hf := (if_pos h12).symm.trans hf
    cases hf
    have hk : pq_Floor_hasEscape_93 K E v3 v4 v5 v6 v7 _ := hk
    unfold pq_Floor_hasEscape_93 at hk
    have hk := gx_ifn (by decide : ¬ ((1 : Nat) = 0)) hk
    refine gx_lv (lv' := []) [] rfl ?_
    exact hk
  · have hf := (if_neg h12).symm.trans hf
    refine gx_aload_n C 0 d_Floor_hasEscape_103 rfl rfl ?_
    refine gx_iload C 6 d_Floor_hasEscape_104 rfl ?_
    refine gx_iload C 3 d_Floor_hasEscape_106 rfl ?_
    refine gx_iconst C (v := 1) d_Floor_hasEscape_108 (by decide) ?_
    refine gx_isub C d_Floor_hasEscape_109 ?_
    refine gx_iload_n C 1 d_Floor_hasEscape_110 rfl rfl ?_
    obtain ⟨r13, x13, hc13, hf⟩ := gx_bd_some hf
    refine gx_cVi (n2 := 0) (k2 := 0) C (As := [.int a.1, .int (v5 - 1), .int v3]) (rest := []) 15 3 (c_Floor_isNear K.l a.1 (v5 - 1) v3 a.2 _ hc13) (Or.inr rfl) rfl (gx_goodV gw_594 gw_596 gs_12 gw_7 gw_597) (by decide +kernel) (gx_w15 E _) rfl (by rw [hR]; decide) rfl rfl (Nat.le_of_ble_eq_true rfl) d_Floor_hasEscape_111 (by rw [hR]; decide) rfl rfl ?_
    refine gx_if_ne (tgt := 132) C d_Floor_hasEscape_114 (by decide) (fun h14 => ?_) (fun h14 => ?_)
    · have hf := (if_neg h14).symm.trans hf
      cases hf
      have hk : pq_Floor_hasEscape_93 K E v3 v4 v5 v6 v7 _ := hk
      unfold pq_Floor_hasEscape_93 at hk
      have hk := gx_ifp (rfl : (0 : Nat) = 0) hk
      refine gx_lv (lv' := []) [] rfl ?_
      exact hk
    · have hf := (if_pos h14).symm.trans hf
      refine gx_aload_n C 0 d_Floor_hasEscape_117 rfl rfl ?_
      refine gx_iload C 6 d_Floor_hasEscape_118 rfl ?_
      refine gx_iload C 3 d_Floor_hasEscape_120 rfl ?_
      refine gx_iload C 5 d_Floor_hasEscape_122 rfl ?_
      refine gx_iadd C d_Floor_hasEscape_124 ?_
      refine gx_iload_n C 1 d_Floor_hasEscape_125 rfl rfl ?_
      obtain ⟨r15, x15, hc15, hf⟩ := gx_bd_some hf
      refine gx_cVi (n2 := 0) (k2 := 0) C (As := [.int a.1, .int (v5 + v7), .int v3]) (rest := []) 15 3 (c_Floor_isNear K.l a.1 (v5 + v7) v3 x13 _ hc15) (Or.inr rfl) rfl (gx_goodV gw_594 gw_596 gs_12 gw_7 gw_597) (by decide +kernel) (gx_w15 E _) rfl (by rw [hR]; decide) rfl rfl (Nat.le_of_ble_eq_true rfl) d_Floor_hasEscape_126 (by rw [hR]; decide) rfl rfl ?_
      refine gx_if_eq (tgt := 134) C d_Floor_hasEscape_129 (by decide) (fun h16 => ?_) (fun h16 => ?_)
      · have hf := (if_pos h16).symm.trans hf
        refine gx_iinc C (v := a.1 + 1) (lv' := [(8, .int (a.1 + 1)), (0, .ref (gx_ad E 15)), (3, .int v3), (4, .int v4), (5, .int v5), (6, .int v6), (7, .int v7)]) 6 d_Floor_hasEscape_134 rfl rfl (by decide) rfl ?_
        refine gx_goto (tgt := 93) C d_Floor_hasEscape_137 (by decide) ?_
        cases hf
        refine gx_lv (lv' := [(0, .ref (gx_ad E 15)), (3, .int v3), (4, .int v4), (5, .int v5), (6, .int v6), (7, .int v7), (8, .int (a.1 + 1))]) [1, 2, 3, 4, 5, 6, 0] rfl ?_
        exact hk
      · have hf := (if_neg h16).symm.trans hf
        cases hf
        have hk : pq_Floor_hasEscape_93 K E v3 v4 v5 v6 v7 _ := hk
        unfold pq_Floor_hasEscape_93 at hk
        have hk := gx_ifp (rfl : (0 : Nat) = 0) hk
        refine gx_lv (lv' := []) [] rfl ?_
        exact hk
set_option maxHeartbeats 4000000 in
set_option maxRecDepth 100000 in
theorem c_Floor_hasEscape (l : Launch) (a2 : Int32) (a3 : Int32) (x : gx_S) (o : Int32 × gx_S) (hf : f_Floor_hasEscape a2 a3 x = some o) : gx_Mi false l y_Floor_hasEscape prog_3_method_9_code 9 (some .boolean) rm_Floor_hasEscape (fun E => [.ref (gx_ad E 15), .ref (gx_ad E 19), .int a2, .int a3]) x o.1 o.2 := by
  refine gx_meti (own := "CaseLayout$Floor") (by decide) rfl (fun E => Nat.le_of_ble_eq_true rfl) (fun K E hl0 hR hr hlk hk C => ?_)
  subst hl0
  unfold f_Floor_hasEscape at hf
  show gx_G K E _ 0 0 x 0 [(0, .ref (gx_ad E 15)), (1, .ref (gx_ad E 19)), (2, .int a2), (3, .int a3)] []
  refine gx_aload_n C 1 d_Floor_hasEscape_0 rfl rfl ?_
  refine gx_getN C iw_Layout 19 (gx_w19 E _) rfl 1 (by decide) gn_192 rfl rfl d_Floor_hasEscape_1 ?_
  refine gx_iload_n C 2 d_Floor_hasEscape_4 rfl rfl ?_
  obtain ⟨hi1, hf⟩ := gx_ck_some hf
  refine gx_iald C 20 0 (gx_w20 E _) rfl hi1 d_Floor_hasEscape_5 ?_
  refine gx_istore C (lv' := [(4, .int (gx_gA x 14 (a2 : Int32).toNatClampNeg)), (0, .ref (gx_ad E 15)), (1, .ref (gx_ad E 19)), (2, .int a2), (3, .int a3)]) d_Floor_hasEscape_6 (by decide) rfl ?_
  refine gx_aload_n C 2 d_Floor_hasEscape_8 rfl rfl ?_
  refine gx_getN C iw_Layout 19 (gx_w19 E _) rfl 2 (by decide) gn_196 rfl rfl d_Floor_hasEscape_9 ?_
  refine gx_iload_n C 3 d_Floor_hasEscape_12 rfl rfl ?_
  obtain ⟨hi2, hf⟩ := gx_ck_some hf
  refine gx_iald C 21 0 (gx_w21 E _) rfl hi2 d_Floor_hasEscape_13 ?_
  refine gx_istore C (lv' := [(5, .int (gx_gA x 15 (a2 : Int32).toNatClampNeg)), (4, .int (gx_gA x 14 (a2 : Int32).toNatClampNeg)), (0, .ref (gx_ad E 15)), (1, .ref (gx_ad E 19)), (2, .int a2), (3, .int a3)]) d_Floor_hasEscape_14 (by decide) rfl ?_
  refine gx_aload_n C 3 d_Floor_hasEscape_16 rfl rfl ?_
  refine gx_getN C iw_Layout 19 (gx_w19 E _) rfl 0 (by decide) gn_190 rfl rfl d_Floor_hasEscape_17 ?_
  refine gx_getN C iw_Things 3 (gx_w3 E _) rfl 0 (by decide) gn_74 rfl rfl d_Floor_hasEscape_20 ?_
  refine gx_iload_n C 4 d_Floor_hasEscape_23 rfl rfl ?_
  obtain ⟨hi3, hf⟩ := gx_ck_some hf
  refine gx_iald C 4 0 (gx_w4 E _) rfl hi3 d_Floor_hasEscape_24 ?_
  refine gx_istore C (lv' := [(6, .int (gx_gA x 2 (a2 : Int32).toNatClampNeg)), (5, .int (gx_gA x 15 (a2 : Int32).toNatClampNeg)), (4, .int (gx_gA x 14 (a2 : Int32).toNatClampNeg)), (0, .ref (gx_ad E 15)), (1, .ref (gx_ad E 19)), (2, .int a2), (3, .int a3)]) d_Floor_hasEscape_25 (by decide) rfl ?_
  refine gx_aload_n C 4 d_Floor_hasEscape_27 rfl rfl ?_
  refine gx_getN C iw_Layout 19 (gx_w19 E _) rfl 0 (by decide) gn_190 rfl rfl d_Floor_hasEscape_28 ?_
  refine gx_getN C iw_Things 3 (gx_w3 E _) rfl 1 (by decide) gn_78 rfl rfl d_Floor_hasEscape_31 ?_
  refine gx_iload_n C 5 d_Floor_hasEscape_34 rfl rfl ?_
  obtain ⟨hi4, hf⟩ := gx_ck_some hf
  refine gx_iald C 5 0 (gx_w5 E _) rfl hi4 d_Floor_hasEscape_35 ?_
  refine gx_istore C (lv' := [(7, .int (gx_gA x 3 (a2 : Int32).toNatClampNeg)), (6, .int (gx_gA x 2 (a2 : Int32).toNatClampNeg)), (5, .int (gx_gA x 15 (a2 : Int32).toNatClampNeg)), (4, .int (gx_gA x 14 (a2 : Int32).toNatClampNeg)), (0, .ref (gx_ad E 15)), (1, .ref (gx_ad E 19)), (2, .int a2), (3, .int a3)]) d_Floor_hasEscape_36 (by decide) rfl ?_
  refine gx_iload C 2 d_Floor_hasEscape_38 rfl ?_
  refine gx_istore C (lv' := [(8, .int (gx_gA x 15 (a2 : Int32).toNatClampNeg)), (7, .int (gx_gA x 3 (a2 : Int32).toNatClampNeg)), (6, .int (gx_gA x 2 (a2 : Int32).toNatClampNeg)), (5, .int (gx_gA x 15 (a2 : Int32).toNatClampNeg)), (4, .int (gx_gA x 14 (a2 : Int32).toNatClampNeg)), (0, .ref (gx_ad E 15)), (1, .ref (gx_ad E 19)), (2, .int a2), (3, .int a3)]) d_Floor_hasEscape_40 (by decide) rfl ?_
  refine gx_lv (lv' := [(0, .ref (gx_ad E 15)), (3, .int a3), (4, .int (gx_gA x 14 (a2 : Int32).toNatClampNeg)), (5, .int (gx_gA x 15 (a2 : Int32).toNatClampNeg)), (6, .int (gx_gA x 2 (a2 : Int32).toNatClampNeg)), (7, .int (gx_gA x 3 (a2 : Int32).toNatClampNeg)), (8, .int (gx_gA x 15 (a2 : Int32).toNatClampNeg))]) [5, 8, 4, 3, 2, 1, 0] rfl ?_
  obtain ⟨e10, he10, hf⟩ := gx_bl_some hf
  refine (gx_loop (P := pp_Floor_hasEscape_42 K E a3 (gx_gA x 14 (a2 : Int32).toNatClampNeg) (gx_gA x 15 (a2 : Int32).toNatClampNeg) (gx_gA x 2 (a2 : Int32).toNatClampNeg) (gx_gA x 3 (a2 : Int32).toNatClampNeg)) (Q := pq_Floor_hasEscape_42 K E a3 (gx_gA x 14 (a2 : Int32).toNatClampNeg) (gx_gA x 15 (a2 : Int32).toNatClampNeg) (gx_gA x 2 (a2 : Int32).toNatClampNeg) (gx_gA x 3 (a2 : Int32).toNatClampNeg)) (fun a9 o9 h1 h2 => sc_Floor_hasEscape_42 C hR hr hlk a3 (gx_gA x 14 (a2 : Int32).toNatClampNeg) (gx_gA x 15 (a2 : Int32).toNatClampNeg) (gx_gA x 2 (a2 : Int32).toNatClampNeg) (gx_gA x 3 (a2 : Int32).toNatClampNeg) a9 o9 h1 h2) gx_fuel (gx_gA x 15 (a2 : Int32).toNatClampNeg, x) e10 he10 ?_ : pp_Floor_hasEscape_42 K E a3 (gx_gA x 14 (a2 : Int32).toNatClampNeg) (gx_gA x 15 (a2 : Int32).toNatClampNeg) (gx_gA x 2 (a2 : Int32).toNatClampNeg) (gx_gA x 3 (a2 : Int32).toNatClampNeg) (gx_gA x 15 (a2 : Int32).toNatClampNeg, x))
  unfold pq_Floor_hasEscape_42
  by_cases ht11 : e10.1 = 0
  · rw [if_pos ht11]
    have hf := (if_pos ht11).symm.trans hf
    refine gx_iconst C (v := 1) d_Floor_hasEscape_81 (by decide) ?_
    cases hf
    exact gx_zret C hr hlk hk (by decide) d_Floor_hasEscape_82
  · rw [if_neg ht11]
    have hf := (if_neg ht11).symm.trans hf
    refine gx_iload C 2 d_Floor_hasEscape_89 rfl ?_
    refine gx_istore C (lv' := [(8, .int (gx_gA x 14 (a2 : Int32).toNatClampNeg)), (0, .ref (gx_ad E 15)), (3, .int a3), (4, .int (gx_gA x 14 (a2 : Int32).toNatClampNeg)), (5, .int (gx_gA x 15 (a2 : Int32).toNatClampNeg)), (6, .int (gx_gA x 2 (a2 : Int32).toNatClampNeg)), (7, .int (gx_gA x 3 (a2 : Int32).toNatClampNeg))]) d_Floor_hasEscape_91 (by decide) rfl ?_
    refine gx_lv (lv' := [(0, .ref (gx_ad E 15)), (3, .int a3), (4, .int (gx_gA x 14 (a2 : Int32).toNatClampNeg)), (5, .int (gx_gA x 15 (a2 : Int32).toNatClampNeg)), (6, .int (gx_gA x 2 (a2 : Int32).toNatClampNeg)), (7, .int (gx_gA x 3 (a2 : Int32).toNatClampNeg)), (8, .int (gx_gA x 14 (a2 : Int32).toNatClampNeg))]) [1, 2, 3, 4, 5, 6, 0] rfl ?_
    obtain ⟨e17, he17, hf⟩ := gx_bl_some hf
    refine (gx_loop (P := pp_Floor_hasEscape_93 K E a3 (gx_gA x 14 (a2 : Int32).toNatClampNeg) (gx_gA x 15 (a2 : Int32).toNatClampNeg) (gx_gA x 2 (a2 : Int32).toNatClampNeg) (gx_gA x 3 (a2 : Int32).toNatClampNeg)) (Q := pq_Floor_hasEscape_93 K E a3 (gx_gA x 14 (a2 : Int32).toNatClampNeg) (gx_gA x 15 (a2 : Int32).toNatClampNeg) (gx_gA x 2 (a2 : Int32).toNatClampNeg) (gx_gA x 3 (a2 : Int32).toNatClampNeg)) (fun a9 o9 h1 h2 => sc_Floor_hasEscape_93 C hR hr hlk a3 (gx_gA x 14 (a2 : Int32).toNatClampNeg) (gx_gA x 15 (a2 : Int32).toNatClampNeg) (gx_gA x 2 (a2 : Int32).toNatClampNeg) (gx_gA x 3 (a2 : Int32).toNatClampNeg) a9 o9 h1 h2) gx_fuel (gx_gA x 14 (a2 : Int32).toNatClampNeg, e10.2.2) e17 he17 ?_ : pp_Floor_hasEscape_93 K E a3 (gx_gA x 14 (a2 : Int32).toNatClampNeg) (gx_gA x 15 (a2 : Int32).toNatClampNeg) (gx_gA x 2 (a2 : Int32).toNatClampNeg) (gx_gA x 3 (a2 : Int32).toNatClampNeg) (gx_gA x 14 (a2 : Int32).toNatClampNeg, e10.2.2))
    unfold pq_Floor_hasEscape_93
    by_cases ht18 : e17.1 = 0
    · rw [if_pos ht18]
      have hf := (if_pos ht18).symm.trans hf
      refine gx_iconst C (v := 1) d_Floor_hasEscape_132 (by decide) ?_
      cases hf
      exact gx_zret C hr hlk hk (by decide) d_Floor_hasEscape_133
    · rw [if_neg ht18]
      have hf := (if_neg ht18).symm.trans hf
      refine gx_iconst C (v := 0) d_Floor_hasEscape_140 (by decide) ?_
      cases hf
      exact gx_zret C hr hlk hk (by decide) d_Floor_hasEscape_141

def s_Search_allEscape_25  (a : Int32 × gx_S) : Option ((Int32 × gx_S) ⊕ (Nat × Int32 × gx_S)) :=
  if (gx_gI a.2 3) ≤ a.1 then (some (.inr (1, a.1, a.2))) else (gx_bd (f_Floor_hasEscape a.1 (gx_gI a.2 6) a.2) (fun r4 x4 => if r4 = 0 then (some (.inr (0, a.1, x4))) else (some (.inl (a.1 + 1, x4)))))
def f_Search_allEscape  (x : gx_S) : Option (Int32 × gx_S) :=
  if (gx_gI x 5) = 0 then (some (1, x)) else (gx_bd (f_Floor_measure  x) (fun r2 x2 => gx_bl (gx_it (s_Search_allEscape_25 ) gx_fuel (0, x2)) (fun e6 => if e6.1 = 0 then (some (0, e6.2.2)) else (some (1, e6.2.2)))))
abbrev rm_Search_allEscape : Room := { frames := 3, cells := 0, slots := 0, locals := 74 }
def pp_Search_allEscape_25 (K : gx_K) (E : gx_E)  (a : Int32 × gx_S) : Prop := gx_G K E (gx_AB true E K.s.heap.size) 0 0 (a.2) 25 [(0, .ref (gx_ad E 25)), (1, .int a.1)] []
def pq_Search_allEscape_25 (K : gx_K) (E : gx_E)  (b : Nat × Int32 × gx_S) : Prop := if b.1 = 0 then gx_G K E (gx_AB true E K.s.heap.size) 0 0 (b.2.2) 58 [] [] else (gx_G K E (gx_AB true E K.s.heap.size) 0 0 (b.2.2) 66 [] [])
set_option maxHeartbeats 4000000 in
set_option maxRecDepth 100000 in
theorem sc_Search_allEscape_25 {K : gx_K} {E : gx_E} (C : gx_C K E "CaseLayout$Search" prog_7_method_11_code 2) (hR : K.R = rm_Search_allEscape) (hr : K.meth.sig.returnType = (some .boolean)) (hlk : K.meth.locks = false)  (a : Int32 × gx_S) (o : (Int32 × gx_S) ⊕ (Nat × Int32 × gx_S)) (hf : s_Search_allEscape_25  a = some o) (hk : gx_or (pp_Search_allEscape_25 K E ) (pq_Search_allEscape_25 K E ) o) : pp_Search_allEscape_25 K E  a := by
  unfold s_Search_allEscape_25 at hf
  unfold pp_Search_allEscape_25
  refine gx_iload_n C 1 d_Search_allEscape_25 rfl rfl ?_
  refine gx_aload_n C 0 d_Search_allEscape_26 rfl rfl ?_
  refine gx_get C iw_Search 25 (gx_w25 E _) rfl 1 (by decide) gw_207 rfl rfl d_Search_allEscape_27 ?_
  refine gx_getN C iw_Things 3 (gx_w3 E _) rfl 5 (by decide) gn_91 rfl rfl d_Search_allEscape_30 ?_
  refine gx_icmp_ge (tgt := 66) C d_Search_allEscape_33 (by decide) (fun h3 => ?_) (fun h3 => ?_)
  · have hf := (if_pos h3).symm.trans hf
    cases hf
    have hk : pq_Search_allEscape_25 K E  _ := hk
    unfold pq_Search_allEscape_25 at hk
    have hk := gx_ifn (by decide : ¬ ((1 : Nat) = 0)) hk
    refine gx_lv (lv' := []) [] rfl ?_
    exact hk
  · have hf := (if_neg h3).symm.trans hf
    refine gx_aload_n C 0 d_Search_allEscape_36 rfl rfl ?_
    refine gx_get C iw_Search 25 (gx_w25 E _) rfl 4 (by decide) gw_210 rfl rfl d_Search_allEscape_37 ?_
    refine gx_aload_n C 0 d_Search_allEscape_40 rfl rfl ?_
    refine gx_get C iw_Search 25 (gx_w25 E _) rfl 5 (by decide) gw_211 rfl rfl d_Search_allEscape_41 ?_
    refine gx_iload_n C 1 d_Search_allEscape_44 rfl rfl ?_
    refine gx_aload_n C 0 d_Search_allEscape_45 rfl rfl ?_
    refine gx_get C iw_Search 25 (gx_w25 E _) rfl 3 (by decide) gw_209 rfl rfl d_Search_allEscape_46 ?_
    refine gx_getN C iw_Exits 13 (gx_w13 E _) rfl 2 (by decide) gn_146 rfl rfl d_Search_allEscape_49 ?_
    obtain ⟨r4, x4, hc4, hf⟩ := gx_bd_some hf
    refine gx_cVi (n2 := 0) (k2 := 0) C (As := [.ref (gx_ad E 19), .int a.1, .int (gx_gI a.2 6)]) (rest := []) 15 3 (c_Floor_hasEscape K.l a.1 (gx_gI a.2 6) a.2 _ hc4) (Or.inl rfl) rfl (gx_goodV gw_590 gw_591 gw_592 gw_7 gw_593) (by decide +kernel) (gx_w15 E _) rfl (by rw [hR]; decide) rfl rfl (Nat.le_of_ble_eq_true rfl) d_Search_allEscape_52 (by rw [hR]; decide) rfl rfl ?_
    refine gx_if_ne (tgt := 60) C d_Search_allEscape_55 (by decide) (fun h5 => ?_) (fun h5 => ?_)
    · have hf := (if_neg h5).symm.trans hf
      refine gx_iinc C (v := a.1 + 1) (lv' := [(1, .int (a.1 + 1)), (0, .ref (gx_ad E 25))]) 1 d_Search_allEscape_60 rfl rfl (by decide) rfl ?_
      refine gx_goto (tgt := 25) C d_Search_allEscape_63 (by decide) ?_
      cases hf
      refine gx_lv (lv' := [(0, .ref (gx_ad E 25)), (1, .int (a.1 + 1))]) [1, 0] rfl ?_
      exact hk
    · have hf := (if_pos h5).symm.trans hf
      cases hf
      have hk : pq_Search_allEscape_25 K E  _ := hk
      unfold pq_Search_allEscape_25 at hk
      have hk := gx_ifp (rfl : (0 : Nat) = 0) hk
      refine gx_lv (lv' := []) [] rfl ?_
      exact hk
set_option maxHeartbeats 4000000 in
set_option maxRecDepth 100000 in
theorem c_Search_allEscape (l : Launch)  (x : gx_S) (o : Int32 × gx_S) (hf : f_Search_allEscape  x = some o) : gx_Mi true l y_Search_allEscape prog_7_method_11_code 2 (some .boolean) rm_Search_allEscape (fun E => [.ref (gx_ad E 25)]) x o.1 o.2 := by
  refine gx_meti (own := "CaseLayout$Search") (by decide) rfl (fun E => Nat.le_of_ble_eq_true rfl) (fun K E hl0 hR hr hlk hk C => ?_)
  subst hl0
  unfold f_Search_allEscape at hf
  show gx_G K E _ 0 0 x 0 [(0, .ref (gx_ad E 25))] []
  refine gx_aload_n C 0 d_Search_allEscape_0 rfl rfl ?_
  refine gx_get C iw_Search 25 (gx_w25 E _) rfl 3 (by decide) gw_209 rfl rfl d_Search_allEscape_1 ?_
  refine gx_getN C iw_Exits 13 (gx_w13 E _) rfl 1 (by decide) gn_143 rfl rfl d_Search_allEscape_4 ?_
  refine gx_if_ne (tgt := 12) C d_Search_allEscape_7 (by decide) (fun h1 => ?_) (fun h1 => ?_)
  · have hf := (if_neg h1).symm.trans hf
    refine gx_aload_n C 0 d_Search_allEscape_12 rfl rfl ?_
    refine gx_get C iw_Search 25 (gx_w25 E _) rfl 4 (by decide) gw_210 rfl rfl d_Search_allEscape_13 ?_
    refine gx_aload_n C 0 d_Search_allEscape_16 rfl rfl ?_
    refine gx_get C iw_Search 25 (gx_w25 E _) rfl 3 (by decide) gw_209 rfl rfl d_Search_allEscape_17 ?_
    obtain ⟨r2, x2, hc2, hf⟩ := gx_bd_some hf
    refine gx_cVv (n2 := 0) (k2 := 0) C (As := [.ref (gx_ad E 13)]) (rest := []) 15 1 (c_Floor_measure K.l  x _ hc2) (Or.inl rfl) rfl (gx_goodV gw_579 gw_580 gw_581 gw_7 gw_582) (by decide +kernel) (gx_w15 E _) rfl (by rw [hR]; decide) rfl rfl (Nat.le_of_ble_eq_true rfl) d_Search_allEscape_20 (by rw [hR]; decide) rfl rfl ?_
    refine gx_iconst C (v := 0) d_Search_allEscape_23 (by decide) ?_
    refine gx_istore_n C (lv' := [(1, .int 0), (0, .ref (gx_ad E 25))]) d_Search_allEscape_24 rfl (by decide) rfl ?_
    refine gx_lv (lv' := [(0, .ref (gx_ad E 25)), (1, .int 0)]) [1, 0] rfl ?_
    obtain ⟨e6, he6, hf⟩ := gx_bl_some hf
    refine (gx_loop (P := pp_Search_allEscape_25 K E ) (Q := pq_Search_allEscape_25 K E ) (fun a9 o9 h1 h2 => sc_Search_allEscape_25 C hR hr hlk  a9 o9 h1 h2) gx_fuel (0, x2) e6 he6 ?_ : pp_Search_allEscape_25 K E  (0, x2))
    unfold pq_Search_allEscape_25
    by_cases ht7 : e6.1 = 0
    · rw [if_pos ht7]
      have hf := (if_pos ht7).symm.trans hf
      refine gx_iconst C (v := 0) d_Search_allEscape_58 (by decide) ?_
      cases hf
      exact gx_zret C hr hlk hk (by decide) d_Search_allEscape_59
    · rw [if_neg ht7]
      have hf := (if_neg ht7).symm.trans hf
      refine gx_iconst C (v := 1) d_Search_allEscape_66 (by decide) ?_
      cases hf
      exact gx_zret C hr hlk hk (by decide) d_Search_allEscape_67
  · have hf := (if_pos h1).symm.trans hf
    refine gx_iconst C (v := 1) d_Search_allEscape_10 (by decide) ?_
    cases hf
    exact gx_zret C hr hlk hk (by decide) d_Search_allEscape_11

def f_Layout_copyFrom  (x : gx_S) : Option (Int32 × gx_S) :=
  some (0, gx_sF (gx_sF x 16 (va_cpy (gx_gA x 14) (gx_gA x 16) (0 : Int32).toNatClampNeg (0 : Int32).toNatClampNeg (7 : Int32).toNatClampNeg)) 17 (va_cpy (gx_gA (gx_sF x 16 (va_cpy (gx_gA x 14) (gx_gA x 16) (0 : Int32).toNatClampNeg (0 : Int32).toNatClampNeg (7 : Int32).toNatClampNeg)) 15) (gx_gA (gx_sF x 16 (va_cpy (gx_gA x 14) (gx_gA x 16) (0 : Int32).toNatClampNeg (0 : Int32).toNatClampNeg (7 : Int32).toNatClampNeg)) 17) (0 : Int32).toNatClampNeg (0 : Int32).toNatClampNeg (7 : Int32).toNatClampNeg))
abbrev rm_Layout_copyFrom : Room := { frames := 1, cells := 0, slots := 0, locals := 64 }
set_option maxHeartbeats 4000000 in
set_option maxRecDepth 100000 in
theorem c_Layout_copyFrom (l : Launch)  (x : gx_S) (o : Int32 × gx_S) (hf : f_Layout_copyFrom  x = some o) : gx_Mv true l y_Layout_copyFrom prog_5_method_3_code 2 rm_Layout_copyFrom (fun E => [.ref (gx_ad E 22), .ref (gx_ad E 19)]) x o.2 := by
  refine gx_metv (own := "CaseLayout$Layout") (by decide) rfl (fun E => Nat.le_of_ble_eq_true rfl) (fun K E hl0 hR hr hlk hk C => ?_)
  subst hl0
  unfold f_Layout_copyFrom at hf
  show gx_G K E _ 0 0 x 0 [(0, .ref (gx_ad E 22)), (1, .ref (gx_ad E 19))] []
  refine gx_aload_n C 1 d_Layout_copyFrom_0 rfl rfl ?_
  refine gx_get C iw_Layout 19 (gx_w19 E _) rfl 1 (by decide) gw_191 rfl rfl d_Layout_copyFrom_1 ?_
  refine gx_iconst C (v := 0) d_Layout_copyFrom_4 (by decide) ?_
  refine gx_aload_n C 0 d_Layout_copyFrom_5 rfl rfl ?_
  refine gx_get C iw_Layout 22 (gx_w22 E _) rfl 1 (by decide) gw_191 rfl rfl d_Layout_copyFrom_6 ?_
  refine gx_iconst C (v := 0) d_Layout_copyFrom_9 (by decide) ?_
  refine gx_bipush C (v := 7) d_Layout_copyFrom_10 (by decide) ?_
  refine gx_copy C (x' := gx_sF x 16 (va_cpy (gx_gA x 14) (gx_gA x 16) (0 : Int32).toNatClampNeg (0 : Int32).toNatClampNeg (7 : Int32).toNatClampNeg)) gw_602 gw_604 gw_603 gw_18 20 23 (gx_w20 E _) (gx_w23 E _) rfl rfl (by decide) (by decide) (by decide) (by decide) (by decide) (gx_c23 E _ _) (by rw [hR]; decide) (by rw [hR]; exact Nat.le_of_ble_eq_true rfl) d_Layout_copyFrom_12 ?_
  refine gx_aload_n C 1 d_Layout_copyFrom_15 rfl rfl ?_
  refine gx_get C iw_Layout 19 (gx_w19 E _) rfl 2 (by decide) gw_195 rfl rfl d_Layout_copyFrom_16 ?_
  refine gx_iconst C (v := 0) d_Layout_copyFrom_19 (by decide) ?_
  refine gx_aload_n C 0 d_Layout_copyFrom_20 rfl rfl ?_
  refine gx_get C iw_Layout 22 (gx_w22 E _) rfl 2 (by decide) gw_195 rfl rfl d_Layout_copyFrom_21 ?_
  refine gx_iconst C (v := 0) d_Layout_copyFrom_24 (by decide) ?_
  refine gx_bipush C (v := 7) d_Layout_copyFrom_25 (by decide) ?_
  refine gx_copy C (x' := gx_sF (gx_sF x 16 (va_cpy (gx_gA x 14) (gx_gA x 16) (0 : Int32).toNatClampNeg (0 : Int32).toNatClampNeg (7 : Int32).toNatClampNeg)) 17 (va_cpy (gx_gA (gx_sF x 16 (va_cpy (gx_gA x 14) (gx_gA x 16) (0 : Int32).toNatClampNeg (0 : Int32).toNatClampNeg (7 : Int32).toNatClampNeg)) 15) (gx_gA (gx_sF x 16 (va_cpy (gx_gA x 14) (gx_gA x 16) (0 : Int32).toNatClampNeg (0 : Int32).toNatClampNeg (7 : Int32).toNatClampNeg)) 17) (0 : Int32).toNatClampNeg (0 : Int32).toNatClampNeg (7 : Int32).toNatClampNeg)) gw_602 gw_604 gw_603 gw_18 21 24 (gx_w21 E _) (gx_w24 E _) rfl rfl (by decide) (by decide) (by decide) (by decide) (by decide) (gx_c24 E _ _) (by rw [hR]; decide) (by rw [hR]; exact Nat.le_of_ble_eq_true rfl) d_Layout_copyFrom_27 ?_
  cases hf
  exact gx_vret C hr hlk hk d_Layout_copyFrom_30
