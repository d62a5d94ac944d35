def j_CaseLayout_needWithin_10  (x : gx_S) : Option (Nat × Int32 × gx_S) :=
  some (3, 0, x)
def f_CaseLayout_needWithin (a0 : Int32) (a1 : Int32) (a2 : Int32) (x : gx_S) : Option (Nat × Int32 × gx_S) :=
  if a0 < a1 then (j_CaseLayout_needWithin_10   x) else (if a0 ≤ a2 then (some (0, 0, x)) else (j_CaseLayout_needWithin_10   x))
abbrev rm_CaseLayout_needWithin : Room := { frames := 6, cells := 1, slots := 6, locals := 82 }
set_option maxHeartbeats 4000000 in
set_option maxRecDepth 100000 in
theorem jc_CaseLayout_needWithin_10 {K : gx_K} {E : gx_E} (C : gx_C K E "CaseLayout" prog_1_method_23_code 3) (hR : K.R = rm_CaseLayout_needWithin) (hr : K.meth.sig.returnType = none) (hlk : K.meth.locks = false) (hlt : K.l.stackTraces = false) (hnh : K.c.exceptionTable.isEmpty = true) (hLT : gx_LT E K.s.heap.size)  (x : gx_S) (o : Nat × Int32 × gx_S) (hf : j_CaseLayout_needWithin_10  x = some o) (hk : ∀ t, gx_MQX K.below (gx_QX E (gx_AB false E K.s.heap.size) none o.1 o.2.2) K.args K.s 1 6 (gx_AB false E K.s.heap.size) t → K.Q t) : gx_G K E (gx_AB false E K.s.heap.size) 0 0 x 10 [] [] := by
  unfold j_CaseLayout_needWithin_10 at hf
  cases hf
  exact gx_throw (w := false) (j := 3) (tx := "out of range") (names := ["java/lang/RuntimeException", "java/lang/Exception"]) C (by decide) hLT hlt hnh hlk gw_391 gw_392 gw_15 (by decide +kernel) (ga_CaseLayout_126 C) (by decide +kernel) (by decide +kernel) d_CaseLayout_needWithin_10 d_CaseLayout_needWithin_13 d_CaseLayout_needWithin_14 d_CaseLayout_needWithin_16 d_CaseLayout_needWithin_19 (by rw [hR]; decide) (by rw [hR]; exact Nat.le_of_ble_eq_true rfl) (by rw [hR]; decide) (by rw [hR]; decide) hk
set_option maxHeartbeats 4000000 in
set_option maxRecDepth 100000 in
theorem c_CaseLayout_needWithin (l : Launch) (hlt : l.stackTraces = false) (a0 : Int32) (a1 : Int32) (a2 : Int32) (x : gx_S) (o : Nat × Int32 × gx_S) (hf : f_CaseLayout_needWithin a0 a1 a2 x = some o) : gx_MX false l y_CaseLayout_needWithin prog_1_method_23_code 3 none rm_CaseLayout_needWithin (fun E => [.int a0, .int a1, .int a2]) x none o.1 o.2.2 := by
  refine gx_metX (own := "CaseLayout") (by decide) rfl (fun E => Nat.le_of_ble_eq_true rfl) (fun K E hl0 hR hr hlk hnh hLT hk C => ?_)
  subst hl0
  unfold f_CaseLayout_needWithin at hf
  show gx_G K E (gx_AB false E K.s.heap.size) 0 0 x 0 [(0, .int a0), (1, .int a1), (2, .int a2)] []
  refine gx_iload_n C 0 d_CaseLayout_needWithin_0 rfl rfl ?_
  refine gx_iload_n C 1 d_CaseLayout_needWithin_1 rfl rfl ?_
  refine gx_icmp_lt (tgt := 10) C d_CaseLayout_needWithin_2 (by decide) (fun h1 => ?_) (fun h1 => ?_)
  · have hf := (if_pos h1).symm.trans hf
    refine gx_lv (lv' := []) [] rfl ?_
    exact jc_CaseLayout_needWithin_10 C hR hr hlk hlt hnh hLT   x _ hf hk
  · have hf := (if_neg h1).symm.trans hf
    refine gx_iload_n C 0 d_CaseLayout_needWithin_5 rfl rfl ?_
    refine gx_iload_n C 2 d_CaseLayout_needWithin_6 rfl rfl ?_
    refine gx_icmp_le (tgt := 20) C d_CaseLayout_needWithin_7 (by decide) (fun h2 => ?_) (fun h2 => ?_)
    · have hf := (if_pos h2).symm.trans hf
      cases hf
      refine gx_widen (n' := 1) (k' := 6) (by decide) (by decide) ?_
      exact gx_vretX C hr hlk hk d_CaseLayout_needWithin_20
    · have hf := (if_neg h2).symm.trans hf
      refine gx_lv (lv' := []) [] rfl ?_
      exact jc_CaseLayout_needWithin_10 C hR hr hlk hlt hnh hLT   x _ hf hk

def f_CaseLayout_zone (a1 : Int32) (a2 : Int32) (a3 : Int32) (x : gx_S) : Option (Nat × Int32 × gx_S) :=
  gx_bx (f_CaseLayout_needCell a1 a2 x) (fun r1 x1 => gx_bx (f_CaseLayout_needWithin a3 0 3 x1) (fun r2 x2 => gx_bd (f_CaseLayout_cellOf a1 a2 x2) (fun r3 x3 => gx_ck r3 81 (gx_ck r3 81 (gx_bd (f_Search_forget  (gx_sA x3 1 (r3 : Int32).toNatClampNeg a3)) (fun r6 x6 => some (0, gx_gA x3 1 (r3 : Int32).toNatClampNeg, x6)))))))
abbrev rm_CaseLayout_zone : Room := { frames := 7, cells := 2, slots := 12, locals := 104 }
set_option maxHeartbeats 4000000 in
set_option maxRecDepth 100000 in
theorem c_CaseLayout_zone (l : Launch) (hlt : l.stackTraces = false) (a1 : Int32) (a2 : Int32) (a3 : Int32) (x : gx_S) (o : Nat × Int32 × gx_S) (hf : f_CaseLayout_zone a1 a2 a3 x = some o) : gx_MX true l y_CaseLayout_zone prog_1_method_3_code 6 (some .int) rm_CaseLayout_zone (fun E => [.ref (gx_ad E 28), .int a1, .int a2, .int a3]) x (some (.int o.2.1)) o.1 o.2.2 := by
  refine gx_metX (own := "CaseLayout") (by decide) rfl (fun E => Nat.le_of_ble_eq_true rfl) (fun K E hl0 hR hr hlk hnh hLT hk C => ?_)
  subst hl0
  unfold f_CaseLayout_zone at hf
  show gx_G K E (gx_AB false E K.s.heap.size) 0 0 x 0 [(0, .ref (gx_ad E 28)), (1, .int a1), (2, .int a2), (3, .int a3)] []
  refine gx_aload_n C 0 d_CaseLayout_zone_0 rfl rfl ?_
  refine gx_iload_n C 1 d_CaseLayout_zone_1 rfl rfl ?_
  refine gx_iload_n C 2 d_CaseLayout_zone_2 rfl rfl ?_
  obtain ⟨j1, r1, x1, hc1, ⟨hq1, hf⟩ | ⟨hq1, hf⟩⟩ := gx_bx_some hf
  rotate_left
  · subst hf
    refine gx_cVx (n2 := 1) (k2 := 6) C hq1 (As := [.int a1, .int a2]) (rest := []) 28 2 (c_CaseLayout_needCell K.l hlt a1 a2 x _ hc1) (Or.inr rfl) rfl (gx_goodV gw_284 gw_286 gs_0 gw_1 gw_287) (by decide +kernel) (gx_w28 E _) rfl (by rw [hR]; decide) rfl rfl (Nat.le_of_ble_eq_true rfl) d_CaseLayout_zone_3 (by rw [hR]; decide) rfl rfl ?_
    refine gx_H.widen (n' := 2) (k' := 12) (by decide) (by decide) ?_
    refine gx_H.toF ?_
    exact gx_outX hq1 hnh hlk hk
  subst hq1
  refine gx_cVv (n2 := 1) (k2 := 6) C (As := [.int a1, .int a2]) (rest := []) 28 2 (c_CaseLayout_needCell K.l hlt a1 a2 x _ hc1).toV (Or.inr rfl) rfl (gx_goodV gw_284 gw_286 gs_0 gw_1 gw_287) (by decide +kernel) (gx_w28 E _) rfl (by rw [hR]; decide) rfl rfl (Nat.le_of_ble_eq_true rfl) d_CaseLayout_zone_3 (by rw [hR]; decide) rfl rfl ?_
  refine gx_iload_n C 3 d_CaseLayout_zone_6 rfl rfl ?_
  refine gx_iconst C (v := 0) d_CaseLayout_zone_7 (by decide) ?_
  refine gx_iconst C (v := 3) d_CaseLayout_zone_8 (by decide) ?_
  obtain ⟨j2, r2, x2, hc2, ⟨hq2, hf⟩ | ⟨hq2, hf⟩⟩ := gx_bx_some hf
  rotate_left
  · subst hf
    refine gx_cSx (n2 := 2) (k2 := 12) C hq2 (As := [.int a3, .int 0, .int 3]) (rest := []) 3 (c_CaseLayout_needWithin K.l hlt a3 0 3 x1 _ hc2) (Or.inr rfl) rfl (gx_goodS gw_388 gw_389 gw_1 gw_390) (by decide +kernel) (by rw [hR]; decide) rfl rfl (Nat.le_of_ble_eq_true rfl) d_CaseLayout_zone_9 (by rw [hR]; decide) rfl rfl ?_
    refine gx_H.toF ?_
    exact gx_outX hq2 hnh hlk hk
  subst hq2
  refine gx_cSv (n2 := 2) (k2 := 12) C (As := [.int a3, .int 0, .int 3]) (rest := []) 3 (c_CaseLayout_needWithin K.l hlt a3 0 3 x1 _ hc2).toV (Or.inr rfl) rfl (gx_goodS gw_388 gw_389 gw_1 gw_390) (by decide +kernel) (by rw [hR]; decide) rfl rfl (Nat.le_of_ble_eq_true rfl) d_CaseLayout_zone_9 (by rw [hR]; decide) rfl rfl ?_
  refine gx_iload_n C 1 d_CaseLayout_zone_12 rfl rfl ?_
  refine gx_iload_n C 2 d_CaseLayout_zone_13 rfl rfl ?_
  obtain ⟨r3, x3, hc3, hf⟩ := gx_bd_some hf
  refine gx_cSi (n2 := 2) (k2 := 12) C (As := [.int a1, .int a2]) (rest := []) 2 (c_CaseLayout_cellOf K.l a1 a2 x2 _ hc3) (Or.inr rfl) rfl (gx_goodS gw_360 gw_361 gw_1 gw_362) (by decide +kernel) (by rw [hR]; decide) rfl rfl (Nat.le_of_ble_eq_true rfl) d_CaseLayout_zone_14 (by rw [hR]; decide) rfl rfl ?_
  refine gx_istore C (lv' := [(4, .int r3), (0, .ref (gx_ad E 28)), (1, .int a1), (2, .int a2), (3, .int a3)]) d_CaseLayout_zone_17 (by decide) rfl ?_
  refine gx_aload_n C 1 d_CaseLayout_zone_19 rfl rfl ?_
  refine gx_get C iw_CaseLayout 28 (gx_w28 E _) rfl 0 (by decide) gw_246 rfl rfl d_CaseLayout_zone_20 ?_
  refine gx_getN C iw_Grid 0 (gx_w0 E _) rfl 3 (by decide) gn_50 rfl rfl d_CaseLayout_zone_23 ?_
  refine gx_iload C 0 d_CaseLayout_zone_26 rfl ?_
  obtain ⟨hi4, hf⟩ := gx_ck_some hf
  refine gx_iald C 2 0 (gx_w2 E _) rfl hi4 d_CaseLayout_zone_28 ?_
  refine gx_istore C (lv' := [(5, .int (gx_gA x3 1 (r3 : Int32).toNatClampNeg)), (4, .int r3), (0, .ref (gx_ad E 28)), (1, .int a1), (2, .int a2), (3, .int a3)]) d_CaseLayout_zone_29 (by decide) rfl ?_
  refine gx_aload_n C 2 d_CaseLayout_zone_31 rfl rfl ?_
  refine gx_get C iw_CaseLayout 28 (gx_w28 E _) rfl 0 (by decide) gw_246 rfl rfl d_CaseLayout_zone_32 ?_
  refine gx_getN C iw_Grid 0 (gx_w0 E _) rfl 3 (by decide) gn_50 rfl rfl d_CaseLayout_zone_35 ?_
  refine gx_iload C 1 d_CaseLayout_zone_38 rfl ?_
  refine gx_iload_n C 5 d_CaseLayout_zone_40 rfl rfl ?_
  refine gx_toF ?_
  obtain ⟨hi5, hf⟩ := gx_ck_some hf
  refine gx_iast C (x' := gx_sA x3 1 (r3 : Int32).toNatClampNeg a3) 2 0 (gx_w2 E _) rfl hi5 (gx_q2 E _ _ _) d_CaseLayout_zone_41 ?_
  refine gx_aload_n C 2 d_CaseLayout_zone_42 rfl rfl ?_
  refine gx_get C iw_CaseLayout 28 (gx_w28 E _) rfl 5 (by decide) gw_251 rfl rfl d_CaseLayout_zone_43 ?_
  obtain ⟨r6, x6, hc6, hf⟩ := gx_bd_some hf
  refine gx_cVv (n2 := 2) (k2 := 12) C (As := []) (rest := []) 25 0 (c_Search_forget K.l  (gx_sA x3 1 (r3 : Int32).toNatClampNeg a3) _ hc6) (Or.inl rfl) rfl (gx_goodV gw_376 gw_377 gw_378 gw_8 gw_379) (by decide +kernel) (gx_w25 E _) rfl (by rw [hR]; decide) rfl rfl (Nat.le_of_ble_eq_true rfl) d_CaseLayout_zone_46 (by rw [hR]; decide) rfl rfl ?_
  refine gx_iload C 0 d_CaseLayout_zone_49 rfl ?_
  cases hf
  exact gx_iretX C hr hlk hk d_CaseLayout_zone_51

def f_CaseLayout_thing (a1 : Int32) (a2 : Int32) (a3 : Int32) (x : gx_S) : Option (Nat × Int32 × gx_S) :=
  if (gx_gI x 3) < 7 then (gx_bx (f_CaseLayout_needWithin a1 1 4 x) (fun r2 x2 => gx_bx (f_CaseLayout_needWithin a2 1 4 x2) (fun r3 x3 => gx_bx (f_CaseLayout_needWithin a3 0 3 x3) (fun r4 x4 => gx_bd (f_Search_forget  x4) (fun r5 x5 => gx_bd (f_Things_add a1 a2 a3 x5) (fun r6 x6 => some (0, r6, x6))))))) else (some (2, 0, x))
abbrev rm_CaseLayout_thing : Room := { frames := 7, cells := 3, slots := 18, locals := 104 }
set_option maxHeartbeats 4000000 in
set_option maxRecDepth 100000 in
theorem c_CaseLayout_thing (l : Launch) (hlt : l.stackTraces = false) (a1 : Int32) (a2 : Int32) (a3 : Int32) (x : gx_S) (o : Nat × Int32 × gx_S) (hf : f_CaseLayout_thing a1 a2 a3 x = some o) : gx_MX true l y_CaseLayout_thing prog_1_method_4_code 4 (some .int) rm_CaseLayout_thing (fun E => [.ref (gx_ad E 28), .int a1, .int a2, .int a3]) x (some (.int o.2.1)) o.1 o.2.2 := by
  refine gx_metX (own := "CaseLayout") (by decide) rfl (fun E => Nat.le_of_ble_eq_true rfl) (fun K E hl0 hR hr hlk hnh hLT hk C => ?_)
  subst hl0
  unfold f_CaseLayout_thing at hf
  show gx_G K E (gx_AB false E K.s.heap.size) 0 0 x 0 [(0, .ref (gx_ad E 28)), (1, .int a1), (2, .int a2), (3, .int a3)] []
  refine gx_aload_n C 0 d_CaseLayout_thing_0 rfl rfl ?_
  refine gx_get C iw_CaseLayout 28 (gx_w28 E _) rfl 1 (by decide) gw_247 rfl rfl d_CaseLayout_thing_1 ?_
  refine gx_getN C iw_Things 3 (gx_w3 E _) rfl 5 (by decide) gn_90 rfl rfl d_CaseLayout_thing_4 ?_
  refine gx_bipush C (v := 7) d_CaseLayout_thing_7 (by decide) ?_
  refine gx_icmp_lt (tgt := 22) C d_CaseLayout_thing_9 (by decide) (fun h1 => ?_) (fun h1 => ?_)
  · have hf := (if_pos h1).symm.trans hf
    refine gx_iload_n C 1 d_CaseLayout_thing_22 rfl rfl ?_
    refine gx_iconst C (v := 1) d_CaseLayout_thing_23 (by decide) ?_
    refine gx_iconst C (v := 4) d_CaseLayout_thing_24 (by decide) ?_
    obtain ⟨j2, r2, x2, hc2, ⟨hq2, hf⟩ | ⟨hq2, hf⟩⟩ := gx_bx_some hf
    rotate_left
    · subst hf
      refine gx_cSx (n2 := 1) (k2 := 6) C hq2 (As := [.int a1, .int 1, .int 4]) (rest := []) 3 (c_CaseLayout_needWithin K.l hlt a1 1 4 x _ hc2) (Or.inr rfl) rfl (gx_goodS gw_388 gw_389 gw_1 gw_390) (by decide +kernel) (by rw [hR]; decide) rfl rfl (Nat.le_of_ble_eq_true rfl) d_CaseLayout_thing_25 (by rw [hR]; decide) rfl rfl ?_
      refine gx_H.widen (n' := 3) (k' := 18) (by decide) (by decide) ?_
      refine gx_H.toF ?_
      exact gx_outX hq2 hnh hlk hk
    subst hq2
    refine gx_cSv (n2 := 1) (k2 := 6) C (As := [.int a1, .int 1, .int 4]) (rest := []) 3 (c_CaseLayout_needWithin K.l hlt a1 1 4 x _ hc2).toV (Or.inr rfl) rfl (gx_goodS gw_388 gw_389 gw_1 gw_390) (by decide +kernel) (by rw [hR]; decide) rfl rfl (Nat.le_of_ble_eq_true rfl) d_CaseLayout_thing_25 (by rw [hR]; decide) rfl rfl ?_
    refine gx_iload_n C 2 d_CaseLayout_thing_28 rfl rfl ?_
    refine gx_iconst C (v := 1) d_CaseLayout_thing_29 (by decide) ?_
    refine gx_iconst C (v := 4) d_CaseLayout_thing_30 (by decide) ?_
    obtain ⟨j3, r3, x3, hc3, ⟨hq3, hf⟩ | ⟨hq3, hf⟩⟩ := gx_bx_some hf
    rotate_left
    · subst hf
      refine gx_cSx (n2 := 2) (k2 := 12) C hq3 (As := [.int a2, .int 1, .int 4]) (rest := []) 3 (c_CaseLayout_needWithin K.l hlt a2 1 4 x2 _ hc3) (Or.inr rfl) rfl (gx_goodS gw_388 gw_389 gw_1 gw_390) (by decide +kernel) (by rw [hR]; decide) rfl rfl (Nat.le_of_ble_eq_true rfl) d_CaseLayout_thing_31 (by rw [hR]; decide) rfl rfl ?_
      refine gx_H.widen (n' := 3) (k' := 18) (by decide) (by decide) ?_
      refine gx_H.toF ?_
      exact gx_outX hq3 hnh hlk hk
    subst hq3
    refine gx_cSv (n2 := 2) (k2 := 12) C (As := [.int a2, .int 1, .int 4]) (rest := []) 3 (c_CaseLayout_needWithin K.l hlt a2 1 4 x2 _ hc3).toV (Or.inr rfl) rfl (gx_goodS gw_388 gw_389 gw_1 gw_390) (by decide +kernel) (by rw [hR]; decide) rfl rfl (Nat.le_of_ble_eq_true rfl) d_CaseLayout_thing_31 (by rw [hR]; decide) rfl rfl ?_
    refine gx_iload_n C 3 d_CaseLayout_thing_34 rfl rfl ?_
    refine gx_iconst C (v := 0) d_CaseLayout_thing_35 (by decide) ?_
    refine gx_iconst C (v := 3) d_CaseLayout_thing_36 (by decide) ?_
    obtain ⟨j4, r4, x4, hc4, ⟨hq4, hf⟩ | ⟨hq4, hf⟩⟩ := gx_bx_some hf
    rotate_left
    · subst hf
      refine gx_cSx (n2 := 3) (k2 := 18) C hq4 (As := [.int a3, .int 0, .int 3]) (rest := []) 3 (c_CaseLayout_needWithin K.l hlt a3 0 3 x3 _ hc4) (Or.inr rfl) rfl (gx_goodS gw_388 gw_389 gw_1 gw_390) (by decide +kernel) (by rw [hR]; decide) rfl rfl (Nat.le_of_ble_eq_true rfl) d_CaseLayout_thing_37 (by rw [hR]; decide) rfl rfl ?_
      refine gx_H.toF ?_
      exact gx_outX hq4 hnh hlk hk
    subst hq4
    refine gx_cSv (n2 := 3) (k2 := 18) C (As := [.int a3, .int 0, .int 3]) (rest := []) 3 (c_CaseLayout_needWithin K.l hlt a3 0 3 x3 _ hc4).toV (Or.inr rfl) rfl (gx_goodS gw_388 gw_389 gw_1 gw_390) (by decide +kernel) (by rw [hR]; decide) rfl rfl (Nat.le_of_ble_eq_true rfl) d_CaseLayout_thing_37 (by rw [hR]; decide) rfl rfl ?_
    refine gx_aload_n C 0 d_CaseLayout_thing_40 rfl rfl ?_
    refine gx_get C iw_CaseLayout 28 (gx_w28 E _) rfl 5 (by decide) gw_251 rfl rfl d_CaseLayout_thing_41 ?_
    refine gx_toF ?_
    obtain ⟨r5, x5, hc5, hf⟩ := gx_bd_some hf
    refine gx_cVv (n2 := 3) (k2 := 18) C (As := []) (rest := []) 25 0 (c_Search_forget K.l  x4 _ hc5) (Or.inl rfl) rfl (gx_goodV gw_376 gw_377 gw_378 gw_8 gw_379) (by decide +kernel) (gx_w25 E _) rfl (by rw [hR]; decide) rfl rfl (Nat.le_of_ble_eq_true rfl) d_CaseLayout_thing_44 (by rw [hR]; decide) rfl rfl ?_
    refine gx_aload_n C 0 d_CaseLayout_thing_47 rfl rfl ?_
    refine gx_get C iw_CaseLayout 28 (gx_w28 E _) rfl 1 (by decide) gw_247 rfl rfl d_CaseLayout_thing_48 ?_
    refine gx_iload_n C 1 d_CaseLayout_thing_51 rfl rfl ?_
    refine gx_iload_n C 2 d_CaseLayout_thing_52 rfl rfl ?_
    refine gx_iload_n C 3 d_CaseLayout_thing_53 rfl rfl ?_
    obtain ⟨r6, x6, hc6, hf⟩ := gx_bd_some hf
    refine gx_cVi (n2 := 3) (k2 := 18) C (As := [.int a1, .int a2, .int a3]) (rest := []) 3 3 (c_Things_add K.l a1 a2 a3 x5 _ hc6) (Or.inl rfl) rfl (gx_goodV gw_431 gw_432 gw_433 gw_4 gw_434) (by decide +kernel) (gx_w3 E _) rfl (by rw [hR]; decide) rfl rfl (Nat.le_of_ble_eq_true rfl) d_CaseLayout_thing_54 (by rw [hR]; decide) rfl rfl ?_
    cases hf
    exact gx_iretX C hr hlk hk d_CaseLayout_thing_57
  · have hf := (if_neg h1).symm.trans hf
    cases hf
    refine gx_widen (n' := 2) (k' := 12) (by decide) (by decide) ?_
    exact gx_throw (w := true) (j := 2) (tx := "there are seven things") (names := ["java/lang/RuntimeException", "java/lang/Exception"]) C (by decide) hLT hlt hnh hlk gw_415 gw_416 gw_16 (by decide +kernel) (ga_CaseLayout_100 C) (by decide +kernel) (by decide +kernel) d_CaseLayout_thing_12 d_CaseLayout_thing_15 d_CaseLayout_thing_16 d_CaseLayout_thing_18 d_CaseLayout_thing_21 (by rw [hR]; decide) (by rw [hR]; exact Nat.le_of_ble_eq_true rfl) (by rw [hR]; decide) (by rw [hR]; decide) hk

def j_CaseLayout_needThing_15  (x : gx_S) : Option (Nat × Int32 × gx_S) :=
  some (1, 0, x)
def f_CaseLayout_needThing (a1 : Int32) (x : gx_S) : Option (Nat × Int32 × gx_S) :=
  if a1 < 0 then (j_CaseLayout_needThing_15   x) else (if a1 < (gx_gI x 3) then (some (0, 0, x)) else (j_CaseLayout_needThing_15   x))
abbrev rm_CaseLayout_needThing : Room := { frames := 6, cells := 1, slots := 6, locals := 82 }
set_option maxHeartbeats 4000000 in
set_option maxRecDepth 100000 in
theorem jc_CaseLayout_needThing_15 {K : gx_K} {E : gx_E} (C : gx_C K E "CaseLayout" prog_1_method_19_code 2) (hR : K.R = rm_CaseLayout_needThing) (hr : K.meth.sig.returnType = none) (hlk : K.meth.locks = false) (hlt : K.l.stackTraces = false) (hnh : K.c.exceptionTable.isEmpty = true) (hLT : gx_LT E K.s.heap.size)  (x : gx_S) (o : Nat × Int32 × gx_S) (hf : j_CaseLayout_needThing_15  x = some o) (hk : ∀ t, gx_MQX K.below (gx_QX E (gx_AB false E K.s.heap.size) none o.1 o.2.2) K.args K.s 1 6 (gx_AB false E K.s.heap.size) t → K.Q t) : gx_G K E (gx_AB false E K.s.heap.size) 0 0 x 15 [] [] := by
  unfold j_CaseLayout_needThing_15 at hf
  cases hf
  exact gx_throw (w := false) (j := 1) (tx := "no such thing") (names := ["java/lang/RuntimeException", "java/lang/Exception"]) C (by decide) hLT hlt hnh hlk gw_292 gw_293 gw_14 (by decide +kernel) (ga_CaseLayout_171 C) (by decide +kernel) (by decide +kernel) d_CaseLayout_needThing_15 d_CaseLayout_needThing_18 d_CaseLayout_needThing_19 d_CaseLayout_needThing_21 d_CaseLayout_needThing_24 (by rw [hR]; decide) (by rw [hR]; exact Nat.le_of_ble_eq_true rfl) (by rw [hR]; decide) (by rw [hR]; decide) hk
set_option maxHeartbeats 4000000 in
set_option maxRecDepth 100000 in
theorem c_CaseLayout_needThing (l : Launch) (hlt : l.stackTraces = false) (a1 : Int32) (x : gx_S) (o : Nat × Int32 × gx_S) (hf : f_CaseLayout_needThing a1 x = some o) : gx_MX false l y_CaseLayout_needThing prog_1_method_19_code 2 none rm_CaseLayout_needThing (fun E => [.ref (gx_ad E 28), .int a1]) x none o.1 o.2.2 := by
  refine gx_metX (own := "CaseLayout") (by decide) rfl (fun E => Nat.le_of_ble_eq_true rfl) (fun K E hl0 hR hr hlk hnh hLT hk C => ?_)
  subst hl0
  unfold f_CaseLayout_needThing at hf
  show gx_G K E (gx_AB false E K.s.heap.size) 0 0 x 0 [(0, .ref (gx_ad E 28)), (1, .int a1)] []
  refine gx_iload_n C 1 d_CaseLayout_needThing_0 rfl rfl ?_
  refine gx_if_lt (tgt := 15) C d_CaseLayout_needThing_1 (by decide) (fun h1 => ?_) (fun h1 => ?_)
  · have hf := (if_pos h1).symm.trans hf
    refine gx_lv (lv' := []) [] rfl ?_
    exact jc_CaseLayout_needThing_15 C hR hr hlk hlt hnh hLT   x _ hf hk
  · have hf := (if_neg h1).symm.trans hf
    refine gx_iload_n C 1 d_CaseLayout_needThing_4 rfl rfl ?_
    refine gx_aload_n C 0 d_CaseLayout_needThing_5 rfl rfl ?_
    refine gx_get C iw_CaseLayout 28 (gx_w28 E _) rfl 1 (by decide) gw_247 rfl rfl d_CaseLayout_needThing_6 ?_
    refine gx_getN C iw_Things 3 (gx_w3 E _) rfl 5 (by decide) gn_90 rfl rfl d_CaseLayout_needThing_9 ?_
    refine gx_icmp_lt (tgt := 25) C d_CaseLayout_needThing_12 (by decide) (fun h2 => ?_) (fun h2 => ?_)
    · have hf := (if_pos h2).symm.trans hf
      cases hf
      refine gx_widen (n' := 1) (k' := 6) (by decide) (by decide) ?_
      exact gx_vretX C hr hlk hk d_CaseLayout_needThing_25
    · have hf := (if_neg h2).symm.trans hf
      refine gx_lv (lv' := []) [] rfl ?_
      exact jc_CaseLayout_needThing_15 C hR hr hlk hlt hnh hLT   x _ hf hk

def f_CaseLayout_needPair (a1 : Int32) (a2 : Int32) (x : gx_S) : Option (Nat × Int32 × gx_S) :=
  gx_bx (f_CaseLayout_needThing a1 x) (fun r1 x1 => gx_bx (f_CaseLayout_needThing a2 x1) (fun r2 x2 => if a1 = a2 then (some (3, 0, x2)) else (some (0, 0, x2))))
abbrev rm_CaseLayout_needPair : Room := { frames := 7, cells := 3, slots := 18, locals := 103 }
set_option maxHeartbeats 4000000 in
set_option maxRecDepth 100000 in
theorem c_CaseLayout_needPair (l : Launch) (hlt : l.stackTraces = false) (a1 : Int32) (a2 : Int32) (x : gx_S) (o : Nat × Int32 × gx_S) (hf : f_CaseLayout_needPair a1 a2 x = some o) : gx_MX false l y_CaseLayout_needPair prog_1_method_21_code 3 none rm_CaseLayout_needPair (fun E => [.ref (gx_ad E 28), .int a1, .int a2]) x none o.1 o.2.2 := by
  refine gx_metX (own := "CaseLayout") (by decide) rfl (fun E => Nat.le_of_ble_eq_true rfl) (fun K E hl0 hR hr hlk hnh hLT hk C => ?_)
  subst hl0
  unfold f_CaseLayout_needPair at hf
  show gx_G K E (gx_AB false E K.s.heap.size) 0 0 x 0 [(0, .ref (gx_ad E 28)), (1, .int a1), (2, .int a2)] []
  refine gx_aload_n C 0 d_CaseLayout_needPair_0 rfl rfl ?_
  refine gx_iload_n C 1 d_CaseLayout_needPair_1 rfl rfl ?_
  obtain ⟨j1, r1, x1, hc1, ⟨hq1, hf⟩ | ⟨hq1, hf⟩⟩ := gx_bx_some hf
  rotate_left
  · subst hf
    refine gx_cVx (n2 := 1) (k2 := 6) C hq1 (As := [.int a1]) (rest := []) 28 1 (c_CaseLayout_needThing K.l hlt a1 x _ hc1) (Or.inr rfl) rfl (gx_goodV gw_446 gw_448 gs_3 gw_1 gw_449) (by decide +kernel) (gx_w28 E _) rfl (by rw [hR]; decide) rfl rfl (Nat.le_of_ble_eq_true rfl) d_CaseLayout_needPair_2 (by rw [hR]; decide) rfl rfl ?_
    refine gx_H.widen (n' := 3) (k' := 18) (by decide) (by decide) ?_
    exact gx_outX hq1 hnh hlk hk
  subst hq1
  refine gx_cVv (n2 := 1) (k2 := 6) C (As := [.int a1]) (rest := []) 28 1 (c_CaseLayout_needThing K.l hlt a1 x _ hc1).toV (Or.inr rfl) rfl (gx_goodV gw_446 gw_448 gs_3 gw_1 gw_449) (by decide +kernel) (gx_w28 E _) rfl (by rw [hR]; decide) rfl rfl (Nat.le_of_ble_eq_true rfl) d_CaseLayout_needPair_2 (by rw [hR]; decide) rfl rfl ?_
  refine gx_aload_n C 0 d_CaseLayout_needPair_5 rfl rfl ?_
  refine gx_iload_n C 2 d_CaseLayout_needPair_6 rfl rfl ?_
  obtain ⟨j2, r2, x2, hc2, ⟨hq2, hf⟩ | ⟨hq2, hf⟩⟩ := gx_bx_some hf
  rotate_left
  · subst hf
    refine gx_cVx (n2 := 2) (k2 := 12) C hq2 (As := [.int a2]) (rest := []) 28 1 (c_CaseLayout_needThing K.l hlt a2 x1 _ hc2) (Or.inr rfl) rfl (gx_goodV gw_446 gw_448 gs_3 gw_1 gw_449) (by decide +kernel) (gx_w28 E _) rfl (by rw [hR]; decide) rfl rfl (Nat.le_of_ble_eq_true rfl) d_CaseLayout_needPair_7 (by rw [hR]; decide) rfl rfl ?_
    refine gx_H.widen (n' := 3) (k' := 18) (by decide) (by decide) ?_
    exact gx_outX hq2 hnh hlk hk
  subst hq2
  refine gx_cVv (n2 := 2) (k2 := 12) C (As := [.int a2]) (rest := []) 28 1 (c_CaseLayout_needThing K.l hlt a2 x1 _ hc2).toV (Or.inr rfl) rfl (gx_goodV gw_446 gw_448 gs_3 gw_1 gw_449) (by decide +kernel) (gx_w28 E _) rfl (by rw [hR]; decide) rfl rfl (Nat.le_of_ble_eq_true rfl) d_CaseLayout_needPair_7 (by rw [hR]; decide) rfl rfl ?_
  refine gx_iload_n C 1 d_CaseLayout_needPair_10 rfl rfl ?_
  refine gx_iload_n C 2 d_CaseLayout_needPair_11 rfl rfl ?_
  refine gx_icmp_ne (tgt := 25) C d_CaseLayout_needPair_12 (by decide) (fun h3 => ?_) (fun h3 => ?_)
  · have hf := (if_neg h3).symm.trans hf
    cases hf
    refine gx_widen (n' := 3) (k' := 18) (by decide) (by decide) ?_
    exact gx_vretX C hr hlk hk d_CaseLayout_needPair_25
  · have hf := (if_pos h3).symm.trans hf
    cases hf
    exact gx_throw (w := false) (j := 3) (tx := "a thing and itself are no pair") (names := ["java/lang/RuntimeException", "java/lang/Exception"]) C (by decide) hLT hlt hnh hlk gw_391 gw_392 gw_15 (by decide +kernel) (ga_CaseLayout_126 C) (by decide +kernel) (by decide +kernel) d_CaseLayout_needPair_15 d_CaseLayout_needPair_18 d_CaseLayout_needPair_19 d_CaseLayout_needPair_21 d_CaseLayout_needPair_24 (by rw [hR]; decide) (by rw [hR]; exact Nat.le_of_ble_eq_true rfl) (by rw [hR]; decide) (by rw [hR]; decide) hk

def f_CaseLayout_apart (a1 : Int32) (a2 : Int32) (a3 : Int32) (x : gx_S) : Option (Nat × Int32 × gx_S) :=
  gx_bx (f_CaseLayout_needPair a1 a2 x) (fun r1 x1 => gx_bx (f_CaseLayout_needWithin a3 0 5 x1) (fun r2 x2 => gx_bd (f_Search_forget  x2) (fun r3 x3 => gx_bd (f_CaseLayout_setBoth a1 a2 a3 x3) (fun r4 x4 => some (0, r4, x4)))))
abbrev rm_CaseLayout_apart : Room := { frames := 8, cells := 4, slots := 24, locals := 125 }
set_option maxHeartbeats 4000000 in
set_option maxRecDepth 100000 in
theorem c_CaseLayout_apart (l : Launch) (hlt : l.stackTraces = false) (a1 : Int32) (a2 : Int32) (a3 : Int32) (x : gx_S) (o : Nat × Int32 × gx_S) (hf : f_CaseLayout_apart a1 a2 a3 x = some o) : gx_MX true l y_CaseLayout_apart prog_1_method_5_code 4 (some .int) rm_CaseLayout_apart (fun E => [.ref (gx_ad E 28), .int a1, .int a2, .int a3]) x (some (.int o.2.1)) o.1 o.2.2 := by
  refine gx_metX (own := "CaseLayout") (by decide) rfl (fun E => Nat.le_of_ble_eq_true rfl) (fun K E hl0 hR hr hlk hnh hLT hk C => ?_)
  subst hl0
  unfold f_CaseLayout_apart at hf
  show gx_G K E (gx_AB false E K.s.heap.size) 0 0 x 0 [(0, .ref (gx_ad E 28)), (1, .int a1), (2, .int a2), (3, .int a3)] []
  refine gx_aload_n C 0 d_CaseLayout_apart_0 rfl rfl ?_
  refine gx_iload_n C 1 d_CaseLayout_apart_1 rfl rfl ?_
  refine gx_iload_n C 2 d_CaseLayout_apart_2 rfl rfl ?_
  obtain ⟨j1, r1, x1, hc1, ⟨hq1, hf⟩ | ⟨hq1, hf⟩⟩ := gx_bx_some hf
  rotate_left
  · subst hf
    refine gx_cVx (n2 := 3) (k2 := 18) C hq1 (As := [.int a1, .int a2]) (rest := []) 28 2 (c_CaseLayout_needPair K.l hlt a1 a2 x _ hc1) (Or.inr rfl) rfl (gx_goodV gw_442 gw_444 gs_2 gw_1 gw_445) (by decide +kernel) (gx_w28 E _) rfl (by rw [hR]; decide) rfl rfl (Nat.le_of_ble_eq_true rfl) d_CaseLayout_apart_3 (by rw [hR]; decide) rfl rfl ?_
    refine gx_H.widen (n' := 4) (k' := 24) (by decide) (by decide) ?_
    refine gx_H.toF ?_
    exact gx_outX hq1 hnh hlk hk
  subst hq1
  refine gx_cVv (n2 := 3) (k2 := 18) C (As := [.int a1, .int a2]) (rest := []) 28 2 (c_CaseLayout_needPair K.l hlt a1 a2 x _ hc1).toV (Or.inr rfl) rfl (gx_goodV gw_442 gw_444 gs_2 gw_1 gw_445) (by decide +kernel) (gx_w28 E _) rfl (by rw [hR]; decide) rfl rfl (Nat.le_of_ble_eq_true rfl) d_CaseLayout_apart_3 (by rw [hR]; decide) rfl rfl ?_
  refine gx_iload_n C 3 d_CaseLayout_apart_6 rfl rfl ?_
  refine gx_iconst C (v := 0) d_CaseLayout_apart_7 (by decide) ?_
  refine gx_iconst C (v := 5) d_CaseLayout_apart_8 (by decide) ?_
  obtain ⟨j2, r2, x2, hc2, ⟨hq2, hf⟩ | ⟨hq2, hf⟩⟩ := gx_bx_some hf
  rotate_left
  · subst hf
    refine gx_cSx (n2 := 4) (k2 := 24) C hq2 (As := [.int a3, .int 0, .int 5]) (rest := []) 3 (c_CaseLayout_needWithin K.l hlt a3 0 5 x1 _ hc2) (Or.inr rfl) rfl (gx_goodS gw_388 gw_389 gw_1 gw_390) (by decide +kernel) (by rw [hR]; decide) rfl rfl (Nat.le_of_ble_eq_true rfl) d_CaseLayout_apart_9 (by rw [hR]; decide) rfl rfl ?_
    refine gx_H.toF ?_
    exact gx_outX hq2 hnh hlk hk
  subst hq2
  refine gx_cSv (n2 := 4) (k2 := 24) C (As := [.int a3, .int 0, .int 5]) (rest := []) 3 (c_CaseLayout_needWithin K.l hlt a3 0 5 x1 _ hc2).toV (Or.inr rfl) rfl (gx_goodS gw_388 gw_389 gw_1 gw_390) (by decide +kernel) (by rw [hR]; decide) rfl rfl (Nat.le_of_ble_eq_true rfl) d_CaseLayout_apart_9 (by rw [hR]; decide) rfl rfl ?_
  refine gx_aload_n C 0 d_CaseLayout_apart_12 rfl rfl ?_
  refine gx_get C iw_CaseLayout 28 (gx_w28 E _) rfl 5 (by decide) gw_251 rfl rfl d_CaseLayout_apart_13 ?_
  refine gx_toF ?_
  obtain ⟨r3, x3, hc3, hf⟩ := gx_bd_some hf
  refine gx_cVv (n2 := 4) (k2 := 24) C (As := []) (rest := []) 25 0 (c_Search_forget K.l  x2 _ hc3) (Or.inl rfl) rfl (gx_goodV gw_376 gw_377 gw_378 gw_8 gw_379) (by decide +kernel) (gx_w25 E _) rfl (by rw [hR]; decide) rfl rfl (Nat.le_of_ble_eq_true rfl) d_CaseLayout_apart_16 (by rw [hR]; decide) rfl rfl ?_
  refine gx_aload_n C 0 d_CaseLayout_apart_19 rfl rfl ?_
  refine gx_get C iw_CaseLayout 28 (gx_w28 E _) rfl 1 (by decide) gw_247 rfl rfl d_CaseLayout_apart_20 ?_
  refine gx_getN C iw_Things 3 (gx_w3 E _) rfl 3 (by decide) gn_83 rfl rfl d_CaseLayout_apart_23 ?_
  refine gx_iload_n C 1 d_CaseLayout_apart_26 rfl rfl ?_
  refine gx_iload_n C 2 d_CaseLayout_apart_27 rfl rfl ?_
  refine gx_iload_n C 3 d_CaseLayout_apart_28 rfl rfl ?_
  obtain ⟨r4, x4, hc4, hf⟩ := gx_bd_some hf
  refine gx_cSi (n2 := 4) (k2 := 24) C (As := [.ref (gx_ad E 7), .int a1, .int a2, .int a3]) (rest := []) 4 (c_CaseLayout_setBoth K.l a1 a2 a3 x3 _ hc4) (Or.inl rfl) rfl (gx_goodS gw_452 gw_453 gw_1 gw_454) (by decide +kernel) (by rw [hR]; decide) rfl rfl (Nat.le_of_ble_eq_true rfl) d_CaseLayout_apart_29 (by rw [hR]; decide) rfl rfl ?_
  cases hf
  exact gx_iretX C hr hlk hk d_CaseLayout_apart_32

def f_CaseLayout_wish (a1 : Int32) (a2 : Int32) (a3 : Int32) (x : gx_S) : Option (Nat × Int32 × gx_S) :=
  gx_bx (f_CaseLayout_needPair a1 a2 x) (fun r1 x1 => gx_bx (f_CaseLayout_needWithin a3 0 99 x1) (fun r2 x2 => gx_bd (f_Search_forget  x2) (fun r3 x3 => gx_bd (f_CaseLayout_setBoth_2 a1 a2 a3 x3) (fun r4 x4 => some (0, r4, x4)))))
abbrev rm_CaseLayout_wish : Room := { frames := 8, cells := 4, slots := 24, locals := 125 }
set_option maxHeartbeats 4000000 in
set_option maxRecDepth 100000 in
theorem c_CaseLayout_wish (l : Launch) (hlt : l.stackTraces = false) (a1 : Int32) (a2 : Int32) (a3 : Int32) (x : gx_S) (o : Nat × Int32 × gx_S) (hf : f_CaseLayout_wish a1 a2 a3 x = some o) : gx_MX true l y_CaseLayout_wish prog_1_method_6_code 4 (some .int) rm_CaseLayout_wish (fun E => [.ref (gx_ad E 28), .int a1, .int a2, .int a3]) x (some (.int o.2.1)) o.1 o.2.2 := by
  refine gx_metX (own := "CaseLayout") (by decide) rfl (fun E => Nat.le_of_ble_eq_true rfl) (fun K E hl0 hR hr hlk hnh hLT hk C => ?_)
  subst hl0
  unfold f_CaseLayout_wish at hf
  show gx_G K E (gx_AB false E K.s.heap.size) 0 0 x 0 [(0, .ref (gx_ad E 28)), (1, .int a1), (2, .int a2), (3, .int a3)] []
  refine gx_aload_n C 0 d_CaseLayout_wish_0 rfl rfl ?_
  refine gx_iload_n C 1 d_CaseLayout_wish_1 rfl rfl ?_
  refine gx_iload_n C 2 d_CaseLayout_wish_2 rfl rfl ?_
  obtain ⟨j1, r1, x1, hc1, ⟨hq1, hf⟩ | ⟨hq1, hf⟩⟩ := gx_bx_some hf
  rotate_left
  · subst hf
    refine gx_cVx (n2 := 3) (k2 := 18) C hq1 (As := [.int a1, .int a2]) (rest := []) 28 2 (c_CaseLayout_needPair K.l hlt a1 a2 x _ hc1) (Or.inr rfl) rfl (gx_goodV gw_442 gw_444 gs_2 gw_1 gw_445) (by decide +kernel) (gx_w28 E _) rfl (by rw [hR]; decide) rfl rfl (Nat.le_of_ble_eq_true rfl) d_CaseLayout_wish_3 (by rw [hR]; decide) rfl rfl ?_
    refine gx_H.widen (n' := 4) (k' := 24) (by decide) (by decide) ?_
    refine gx_H.toF ?_
    exact gx_outX hq1 hnh hlk hk
  subst hq1
  refine gx_cVv (n2 := 3) (k2 := 18) C (As := [.int a1, .int a2]) (rest := []) 28 2 (c_CaseLayout_needPair K.l hlt a1 a2 x _ hc1).toV (Or.inr rfl) rfl (gx_goodV gw_442 gw_444 gs_2 gw_1 gw_445) (by decide +kernel) (gx_w28 E _) rfl (by rw [hR]; decide) rfl rfl (Nat.le_of_ble_eq_true rfl) d_CaseLayout_wish_3 (by rw [hR]; decide) rfl rfl ?_
  refine gx_iload_n C 3 d_CaseLayout_wish_6 rfl rfl ?_
  refine gx_iconst C (v := 0) d_CaseLayout_wish_7 (by decide) ?_
  refine gx_bipush C (v := 99) d_CaseLayout_wish_8 (by decide) ?_
  obtain ⟨j2, r2, x2, hc2, ⟨hq2, hf⟩ | ⟨hq2, hf⟩⟩ := gx_bx_some hf
  rotate_left
  · subst hf
    refine gx_cSx (n2 := 4) (k2 := 24) C hq2 (As := [.int a3, .int 0, .int 99]) (rest := []) 3 (c_CaseLayout_needWithin K.l hlt a3 0 99 x1 _ hc2) (Or.inr rfl) rfl (gx_goodS gw_388 gw_389 gw_1 gw_390) (by decide +kernel) (by rw [hR]; decide) rfl rfl (Nat.le_of_ble_eq_true rfl) d_CaseLayout_wish_10 (by rw [hR]; decide) rfl rfl ?_
    refine gx_H.toF ?_
    exact gx_outX hq2 hnh hlk hk
  subst hq2
  refine gx_cSv (n2 := 4) (k2 := 24) C (As := [.int a3, .int 0, .int 99]) (rest := []) 3 (c_CaseLayout_needWithin K.l hlt a3 0 99 x1 _ hc2).toV (Or.inr rfl) rfl (gx_goodS gw_388 gw_389 gw_1 gw_390) (by decide +kernel) (by rw [hR]; decide) rfl rfl (Nat.le_of_ble_eq_true rfl) d_CaseLayout_wish_10 (by rw [hR]; decide) rfl rfl ?_
  refine gx_aload_n C 0 d_CaseLayout_wish_13 rfl rfl ?_
  refine gx_get C iw_CaseLayout 28 (gx_w28 E _) rfl 5 (by decide) gw_251 rfl rfl d_CaseLayout_wish_14 ?_
  refine gx_toF ?_
  obtain ⟨r3, x3, hc3, hf⟩ := gx_bd_some hf
  refine gx_cVv (n2 := 4) (k2 := 24) C (As := []) (rest := []) 25 0 (c_Search_forget K.l  x2 _ hc3) (Or.inl rfl) rfl (gx_goodV gw_376 gw_377 gw_378 gw_8 gw_379) (by decide +kernel) (gx_w25 E _) rfl (by rw [hR]; decide) rfl rfl (Nat.le_of_ble_eq_true rfl) d_CaseLayout_wish_17 (by rw [hR]; decide) rfl rfl ?_
  refine gx_aload_n C 0 d_CaseLayout_wish_20 rfl rfl ?_
  refine gx_get C iw_CaseLayout 28 (gx_w28 E _) rfl 1 (by decide) gw_247 rfl rfl d_CaseLayout_wish_21 ?_
  refine gx_getN C iw_Things 3 (gx_w3 E _) rfl 4 (by decide) gn_86 rfl rfl d_CaseLayout_wish_24 ?_
  refine gx_iload_n C 1 d_CaseLayout_wish_27 rfl rfl ?_
  refine gx_iload_n C 2 d_CaseLayout_wish_28 rfl rfl ?_
  refine gx_iload_n C 3 d_CaseLayout_wish_29 rfl rfl ?_
  obtain ⟨r4, x4, hc4, hf⟩ := gx_bd_some hf
  refine gx_cSi (n2 := 4) (k2 := 24) C (As := [.ref (gx_ad E 8), .int a1, .int a2, .int a3]) (rest := []) 4 (c_CaseLayout_setBoth_2 K.l a1 a2 a3 x3 _ hc4) (Or.inl rfl) rfl (gx_goodS gw_452 gw_453 gw_1 gw_454) (by decide +kernel) (by rw [hR]; decide) rfl rfl (Nat.le_of_ble_eq_true rfl) d_CaseLayout_wish_30 (by rw [hR]; decide) rfl rfl ?_
  cases hf
  exact gx_iretX C hr hlk hk d_CaseLayout_wish_33

def f_CaseLayout_place (a1 : Int32) (a2 : Int32) (x : gx_S) : Option (Nat × Int32 × gx_S) :=
  gx_bx (f_CaseLayout_needCell a1 a2 x) (fun r1 x1 => if (gx_gI x1 4) < 8 then (gx_bd (f_CaseLayout_cellOf a1 a2 x1) (fun r3 x3 => gx_ck r3 81 (if (gx_gA x3 0 (r3 : Int32).toNatClampNeg) = 0 then (gx_bd (f_Places_add a1 a2 x3) (fun r6 x6 => some (0, r6, x6))) else (some (3, 0, x3))))) else (some (2, 0, x1)))
abbrev rm_CaseLayout_place : Room := { frames := 7, cells := 2, slots := 12, locals := 104 }
set_option maxHeartbeats 4000000 in
set_option maxRecDepth 100000 in
theorem c_CaseLayout_place (l : Launch) (hlt : l.stackTraces = false) (a1 : Int32) (a2 : Int32) (x : gx_S) (o : Nat × Int32 × gx_S) (hf : f_CaseLayout_place a1 a2 x = some o) : gx_MX true l y_CaseLayout_place prog_1_method_7_code 3 (some .int) rm_CaseLayout_place (fun E => [.ref (gx_ad E 28), .int a1, .int a2]) x (some (.int o.2.1)) o.1 o.2.2 := by
  refine gx_metX (own := "CaseLayout") (by decide) rfl (fun E => Nat.le_of_ble_eq_true rfl) (fun K E hl0 hR hr hlk hnh hLT hk C => ?_)
  subst hl0
  unfold f_CaseLayout_place at hf
  show gx_G K E (gx_AB false E K.s.heap.size) 0 0 x 0 [(0, .ref (gx_ad E 28)), (1, .int a1), (2, .int a2)] []
  refine gx_aload_n C 0 d_CaseLayout_place_0 rfl rfl ?_
  refine gx_iload_n C 1 d_CaseLayout_place_1 rfl rfl ?_
  refine gx_iload_n C 2 d_CaseLayout_place_2 rfl rfl ?_
  obtain ⟨j1, r1, x1, hc1, ⟨hq1, hf⟩ | ⟨hq1, hf⟩⟩ := gx_bx_some hf
  rotate_left
  · subst hf
    refine gx_cVx (n2 := 1) (k2 := 6) C hq1 (As := [.int a1, .int a2]) (rest := []) 28 2 (c_CaseLayout_needCell K.l hlt a1 a2 x _ hc1) (Or.inr rfl) rfl (gx_goodV gw_284 gw_286 gs_0 gw_1 gw_287) (by decide +kernel) (gx_w28 E _) rfl (by rw [hR]; decide) rfl rfl (Nat.le_of_ble_eq_true rfl) d_CaseLayout_place_3 (by rw [hR]; decide) rfl rfl ?_
    refine gx_H.widen (n' := 2) (k' := 12) (by decide) (by decide) ?_
    refine gx_H.toF ?_
    exact gx_outX hq1 hnh hlk hk
  subst hq1
  refine gx_cVv (n2 := 1) (k2 := 6) C (As := [.int a1, .int a2]) (rest := []) 28 2 (c_CaseLayout_needCell K.l hlt a1 a2 x _ hc1).toV (Or.inr rfl) rfl (gx_goodV gw_284 gw_286 gs_0 gw_1 gw_287) (by decide +kernel) (gx_w28 E _) rfl (by rw [hR]; decide) rfl rfl (Nat.le_of_ble_eq_true rfl) d_CaseLayout_place_3 (by rw [hR]; decide) rfl rfl ?_
  refine gx_aload_n C 0 d_CaseLayout_place_6 rfl rfl ?_
  refine gx_get C iw_CaseLayout 28 (gx_w28 E _) rfl 2 (by decide) gw_248 rfl rfl d_CaseLayout_place_7 ?_
  refine gx_getN C iw_Places 9 (gx_w9 E _) rfl 3 (by decide) gn_121 rfl rfl d_CaseLayout_place_10 ?_
  refine gx_bipush C (v := 8) d_CaseLayout_place_13 (by decide) ?_
  refine gx_icmp_lt (tgt := 28) C d_CaseLayout_place_15 (by decide) (fun h2 => ?_) (fun h2 => ?_)
  · have hf := (if_pos h2).symm.trans hf
    refine gx_aload_n C 0 d_CaseLayout_place_28 rfl rfl ?_
    refine gx_get C iw_CaseLayout 28 (gx_w28 E _) rfl 0 (by decide) gw_246 rfl rfl d_CaseLayout_place_29 ?_
    refine gx_getN C iw_Grid 0 (gx_w0 E _) rfl 2 (by decide) gn_47 rfl rfl d_CaseLayout_place_32 ?_
    refine gx_iload_n C 1 d_CaseLayout_place_35 rfl rfl ?_
    refine gx_iload_n C 2 d_CaseLayout_place_36 rfl rfl ?_
    obtain ⟨r3, x3, hc3, hf⟩ := gx_bd_some hf
    refine gx_cSi (n2 := 1) (k2 := 6) C (As := [.int a1, .int a2]) (rest := [.ref (gx_ad E 1)]) 2 (c_CaseLayout_cellOf K.l a1 a2 x1 _ hc3) (Or.inr rfl) rfl (gx_goodS gw_360 gw_361 gw_1 gw_362) (by decide +kernel) (by rw [hR]; decide) rfl rfl (Nat.le_of_ble_eq_true rfl) d_CaseLayout_place_37 (by rw [hR]; decide) rfl rfl ?_
    obtain ⟨hi4, hf⟩ := gx_ck_some hf
    refine gx_zald C 1 1 (gx_w1 E _) rfl hi4 d_CaseLayout_place_40 ?_
    refine gx_if_eq (tgt := 54) C d_CaseLayout_place_41 (by decide) (fun h5 => ?_) (fun h5 => ?_)
    · have hf := (if_pos h5).symm.trans hf
      refine gx_aload_n C 0 d_CaseLayout_place_54 rfl rfl ?_
      refine gx_get C iw_CaseLayout 28 (gx_w28 E _) rfl 2 (by decide) gw_248 rfl rfl d_CaseLayout_place_55 ?_
      refine gx_iload_n C 1 d_CaseLayout_place_58 rfl rfl ?_
      refine gx_iload_n C 2 d_CaseLayout_place_59 rfl rfl ?_
      refine gx_toF ?_
      obtain ⟨r6, x6, hc6, hf⟩ := gx_bd_some hf
      refine gx_cVi (n2 := 1) (k2 := 6) C (As := [.int a1, .int a2]) (rest := []) 9 2 (c_Places_add K.l a1 a2 x3 _ hc6) (Or.inl rfl) rfl (gx_goodV gw_474 gw_475 gw_476 gw_5 gw_477) (by decide +kernel) (gx_w9 E _) rfl (by rw [hR]; decide) rfl rfl (Nat.le_of_ble_eq_true rfl) d_CaseLayout_place_60 (by rw [hR]; decide) rfl rfl ?_
      cases hf
      refine gx_widen (n' := 2) (k' := 12) (by decide) (by decide) ?_
      exact gx_iretX C hr hlk hk d_CaseLayout_place_63
    · have hf := (if_neg h5).symm.trans hf
      cases hf
      exact gx_throw (w := true) (j := 3) (tx := "the cell is a wall") (names := ["java/lang/RuntimeException", "java/lang/Exception"]) C (by decide) hLT hlt hnh hlk gw_391 gw_392 gw_15 (by decide +kernel) (ga_CaseLayout_126 C) (by decide +kernel) (by decide +kernel) d_CaseLayout_place_44 d_CaseLayout_place_47 d_CaseLayout_place_48 d_CaseLayout_place_50 d_CaseLayout_place_53 (by rw [hR]; decide) (by rw [hR]; exact Nat.le_of_ble_eq_true rfl) (by rw [hR]; decide) (by rw [hR]; decide) hk
  · have hf := (if_neg h2).symm.trans hf
    cases hf
    exact gx_throw (w := true) (j := 2) (tx := "there are eight places") (names := ["java/lang/RuntimeException", "java/lang/Exception"]) C (by decide) hLT hlt hnh hlk gw_415 gw_416 gw_16 (by decide +kernel) (ga_CaseLayout_100 C) (by decide +kernel) (by decide +kernel) d_CaseLayout_place_18 d_CaseLayout_place_21 d_CaseLayout_place_22 d_CaseLayout_place_24 d_CaseLayout_place_27 (by rw [hR]; decide) (by rw [hR]; exact Nat.le_of_ble_eq_true rfl) (by rw [hR]; decide) (by rw [hR]; decide) hk

def j_CaseLayout_needPlace_15  (x : gx_S) : Option (Nat × Int32 × gx_S) :=
  some (1, 0, x)
def f_CaseLayout_needPlace (a1 : Int32) (x : gx_S) : Option (Nat × Int32 × gx_S) :=
  if a1 < 0 then (j_CaseLayout_needPlace_15   x) else (if a1 < (gx_gI x 4) then (some (0, 0, x)) else (j_CaseLayout_needPlace_15   x))
abbrev rm_CaseLayout_needPlace : Room := { frames := 6, cells := 1, slots := 6, locals := 82 }
set_option maxHeartbeats 4000000 in
set_option maxRecDepth 100000 in
theorem jc_CaseLayout_needPlace_15 {K : gx_K} {E : gx_E} (C : gx_C K E "CaseLayout" prog_1_method_20_code 2) (hR : K.R = rm_CaseLayout_needPlace) (hr : K.meth.sig.returnType = none) (hlk : K.meth.locks = false) (hlt : K.l.stackTraces = false) (hnh : K.c.exceptionTable.isEmpty = true) (hLT : gx_LT E K.s.heap.size)  (x : gx_S) (o : Nat × Int32 × gx_S) (hf : j_CaseLayout_needPlace_15  x = some o) (hk : ∀ t, gx_MQX K.below (gx_QX E (gx_AB false E K.s.heap.size) none o.1 o.2.2) K.args K.s 1 6 (gx_AB false E K.s.heap.size) t → K.Q t) : gx_G K E (gx_AB false E K.s.heap.size) 0 0 x 15 [] [] := by
  unfold j_CaseLayout_needPlace_15 at hf
  cases hf
  exact gx_throw (w := false) (j := 1) (tx := "no such place") (names := ["java/lang/RuntimeException", "java/lang/Exception"]) C (by decide) hLT hlt hnh hlk gw_292 gw_293 gw_14 (by decide +kernel) (ga_CaseLayout_171 C) (by decide +kernel) (by decide +kernel) d_CaseLayout_needPlace_15 d_CaseLayout_needPlace_18 d_CaseLayout_needPlace_19 d_CaseLayout_needPlace_21 d_CaseLayout_needPlace_24 (by rw [hR]; decide) (by rw [hR]; exact Nat.le_of_ble_eq_true rfl) (by rw [hR]; decide) (by rw [hR]; decide) hk
set_option maxHeartbeats 4000000 in
set_option maxRecDepth 100000 in
theorem c_CaseLayout_needPlace (l : Launch) (hlt : l.stackTraces = false) (a1 : Int32) (x : gx_S) (o : Nat × Int32 × gx_S) (hf : f_CaseLayout_needPlace a1 x = some o) : gx_MX false l y_CaseLayout_needPlace prog_1_method_20_code 2 none rm_CaseLayout_needPlace (fun E => [.ref (gx_ad E 28), .int a1]) x none o.1 o.2.2 := by
  refine gx_metX (own := "CaseLayout") (by decide) rfl (fun E => Nat.le_of_ble_eq_true rfl) (fun K E hl0 hR hr hlk hnh hLT hk C => ?_)
  subst hl0
  unfold f_CaseLayout_needPlace at hf
  show gx_G K E (gx_AB false E K.s.heap.size) 0 0 x 0 [(0, .ref (gx_ad E 28)), (1, .int a1)] []
  refine gx_iload_n C 1 d_CaseLayout_needPlace_0 rfl rfl ?_
  refine gx_if_lt (tgt := 15) C d_CaseLayout_needPlace_1 (by decide) (fun h1 => ?_) (fun h1 => ?_)
  · have hf := (if_pos h1).symm.trans hf
    refine gx_lv (lv' := []) [] rfl ?_
    exact jc_CaseLayout_needPlace_15 C hR hr hlk hlt hnh hLT   x _ hf hk
  · have hf := (if_neg h1).symm.trans hf
    refine gx_iload_n C 1 d_CaseLayout_needPlace_4 rfl rfl ?_
    refine gx_aload_n C 0 d_CaseLayout_needPlace_5 rfl rfl ?_
    refine gx_get C iw_CaseLayout 28 (gx_w28 E _) rfl 2 (by decide) gw_248 rfl rfl d_CaseLayout_needPlace_6 ?_
    refine gx_getN C iw_Places 9 (gx_w9 E _) rfl 3 (by decide) gn_121 rfl rfl d_CaseLayout_needPlace_9 ?_
    refine gx_icmp_lt (tgt := 25) C d_CaseLayout_needPlace_12 (by decide) (fun h2 => ?_) (fun h2 => ?_)
    · have hf := (if_pos h2).symm.trans hf
      cases hf
      refine gx_widen (n' := 1) (k' := 6) (by decide) (by decide) ?_
      exact gx_vretX C hr hlk hk d_CaseLayout_needPlace_25
    · have hf := (if_neg h2).symm.trans hf
      refine gx_lv (lv' := []) [] rfl ?_
      exact jc_CaseLayout_needPlace_15 C hR hr hlk hlt hnh hLT   x _ hf hk

def j_CaseLayout_sees_36 (v3 : Int32) (v4 : Int32) (w0 : Int32) (x : gx_S) : Option (Nat × Int32 × gx_S) :=
  gx_ck v4 56 (gx_bd (f_Search_forget  (gx_sA x 9 (v4 : Int32).toNatClampNeg (vp_nar .boolean v3))) (fun r7 x7 => gx_nb w0 (some (0, w0, x7))))
def f_CaseLayout_sees (a1 : Int32) (a2 : Int32) (a3 : Int32) (x : gx_S) : Option (Nat × Int32 × gx_S) :=
  gx_bx (f_CaseLayout_needPlace a1 x) (fun r1 x1 => gx_bx (f_CaseLayout_needThing a2 x1) (fun r2 x2 => gx_bd (f_CaseLayout_sightOf a1 a2 x2) (fun r3 x3 => gx_ck r3 56 (if (gx_gA x3 9 (r3 : Int32).toNatClampNeg) = a3 then (j_CaseLayout_sees_36 a3 r3 0 x3) else (j_CaseLayout_sees_36 a3 r3 1 x3)))))
abbrev rm_CaseLayout_sees : Room := { frames := 7, cells := 2, slots := 12, locals := 103 }
set_option maxHeartbeats 4000000 in
set_option maxRecDepth 100000 in
theorem jc_CaseLayout_sees_36 {K : gx_K} {E : gx_E} (C : gx_C K E "CaseLayout" prog_1_method_8_code 6) (hR : K.R = rm_CaseLayout_sees) (hr : K.meth.sig.returnType = (some .boolean)) (hlk : K.meth.locks = false) (hlt : K.l.stackTraces = false) (hnh : K.c.exceptionTable.isEmpty = true) (hLT : gx_LT E K.s.heap.size) (v3 : Int32) (v4 : Int32) (w0 : Int32) (x : gx_S) (o : Nat × Int32 × gx_S) (hf : j_CaseLayout_sees_36 v3 v4 w0 x = some o) (hk : ∀ t, gx_MQX K.below (gx_QX E (gx_AB true E K.s.heap.size) (some (.int o.2.1)) o.1 o.2.2) K.args K.s 2 12 (gx_AB true E K.s.heap.size) t → K.Q t) : gx_G K E (gx_AB false E K.s.heap.size) 2 12 x 36 [(0, .ref (gx_ad E 28)), (3, .int v3), (4, .int v4)] [.int w0] := by
  unfold j_CaseLayout_sees_36 at hf
  refine gx_istore C (lv' := [(5, .int w0), (0, .ref (gx_ad E 28)), (3, .int v3), (4, .int v4)]) d_CaseLayout_sees_36 (by decide) rfl ?_
  refine gx_aload_n C 1 d_CaseLayout_sees_38 rfl rfl ?_
  refine gx_get C iw_CaseLayout 28 (gx_w28 E _) rfl 2 (by decide) gw_248 rfl rfl d_CaseLayout_sees_39 ?_
  refine gx_getN C iw_Places 9 (gx_w9 E _) rfl 2 (by decide) gn_118 rfl rfl d_CaseLayout_sees_42 ?_
  refine gx_iload C 3 d_CaseLayout_sees_45 rfl ?_
  refine gx_iload_n C 2 d_CaseLayout_sees_47 rfl rfl ?_
  refine gx_toF ?_
  obtain ⟨hi6, hf⟩ := gx_ck_some hf
  refine gx_zast C (x' := gx_sA x 9 (v4 : Int32).toNatClampNeg (vp_nar .boolean v3)) 12 1 (gx_w12 E _) rfl hi6 (gx_q12 E _ _ _) d_CaseLayout_sees_48 ?_
  refine gx_aload_n C 1 d_CaseLayout_sees_49 rfl rfl ?_
  refine gx_get C iw_CaseLayout 28 (gx_w28 E _) rfl 5 (by decide) gw_251 rfl rfl d_CaseLayout_sees_50 ?_
  obtain ⟨r7, x7, hc7, hf⟩ := gx_bd_some hf
  refine gx_cVv (n2 := 2) (k2 := 12) C (As := []) (rest := []) 25 0 (c_Search_forget K.l  (gx_sA x 9 (v4 : Int32).toNatClampNeg (vp_nar .boolean v3)) _ hc7) (Or.inl rfl) rfl (gx_goodV gw_376 gw_377 gw_378 gw_8 gw_379) (by decide +kernel) (gx_w25 E _) rfl (by rw [hR]; decide) rfl rfl (Nat.le_of_ble_eq_true rfl) d_CaseLayout_sees_53 (by rw [hR]; decide) rfl rfl ?_
  refine gx_iload C 0 d_CaseLayout_sees_56 rfl ?_
  obtain ⟨hn8, hf⟩ := gx_nb_some hf
  cases hf
  exact gx_zretX C hr hlk hk hn8 d_CaseLayout_sees_58
set_option maxHeartbeats 4000000 in
set_option maxRecDepth 100000 in
theorem c_CaseLayout_sees (l : Launch) (hlt : l.stackTraces = false) (a1 : Int32) (a2 : Int32) (a3 : Int32) (x : gx_S) (o : Nat × Int32 × gx_S) (hf : f_CaseLayout_sees a1 a2 a3 x = some o) : gx_MX true l y_CaseLayout_sees prog_1_method_8_code 6 (some .boolean) rm_CaseLayout_sees (fun E => [.ref (gx_ad E 28), .int a1, .int a2, .int a3]) x (some (.int o.2.1)) o.1 o.2.2 := by
  refine gx_metX (own := "CaseLayout") (by decide) rfl (fun E => Nat.le_of_ble_eq_true rfl) (fun K E hl0 hR hr hlk hnh hLT hk C => ?_)
  subst hl0
  unfold f_CaseLayout_sees at hf
  show gx_G K E (gx_AB false E K.s.heap.size) 0 0 x 0 [(0, .ref (gx_ad E 28)), (1, .int a1), (2, .int a2), (3, .int a3)] []
  refine gx_aload_n C 0 d_CaseLayout_sees_0 rfl rfl ?_
  refine gx_iload_n C 1 d_CaseLayout_sees_1 rfl rfl ?_
  obtain ⟨j1, r1, x1, hc1, ⟨hq1, hf⟩ | ⟨hq1, hf⟩⟩ := gx_bx_some hf
  rotate_left
  · subst hf
    refine gx_cVx (n2 := 1) (k2 := 6) C hq1 (As := [.int a1]) (rest := []) 28 1 (c_CaseLayout_needPlace K.l hlt a1 x _ hc1) (Or.inr rfl) rfl (gx_goodV gw_485 gw_487 gs_4 gw_1 gw_488) (by decide +kernel) (gx_w28 E _) rfl (by rw [hR]; decide) rfl rfl (Nat.le_of_ble_eq_true rfl) d_CaseLayout_sees_2 (by rw [hR]; decide) rfl rfl ?_
    refine gx_H.widen (n' := 2) (k' := 12) (by decide) (by decide) ?_
    refine gx_H.toF ?_
    exact gx_outX hq1 hnh hlk hk
  subst hq1
  refine gx_cVv (n2 := 1) (k2 := 6) C (As := [.int a1]) (rest := []) 28 1 (c_CaseLayout_needPlace K.l hlt a1 x _ hc1).toV (Or.inr rfl) rfl (gx_goodV gw_485 gw_487 gs_4 gw_1 gw_488) (by decide +kernel) (gx_w28 E _) rfl (by rw [hR]; decide) rfl rfl (Nat.le_of_ble_eq_true rfl) d_CaseLayout_sees_2 (by rw [hR]; decide) rfl rfl ?_
  refine gx_aload_n C 0 d_CaseLayout_sees_5 rfl rfl ?_
  refine gx_iload_n C 2 d_CaseLayout_sees_6 rfl rfl ?_
  obtain ⟨j2, r2, x2, hc2, ⟨hq2, hf⟩ | ⟨hq2, hf⟩⟩ := gx_bx_some hf
  rotate_left
  · subst hf
    refine gx_cVx (n2 := 2) (k2 := 12) C hq2 (As := [.int a2]) (rest := []) 28 1 (c_CaseLayout_needThing K.l hlt a2 x1 _ hc2) (Or.inr rfl) rfl (gx_goodV gw_446 gw_448 gs_3 gw_1 gw_449) (by decide +kernel) (gx_w28 E _) rfl (by rw [hR]; decide) rfl rfl (Nat.le_of_ble_eq_true rfl) d_CaseLayout_sees_7 (by rw [hR]; decide) rfl rfl ?_
    refine gx_H.toF ?_
    exact gx_outX hq2 hnh hlk hk
  subst hq2
  refine gx_cVv (n2 := 2) (k2 := 12) C (As := [.int a2]) (rest := []) 28 1 (c_CaseLayout_needThing K.l hlt a2 x1 _ hc2).toV (Or.inr rfl) rfl (gx_goodV gw_446 gw_448 gs_3 gw_1 gw_449) (by decide +kernel) (gx_w28 E _) rfl (by rw [hR]; decide) rfl rfl (Nat.le_of_ble_eq_true rfl) d_CaseLayout_sees_7 (by rw [hR]; decide) rfl rfl ?_
  refine gx_iload_n C 1 d_CaseLayout_sees_10 rfl rfl ?_
  refine gx_iload_n C 2 d_CaseLayout_sees_11 rfl rfl ?_
  obtain ⟨r3, x3, hc3, hf⟩ := gx_bd_some hf
  refine gx_cSi (n2 := 2) (k2 := 12) C (As := [.int a1, .int a2]) (rest := []) 2 (c_CaseLayout_sightOf K.l a1 a2 x2 _ hc3) (Or.inr rfl) rfl (gx_goodS gw_490 gw_491 gw_1 gw_492) (by decide +kernel) (by rw [hR]; decide) rfl rfl (Nat.le_of_ble_eq_true rfl) d_CaseLayout_sees_12 (by rw [hR]; decide) rfl rfl ?_
  refine gx_istore C (lv' := [(4, .int r3), (0, .ref (gx_ad E 28)), (1, .int a1), (2, .int a2), (3, .int a3)]) d_CaseLayout_sees_15 (by decide) rfl ?_
  refine gx_aload_n C 1 d_CaseLayout_sees_17 rfl rfl ?_
  refine gx_get C iw_CaseLayout 28 (gx_w28 E _) rfl 2 (by decide) gw_248 rfl rfl d_CaseLayout_sees_18 ?_
  refine gx_getN C iw_Places 9 (gx_w9 E _) rfl 2 (by decide) gn_118 rfl rfl d_CaseLayout_sees_21 ?_
  refine gx_iload C 0 d_CaseLayout_sees_24 rfl ?_
  obtain ⟨hi4, hf⟩ := gx_ck_some hf
  refine gx_zald C 12 1 (gx_w12 E _) rfl hi4 d_CaseLayout_sees_26 ?_
  refine gx_iload_n C 4 d_CaseLayout_sees_27 rfl rfl ?_
  refine gx_icmp_eq (tgt := 35) C d_CaseLayout_sees_28 (by decide) (fun h5 => ?_) (fun h5 => ?_)
  · have hf := (if_pos h5).symm.trans hf
    refine gx_iconst C (v := 0) d_CaseLayout_sees_35 (by decide) ?_
    refine gx_lv (lv' := [(0, .ref (gx_ad E 28)), (3, .int a3), (4, .int r3)]) [1, 4, 0] rfl ?_
    exact jc_CaseLayout_sees_36 C hR hr hlk hlt hnh hLT a3 r3 0 x3 _ hf hk
  · have hf := (if_neg h5).symm.trans hf
    refine gx_iconst C (v := 1) d_CaseLayout_sees_31 (by decide) ?_
    refine gx_goto (tgt := 36) C d_CaseLayout_sees_32 (by decide) ?_
    refine gx_lv (lv' := [(0, .ref (gx_ad E 28)), (3, .int a3), (4, .int r3)]) [1, 4, 0] rfl ?_
    exact jc_CaseLayout_sees_36 C hR hr hlk hlt hnh hLT a3 r3 1 x3 _ hf hk

def j_CaseLayout_exit_57  (x : gx_S) : Option (Nat × Int32 × gx_S) :=
  some (3, 0, x)
def f_CaseLayout_exit (a1 : Int32) (a2 : Int32) (x : gx_S) : Option (Nat × Int32 × gx_S) :=
  gx_bx (f_CaseLayout_needCell a1 a2 x) (fun r1 x1 => if (gx_gI x1 5) < 6 then (gx_bd (f_CaseLayout_cellOf a1 a2 x1) (fun r3 x3 => gx_ck r3 81 (if (gx_gA x3 0 (r3 : Int32).toNatClampNeg) = 0 then (gx_bd (f_Exits_standOn r3 x3) (fun r6 x6 => if r6 = 0 then (gx_bd (f_Search_forget  x6) (fun r8 x8 => gx_bd (f_Exits_add r3 x8) (fun r9 x9 => some (0, r9, x9)))) else (j_CaseLayout_exit_57   x6))) else (j_CaseLayout_exit_57   x3)))) else (some (2, 0, x1)))
abbrev rm_CaseLayout_exit : Room := { frames := 7, cells := 2, slots := 12, locals := 104 }
set_option maxHeartbeats 4000000 in
set_option maxRecDepth 100000 in
theorem jc_CaseLayout_exit_57 {K : gx_K} {E : gx_E} (C : gx_C K E "CaseLayout" prog_1_method_9_code 4) (hR : K.R = rm_CaseLayout_exit) (hr : K.meth.sig.returnType = (some .int)) (hlk : K.meth.locks = false) (hlt : K.l.stackTraces = false) (hnh : K.c.exceptionTable.isEmpty = true) (hLT : gx_LT E K.s.heap.size)  (x : gx_S) (o : Nat × Int32 × gx_S) (hf : j_CaseLayout_exit_57  x = some o) (hk : ∀ t, gx_MQX K.below (gx_QX E (gx_AB true E K.s.heap.size) (some (.int o.2.1)) o.1 o.2.2) K.args K.s 2 12 (gx_AB true E K.s.heap.size) t → K.Q t) : gx_G K E (gx_AB false E K.s.heap.size) 1 6 x 57 [] [] := by
  unfold j_CaseLayout_exit_57 at hf
  cases hf
  exact gx_throw (w := true) (j := 3) (tx := "the cell is a wall or an exit") (names := ["java/lang/RuntimeException", "java/lang/Exception"]) C (by decide) hLT hlt hnh hlk gw_391 gw_392 gw_15 (by decide +kernel) (ga_CaseLayout_126 C) (by decide +kernel) (by decide +kernel) d_CaseLayout_exit_57 d_CaseLayout_exit_60 d_CaseLayout_exit_61 d_CaseLayout_exit_63 d_CaseLayout_exit_66 (by rw [hR]; decide) (by rw [hR]; exact Nat.le_of_ble_eq_true rfl) (by rw [hR]; decide) (by rw [hR]; decide) hk
set_option maxHeartbeats 4000000 in
set_option maxRecDepth 100000 in
theorem c_CaseLayout_exit (l : Launch) (hlt : l.stackTraces = false) (a1 : Int32) (a2 : Int32) (x : gx_S) (o : Nat × Int32 × gx_S) (hf : f_CaseLayout_exit a1 a2 x = some o) : gx_MX true l y_CaseLayout_exit prog_1_method_9_code 4 (some .int) rm_CaseLayout_exit (fun E => [.ref (gx_ad E 28), .int a1, .int a2]) x (some (.int o.2.1)) o.1 o.2.2 := by
  refine gx_metX (own := "CaseLayout") (by decide) rfl (fun E => Nat.le_of_ble_eq_true rfl) (fun K E hl0 hR hr hlk hnh hLT hk C => ?_)
  subst hl0
  unfold f_CaseLayout_exit at hf
  show gx_G K E (gx_AB false E K.s.heap.size) 0 0 x 0 [(0, .ref (gx_ad E 28)), (1, .int a1), (2, .int a2)] []
  refine gx_aload_n C 0 d_CaseLayout_exit_0 rfl rfl ?_
  refine gx_iload_n C 1 d_CaseLayout_exit_1 rfl rfl ?_
  refine gx_iload_n C 2 d_CaseLayout_exit_2 rfl rfl ?_
  obtain ⟨j1, r1, x1, hc1, ⟨hq1, hf⟩ | ⟨hq1, hf⟩⟩ := gx_bx_some hf
  rotate_left
  · subst hf
    refine gx_cVx (n2 := 1) (k2 := 6) C hq1 (As := [.int a1, .int a2]) (rest := []) 28 2 (c_CaseLayout_needCell K.l hlt a1 a2 x _ hc1) (Or.inr rfl) rfl (gx_goodV gw_284 gw_286 gs_0 gw_1 gw_287) (by decide +kernel) (gx_w28 E _) rfl (by rw [hR]; decide) rfl rfl (Nat.le_of_ble_eq_true rfl) d_CaseLayout_exit_3 (by rw [hR]; decide) rfl rfl ?_
    refine gx_H.widen (n' := 2) (k' := 12) (by decide) (by decide) ?_
    refine gx_H.toF ?_
    exact gx_outX hq1 hnh hlk hk
  subst hq1
  refine gx_cVv (n2 := 1) (k2 := 6) C (As := [.int a1, .int a2]) (rest := []) 28 2 (c_CaseLayout_needCell K.l hlt a1 a2 x _ hc1).toV (Or.inr rfl) rfl (gx_goodV gw_284 gw_286 gs_0 gw_1 gw_287) (by decide +kernel) (gx_w28 E _) rfl (by rw [hR]; decide) rfl rfl (Nat.le_of_ble_eq_true rfl) d_CaseLayout_exit_3 (by rw [hR]; decide) rfl rfl ?_
  refine gx_aload_n C 0 d_CaseLayout_exit_6 rfl rfl ?_
  refine gx_get C iw_CaseLayout 28 (gx_w28 E _) rfl 3 (by decide) gw_249 rfl rfl d_CaseLayout_exit_7 ?_
  refine gx_getN C iw_Exits 13 (gx_w13 E _) rfl 1 (by decide) gn_142 rfl rfl d_CaseLayout_exit_10 ?_
  refine gx_bipush C (v := 6) d_CaseLayout_exit_13 (by decide) ?_
  refine gx_icmp_lt (tgt := 28) C d_CaseLayout_exit_15 (by decide) (fun h2 => ?_) (fun h2 => ?_)
  · have hf := (if_pos h2).symm.trans hf
    refine gx_iload_n C 1 d_CaseLayout_exit_28 rfl rfl ?_
    refine gx_iload_n C 2 d_CaseLayout_exit_29 rfl rfl ?_
    obtain ⟨r3, x3, hc3, hf⟩ := gx_bd_some hf
    refine gx_cSi (n2 := 1) (k2 := 6) C (As := [.int a1, .int a2]) (rest := []) 2 (c_CaseLayout_cellOf K.l a1 a2 x1 _ hc3) (Or.inr rfl) rfl (gx_goodS gw_360 gw_361 gw_1 gw_362) (by decide +kernel) (by rw [hR]; decide) rfl rfl (Nat.le_of_ble_eq_true rfl) d_CaseLayout_exit_30 (by rw [hR]; decide) rfl rfl ?_
    refine gx_istore_n C (lv' := [(3, .int r3), (0, .ref (gx_ad E 28)), (1, .int a1), (2, .int a2)]) d_CaseLayout_exit_33 rfl (by decide) rfl ?_
    refine gx_aload_n C 1 d_CaseLayout_exit_34 rfl rfl ?_
    refine gx_get C iw_CaseLayout 28 (gx_w28 E _) rfl 0 (by decide) gw_246 rfl rfl d_CaseLayout_exit_35 ?_
    refine gx_getN C iw_Grid 0 (gx_w0 E _) rfl 2 (by decide) gn_47 rfl rfl d_CaseLayout_exit_38 ?_
    refine gx_iload_n C 0 d_CaseLayout_exit_41 rfl rfl ?_
    obtain ⟨hi4, hf⟩ := gx_ck_some hf
    refine gx_zald C 1 1 (gx_w1 E _) rfl hi4 d_CaseLayout_exit_42 ?_
    refine gx_if_ne (tgt := 57) C d_CaseLayout_exit_43 (by decide) (fun h5 => ?_) (fun h5 => ?_)
    · have hf := (if_neg h5).symm.trans hf
      refine gx_lv (lv' := []) [] rfl ?_
      exact jc_CaseLayout_exit_57 C hR hr hlk hlt hnh hLT   x3 _ hf hk
    · have hf := (if_pos h5).symm.trans hf
      refine gx_aload_n C 1 d_CaseLayout_exit_46 rfl rfl ?_
      refine gx_get C iw_CaseLayout 28 (gx_w28 E _) rfl 3 (by decide) gw_249 rfl rfl d_CaseLayout_exit_47 ?_
      refine gx_iload_n C 0 d_CaseLayout_exit_50 rfl rfl ?_
      obtain ⟨r6, x6, hc6, hf⟩ := gx_bd_some hf
      refine gx_cVi (n2 := 1) (k2 := 6) C (As := [.int r3]) (rest := []) 13 1 (c_Exits_standOn K.l r3 x3 _ hc6) (Or.inr rfl) rfl (gx_goodV gw_368 gw_369 gw_370 gw_6 gw_371) (by decide +kernel) (gx_w13 E _) rfl (by rw [hR]; decide) rfl rfl (Nat.le_of_ble_eq_true rfl) d_CaseLayout_exit_51 (by rw [hR]; decide) rfl rfl ?_
      refine gx_if_eq (tgt := 67) C d_CaseLayout_exit_54 (by decide) (fun h7 => ?_) (fun h7 => ?_)
      · have hf := (if_pos h7).symm.trans hf
        refine gx_aload_n C 1 d_CaseLayout_exit_67 rfl rfl ?_
        refine gx_get C iw_CaseLayout 28 (gx_w28 E _) rfl 5 (by decide) gw_251 rfl rfl d_CaseLayout_exit_68 ?_
        refine gx_toF ?_
        obtain ⟨r8, x8, hc8, hf⟩ := gx_bd_some hf
        refine gx_cVv (n2 := 1) (k2 := 6) C (As := []) (rest := []) 25 0 (c_Search_forget K.l  x6 _ hc8) (Or.inl rfl) rfl (gx_goodV gw_376 gw_377 gw_378 gw_8 gw_379) (by decide +kernel) (gx_w25 E _) rfl (by rw [hR]; decide) rfl rfl (Nat.le_of_ble_eq_true rfl) d_CaseLayout_exit_71 (by rw [hR]; decide) rfl rfl ?_
        refine gx_aload_n C 1 d_CaseLayout_exit_74 rfl rfl ?_
        refine gx_get C iw_CaseLayout 28 (gx_w28 E _) rfl 3 (by decide) gw_249 rfl rfl d_CaseLayout_exit_75 ?_
        refine gx_iload_n C 0 d_CaseLayout_exit_78 rfl rfl ?_
        obtain ⟨r9, x9, hc9, hf⟩ := gx_bd_some hf
        refine gx_cVi (n2 := 1) (k2 := 6) C (As := [.int r3]) (rest := []) 13 1 (c_Exits_add K.l r3 x8 _ hc9) (Or.inl rfl) rfl (gx_goodV gw_502 gw_503 gw_504 gw_6 gw_505) (by decide +kernel) (gx_w13 E _) rfl (by rw [hR]; decide) rfl rfl (Nat.le_of_ble_eq_true rfl) d_CaseLayout_exit_79 (by rw [hR]; decide) rfl rfl ?_
        cases hf
        refine gx_widen (n' := 2) (k' := 12) (by decide) (by decide) ?_
        exact gx_iretX C hr hlk hk d_CaseLayout_exit_82
      · have hf := (if_neg h7).symm.trans hf
        refine gx_lv (lv' := []) [] rfl ?_
        exact jc_CaseLayout_exit_57 C hR hr hlk hlt hnh hLT   x6 _ hf hk
  · have hf := (if_neg h2).symm.trans hf
    cases hf
    exact gx_throw (w := true) (j := 2) (tx := "there are six exits") (names := ["java/lang/RuntimeException", "java/lang/Exception"]) C (by decide) hLT hlt hnh hlk gw_415 gw_416 gw_16 (by decide +kernel) (ga_CaseLayout_100 C) (by decide +kernel) (by decide +kernel) d_CaseLayout_exit_18 d_CaseLayout_exit_21 d_CaseLayout_exit_22 d_CaseLayout_exit_24 d_CaseLayout_exit_27 (by rw [hR]; decide) (by rw [hR]; exact Nat.le_of_ble_eq_true rfl) (by rw [hR]; decide) (by rw [hR]; decide) hk

def f_CaseLayout_most (a1 : Int32) (x : gx_S) : Option (Nat × Int32 × gx_S) :=
  gx_bx (f_CaseLayout_needWithin a1 0 99 x) (fun r1 x1 => gx_bd (f_Search_forget  (gx_sI x1 6 a1)) (fun r2 x2 => some (0, gx_gI x1 6, x2)))
abbrev rm_CaseLayout_most : Room := { frames := 7, cells := 1, slots := 6, locals := 104 }
set_option maxHeartbeats 4000000 in
set_option maxRecDepth 100000 in
theorem c_CaseLayout_most (l : Launch) (hlt : l.stackTraces = false) (a1 : Int32) (x : gx_S) (o : Nat × Int32 × gx_S) (hf : f_CaseLayout_most a1 x = some o) : gx_MX true l y_CaseLayout_most prog_1_method_10_code 3 (some .int) rm_CaseLayout_most (fun E => [.ref (gx_ad E 28), .int a1]) x (some (.int o.2.1)) o.1 o.2.2 := by
  refine gx_metX (own := "CaseLayout") (by decide) rfl (fun E => Nat.le_of_ble_eq_true rfl) (fun K E hl0 hR hr hlk hnh hLT hk C => ?_)
  subst hl0
  unfold f_CaseLayout_most at hf
  show gx_G K E (gx_AB false E K.s.heap.size) 0 0 x 0 [(0, .ref (gx_ad E 28)), (1, .int a1)] []
  refine gx_iload_n C 1 d_CaseLayout_most_0 rfl rfl ?_
  refine gx_iconst C (v := 0) d_CaseLayout_most_1 (by decide) ?_
  refine gx_bipush C (v := 99) d_CaseLayout_most_2 (by decide) ?_
  obtain ⟨j1, r1, x1, hc1, ⟨hq1, hf⟩ | ⟨hq1, hf⟩⟩ := gx_bx_some hf
  rotate_left
  · subst hf
    refine gx_cSx (n2 := 1) (k2 := 6) C hq1 (As := [.int a1, .int 0, .int 99]) (rest := []) 3 (c_CaseLayout_needWithin K.l hlt a1 0 99 x _ hc1) (Or.inr rfl) rfl (gx_goodS gw_388 gw_389 gw_1 gw_390) (by decide +kernel) (by rw [hR]; decide) rfl rfl (Nat.le_of_ble_eq_true rfl) d_CaseLayout_most_4 (by rw [hR]; decide) rfl rfl ?_
    refine gx_H.toF ?_
    exact gx_outX hq1 hnh hlk hk
  subst hq1
  refine gx_cSv (n2 := 1) (k2 := 6) C (As := [.int a1, .int 0, .int 99]) (rest := []) 3 (c_CaseLayout_needWithin K.l hlt a1 0 99 x _ hc1).toV (Or.inr rfl) rfl (gx_goodS gw_388 gw_389 gw_1 gw_390) (by decide +kernel) (by rw [hR]; decide) rfl rfl (Nat.le_of_ble_eq_true rfl) d_CaseLayout_most_4 (by rw [hR]; decide) rfl rfl ?_
  refine gx_aload_n C 0 d_CaseLayout_most_7 rfl rfl ?_
  refine gx_get C iw_CaseLayout 28 (gx_w28 E _) rfl 3 (by decide) gw_249 rfl rfl d_CaseLayout_most_8 ?_
  refine gx_getN C iw_Exits 13 (gx_w13 E _) rfl 2 (by decide) gn_145 rfl rfl d_CaseLayout_most_11 ?_
  refine gx_istore_n C (lv' := [(2, .int (gx_gI x1 6)), (0, .ref (gx_ad E 28)), (1, .int a1)]) d_CaseLayout_most_14 rfl (by decide) rfl ?_
  refine gx_aload_n C 1 d_CaseLayout_most_15 rfl rfl ?_
  refine gx_get C iw_CaseLayout 28 (gx_w28 E _) rfl 3 (by decide) gw_249 rfl rfl d_CaseLayout_most_16 ?_
  refine gx_iload_n C 2 d_CaseLayout_most_19 rfl rfl ?_
  refine gx_toF ?_
  refine gx_putN C (ty := .int) (x' := gx_sI x1 6 a1) iw_Exits ty_Exits tk_Exits tn_Exits 13 (gx_w13 E _) rfl 2 (by decide) gn_145 rfl rfl (by decide +kernel) rfl rfl (Nat.le_of_ble_eq_true rfl) (gx_p13_2 E _ _) d_CaseLayout_most_20 ?_
  refine gx_aload_n C 1 d_CaseLayout_most_23 rfl rfl ?_
  refine gx_get C iw_CaseLayout 28 (gx_w28 E _) rfl 5 (by decide) gw_251 rfl rfl d_CaseLayout_most_24 ?_
  obtain ⟨r2, x2, hc2, hf⟩ := gx_bd_some hf
  refine gx_cVv (n2 := 1) (k2 := 6) C (As := []) (rest := []) 25 0 (c_Search_forget K.l  (gx_sI x1 6 a1) _ hc2) (Or.inl rfl) rfl (gx_goodV gw_376 gw_377 gw_378 gw_8 gw_379) (by decide +kernel) (gx_w25 E _) rfl (by rw [hR]; decide) rfl rfl (Nat.le_of_ble_eq_true rfl) d_CaseLayout_most_27 (by rw [hR]; decide) rfl rfl ?_
  refine gx_iload_n C 0 d_CaseLayout_most_30 rfl rfl ?_
  cases hf
  exact gx_iretX C hr hlk hk d_CaseLayout_most_31
