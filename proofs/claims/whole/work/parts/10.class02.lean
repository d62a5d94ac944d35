def f_CaseLayout_apart (a1 : Int32) (a2 : Int32) (a3 : Int32) (x : gx_S) : Option (Nat × Int32 × gx_S) :=
  gx_bx (f_CaseLayout_needPair a1 a2 x) (fun r1 x1 => gx_bx (f_CaseLayout_needWithin a3 0 5 x1) (fun r2 x2 => gx_bd (f_Search_forget  x2) (fun r3 x3 => gx_bd (f_CaseLayout_setBoth a1 a2 a3 x3) (fun r4 x4 => some (0, r4, x4)))))
abbrev rm_CaseLayout_apart : Room := { frames := 8, cells := 4, slots := 24, locals := 125 }
set_option maxHeartbeats 4000000 in
set_option maxRecDepth 100000 in
theorem c_CaseLayout_apart (l : Launch) (hlt : l.stackTraces = false) (a1 : Int32) (a2 : Int32) (a3 : Int32) (x : gx_S) (o : Nat × Int32 × gx_S) (hf : f_CaseLayout_apart a1 a2 a3 x = some o) : gx_MX true l y_CaseLayout_apart prog_1_method_5_code 4 (some .int) rm_CaseLayout_apart (fun E => [.ref (gx_ad E 28), .int a1, .int a2, .int a3]) x (some (.int o.2.1)) o.1 o.2.2 := by
  refine gx_metX (own := "CaseLayout") (by decide) rfl (fun E => Nat.le_of_ble_eq_true rfl) (fun K E hl0 hR hr hlk hnh hLT hk C => ?_)
  subst hl0
  unfold f_CaseLayout_apart at hf
  show gx_G K E (gx_AB false E K.s.heap.size) 0 0 x 0 [(0, .ref (gx_ad E 28)), (1, .int a1), (2, .int a2), (3, .int a3)] []
  refine gx_aload_n C 0 d_CaseLayout_apart_0 rfl rfl ?_
  refine gx_iload_n C 1 d_CaseLayout_apart_1 rfl rfl ?_
  refine gx_iload_n C 2 d_CaseLayout_apart_2 rfl rfl ?_
  obtain ⟨j1, r1, x1, hc1, ⟨hq1, hf⟩ | ⟨hq1, hf⟩⟩ := gx_bx_some hf
  rotate_left
  · subst hf
    refine gx_cVx (n2 := 3) (k2 := 18) C hq1 (As := [.int a1, .int a2]) (rest := []) 28 2 (c_CaseLayout_needPair K.l hlt a1 a2 x _ hc1) (Or.inr rfl) rfl (gx_goodV gw_442 gw_444 gs_2 gw_1 gw_445) (by decide +kernel) (gx_w28 E _) rfl (by rw [hR]; decide) rfl rfl (Nat.le_of_ble_eq_true rfl) d_CaseLayout_apart_3 (by rw [hR]; decide) rfl rfl ?_
    refine gx_H.widen (n' := 4) (k' := 24) (by decide) (by decide) ?_
    refine gx_H.toF ?_
    exact gx_outX hq1 hnh hlk hk
  subst hq1
  refine gx_cVv (n2 := 3) (k2 := 18) C (As := [.int a1, .int a2]) (rest := []) 28 2 (c_CaseLayout_needPair K.l hlt a1 a2 x _ hc1).toV (Or.inr rfl) rfl (gx_goodV gw_442 gw_444 gs_2 gw_1 gw_445) (by decide +kernel) (gx_w28 E _) rfl (by rw [hR]; decide) rfl rfl (Nat.le_of_ble_eq_true rfl) d_CaseLayout_apart_3 (by rw [hR]; decide) rfl rfl ?_
  refine gx_iload_n C 3 d_CaseLayout_apart_6 rfl rfl ?_
  refine gx_iconst C (v := 0) d_CaseLayout_apart_7 (by decide) ?_
  refine gx_iconst C (v := 5) d_CaseLayout_apart_8 (by decide) ?_
  obtain ⟨j2, r2, x2, hc2, ⟨hq2, hf⟩ | ⟨hq2, hf⟩⟩ := gx_bx_some hf
  rotate_left
  · subst hf
    refine gx_cSx (n2 := 4) (k2 := 24) C hq2 (As := [.int a3, .int 0, .int 5]) (rest := []) 3 (c_CaseLayout_needWithin K.l hlt a3 0 5 x1 _ hc2) (Or.inr rfl) rfl (gx_goodS gw_388 gw_389 gw_1 gw_390) (by decide +kernel) (by rw [hR]; decide) rfl rfl (Nat.le_of_ble_eq_true rfl) d_CaseLayout_apart_9 (by rw [hR]; decide) rfl rfl ?_
    refine gx_H.toF ?_
    exact gx_outX hq2 hnh hlk hk
  subst hq2
  refine gx_cSv (n2 := 4) (k2 := 24) C (As := [.int a3, .int 0, .int 5]) (rest := []) 3 (c_CaseLayout_needWithin K.l hlt a3 0 5 x1 _ hc2).toV (Or.inr rfl) rfl (gx_goodS gw_388 gw_389 gw_1 gw_390) (by decide +kernel) (by rw [hR]; decide) rfl rfl (Nat.le_of_ble_eq_true rfl) d_CaseLayout_apart_9 (by rw [hR]; decide) rfl rfl ?_
  refine gx_aload_n C 0 d_CaseLayout_apart_12 rfl rfl ?_
  refine gx_get C iw_CaseLayout 28 (gx_w28 E _) rfl 5 (by decide) gw_251 rfl rfl d_CaseLayout_apart_13 ?_
  refine gx_toF ?_
  obtain ⟨r3, x3, hc3, hf⟩ := gx_bd_some hf
  refine gx_cVv (n2 := 4) (k2 := 24) C (As := []) (rest := []) 25 0 (c_Search_forget K.l  x2 _ hc3) (Or.inl rfl) rfl (gx_goodV gw_376 gw_377 gw_378 gw_8 gw_379) (by decide +kernel) (gx_w25 E _) rfl (by rw [hR]; decide) rfl rfl (Nat.le_of_ble_eq_true rfl) d_CaseLayout_apart_16 (by rw [hR]; decide) rfl rfl ?_
  refine gx_aload_n C 0 d_CaseLayout_apart_19 rfl rfl ?_
  refine gx_get C iw_CaseLayout 28 (gx_w28 E _) rfl 1 (by decide) gw_247 rfl rfl d_CaseLayout_apart_20 ?_
  refine gx_getN C iw_Things 3 (gx_w3 E _) rfl 3 (by decide) gn_83 rfl rfl d_CaseLayout_apart_23 ?_
  refine gx_iload_n C 1 d_CaseLayout_apart_26 rfl rfl ?_
  refine gx_iload_n C 2 d_CaseLayout_apart_27 rfl rfl ?_
  refine gx_iload_n C 3 d_CaseLayout_apart_28 rfl rfl ?_
  obtain ⟨r4, x4, hc4, hf⟩ := gx_bd_some hf
  refine gx_cSi (n2 := 4) (k2 := 24) C (As := [.ref (gx_ad E 7), .int a1, .int a2, .int a3]) (rest := []) 4 (c_CaseLayout_setBoth K.l a1 a2 a3 x3 _ hc4) (Or.inl rfl) rfl (gx_goodS gw_452 gw_453 gw_1 gw_454) (by decide +kernel) (by rw [hR]; decide) rfl rfl (Nat.le_of_ble_eq_true rfl) d_CaseLayout_apart_29 (by rw [hR]; decide) rfl rfl ?_
  cases hf
  exact gx_iretX C hr hlk hk d_CaseLayout_apart_32

def f_CaseLayout_setBoth_2 (a1 : Int32) (a2 : Int32) (a3 : Int32) (x : gx_S) : Option (Int32 × gx_S) :=
  gx_bd (f_CaseLayout_pairOf a1 a2 x) (fun r1 x1 => gx_ck r1 49 (gx_bd (f_CaseLayout_pairOf a1 a2 x1) (fun r3 x3 => gx_ck r3 49 (gx_bd (f_CaseLayout_pairOf a2 a1 (gx_sA x3 6 (r3 : Int32).toNatClampNeg a3)) (fun r5 x5 => gx_ck r5 49 (some (gx_gA x1 6 (r1 : Int32).toNatClampNeg, gx_sA x5 6 (r5 : Int32).toNatClampNeg a3)))))))
abbrev rm_CaseLayout_setBoth_2 : Room := { frames := 1, cells := 0, slots := 0, locals := 21 }
set_option maxHeartbeats 4000000 in
set_option maxRecDepth 100000 in
theorem c_CaseLayout_setBoth_2 (l : Launch) (a1 : Int32) (a2 : Int32) (a3 : Int32) (x : gx_S) (o : Int32 × gx_S) (hf : f_CaseLayout_setBoth_2 a1 a2 a3 x = some o) : gx_Mi true l y_CaseLayout_setBoth prog_1_method_28_code 5 (some .int) rm_CaseLayout_setBoth_2 (fun E => [.ref (gx_ad E 8), .int a1, .int a2, .int a3]) x o.1 o.2 := by
  refine gx_meti (own := "CaseLayout") (by decide) rfl (fun E => Nat.le_of_ble_eq_true rfl) (fun K E hl0 hR hr hlk hk C => ?_)
  subst hl0
  unfold f_CaseLayout_setBoth_2 at hf
  show gx_G K E _ 0 0 x 0 [(0, .ref (gx_ad E 8)), (1, .int a1), (2, .int a2), (3, .int a3)] []
  refine gx_aload_n C 0 d_CaseLayout_setBoth_0 rfl rfl ?_
  refine gx_iload_n C 1 d_CaseLayout_setBoth_1 rfl rfl ?_
  refine gx_iload_n C 2 d_CaseLayout_setBoth_2 rfl rfl ?_
  obtain ⟨r1, x1, hc1, hf⟩ := gx_bd_some hf
  refine gx_cSi (n2 := 0) (k2 := 0) C (As := [.int a1, .int a2]) (rest := [.ref (gx_ad E 8)]) 2 (c_CaseLayout_pairOf K.l a1 a2 x _ hc1) (Or.inl rfl) rfl (gx_goodS gw_455 gw_456 gw_1 gw_457) (by decide +kernel) (by rw [hR]; decide) rfl rfl (Nat.le_of_ble_eq_true rfl) d_CaseLayout_setBoth_3 (by rw [hR]; decide) rfl rfl ?_
  obtain ⟨hi2, hf⟩ := gx_ck_some hf
  refine gx_iald C 8 0 (gx_w8 E _) rfl hi2 d_CaseLayout_setBoth_6 ?_
  refine gx_istore C (lv' := [(4, .int (gx_gA x1 6 (r1 : Int32).toNatClampNeg)), (0, .ref (gx_ad E 8)), (1, .int a1), (2, .int a2), (3, .int a3)]) d_CaseLayout_setBoth_7 (by decide) rfl ?_
  refine gx_aload_n C 1 d_CaseLayout_setBoth_9 rfl rfl ?_
  refine gx_iload_n C 2 d_CaseLayout_setBoth_10 rfl rfl ?_
  refine gx_iload_n C 3 d_CaseLayout_setBoth_11 rfl rfl ?_
  obtain ⟨r3, x3, hc3, hf⟩ := gx_bd_some hf
  refine gx_cSi (n2 := 0) (k2 := 0) C (As := [.int a1, .int a2]) (rest := [.ref (gx_ad E 8)]) 2 (c_CaseLayout_pairOf K.l a1 a2 x1 _ hc3) (Or.inl rfl) rfl (gx_goodS gw_455 gw_456 gw_1 gw_457) (by decide +kernel) (by rw [hR]; decide) rfl rfl (Nat.le_of_ble_eq_true rfl) d_CaseLayout_setBoth_12 (by rw [hR]; decide) rfl rfl ?_
  refine gx_iload_n C 4 d_CaseLayout_setBoth_15 rfl rfl ?_
  obtain ⟨hi4, hf⟩ := gx_ck_some hf
  refine gx_iast C (x' := gx_sA x3 6 (r3 : Int32).toNatClampNeg a3) 8 0 (gx_w8 E _) rfl hi4 (gx_q8 E _ _ _) d_CaseLayout_setBoth_16 ?_
  refine gx_aload_n C 1 d_CaseLayout_setBoth_17 rfl rfl ?_
  refine gx_iload_n C 3 d_CaseLayout_setBoth_18 rfl rfl ?_
  refine gx_iload_n C 2 d_CaseLayout_setBoth_19 rfl rfl ?_
  obtain ⟨r5, x5, hc5, hf⟩ := gx_bd_some hf
  refine gx_cSi (n2 := 0) (k2 := 0) C (As := [.int a2, .int a1]) (rest := [.ref (gx_ad E 8)]) 2 (c_CaseLayout_pairOf K.l a2 a1 (gx_sA x3 6 (r3 : Int32).toNatClampNeg a3) _ hc5) (Or.inl rfl) rfl (gx_goodS gw_455 gw_456 gw_1 gw_457) (by decide +kernel) (by rw [hR]; decide) rfl rfl (Nat.le_of_ble_eq_true rfl) d_CaseLayout_setBoth_20 (by rw [hR]; decide) rfl rfl ?_
  refine gx_iload_n C 4 d_CaseLayout_setBoth_23 rfl rfl ?_
  obtain ⟨hi6, hf⟩ := gx_ck_some hf
  refine gx_iast C (x' := gx_sA x5 6 (r5 : Int32).toNatClampNeg a3) 8 0 (gx_w8 E _) rfl hi6 (gx_q8 E _ _ _) d_CaseLayout_setBoth_24 ?_
  refine gx_iload C 0 d_CaseLayout_setBoth_25 rfl ?_
  cases hf
  exact gx_iret C hr hlk hk d_CaseLayout_setBoth_27

def f_CaseLayout_wish (a1 : Int32) (a2 : Int32) (a3 : Int32) (x : gx_S) : Option (Nat × Int32 × gx_S) :=
  gx_bx (f_CaseLayout_needPair a1 a2 x) (fun r1 x1 => gx_bx (f_CaseLayout_needWithin a3 0 99 x1) (fun r2 x2 => gx_bd (f_Search_forget  x2) (fun r3 x3 => gx_bd (f_CaseLayout_setBoth_2 a1 a2 a3 x3) (fun r4 x4 => some (0, r4, x4)))))
abbrev rm_CaseLayout_wish : Room := { frames := 8, cells := 4, slots := 24, locals := 125 }
set_option maxHeartbeats 4000000 in
set_option maxRecDepth 100000 in
theorem c_CaseLayout_wish (l : Launch) (hlt : l.stackTraces = false) (a1 : Int32) (a2 : Int32) (a3 : Int32) (x : gx_S) (o : Nat × Int32 × gx_S) (hf : f_CaseLayout_wish a1 a2 a3 x = some o) : gx_MX true l y_CaseLayout_wish prog_1_method_6_code 4 (some .int) rm_CaseLayout_wish (fun E => [.ref (gx_ad E 28), .int a1, .int a2, .int a3]) x (some (.int o.2.1)) o.1 o.2.2 := by
  refine gx_metX (own := "CaseLayout") (by decide) rfl (fun E => Nat.le_of_ble_eq_true rfl) (fun K E hl0 hR hr hlk hnh hLT hk C => ?_)
  subst hl0
  unfold f_CaseLayout_wish at hf
  show gx_G K E (gx_AB false E K.s.heap.size) 0 0 x 0 [(0, .ref (gx_ad E 28)), (1, .int a1), (2, .int a2), (3, .int a3)] []
  refine gx_aload_n C 0 d_CaseLayout_wish_0 rfl rfl ?_
  refine gx_iload_n C 1 d_CaseLayout_wish_1 rfl rfl ?_
  refine gx_iload_n C 2 d_CaseLayout_wish_2 rfl rfl ?_
  obtain ⟨j1, r1, x1, hc1, ⟨hq1, hf⟩ | ⟨hq1, hf⟩⟩ := gx_bx_some hf
  rotate_left
  · subst hf
    refine gx_cVx (n2 := 3) (k2 := 18) C hq1 (As := [.int a1, .int a2]) (rest := []) 28 2 (c_CaseLayout_needPair K.l hlt a1 a2 x _ hc1) (Or.inr rfl) rfl (gx_goodV gw_442 gw_444 gs_2 gw_1 gw_445) (by decide +kernel) (gx_w28 E _) rfl (by rw [hR]; decide) rfl rfl (Nat.le_of_ble_eq_true rfl) d_CaseLayout_wish_3 (by rw [hR]; decide) rfl rfl ?_
    refine gx_H.widen (n' := 4) (k' := 24) (by decide) (by decide) ?_
    refine gx_H.toF ?_
    exact gx_outX hq1 hnh hlk hk
  subst hq1
  refine gx_cVv (n2 := 3) (k2 := 18) C (As := [.int a1, .int a2]) (rest := []) 28 2 (c_CaseLayout_needPair K.l hlt a1 a2 x _ hc1).toV (Or.inr rfl) rfl (gx_goodV gw_442 gw_444 gs_2 gw_1 gw_445) (by decide +kernel) (gx_w28 E _) rfl (by rw [hR]; decide) rfl rfl (Nat.le_of_ble_eq_true rfl) d_CaseLayout_wish_3 (by rw [hR]; decide) rfl rfl ?_
  refine gx_iload_n C 3 d_CaseLayout_wish_6 rfl rfl ?_
  refine gx_iconst C (v := 0) d_CaseLayout_wish_7 (by decide) ?_
  refine gx_bipush C (v := 99) d_CaseLayout_wish_8 (by decide) ?_
  obtain ⟨j2, r2, x2, hc2, ⟨hq2, hf⟩ | ⟨hq2, hf⟩⟩ := gx_bx_some hf
  rotate_left
  · subst hf
    refine gx_cSx (n2 := 4) (k2 := 24) C hq2 (As := [.int a3, .int 0, .int 99]) (rest := []) 3 (c_CaseLayout_needWithin K.l hlt a3 0 99 x1 _ hc2) (Or.inr rfl) rfl (gx_goodS gw_388 gw_389 gw_1 gw_390) (by decide +kernel) (by rw [hR]; decide) rfl rfl (Nat.le_of_ble_eq_true rfl) d_CaseLayout_wish_10 (by rw [hR]; decide) rfl rfl ?_
    refine gx_H.toF ?_
    exact gx_outX hq2 hnh hlk hk
  subst hq2
  refine gx_cSv (n2 := 4) (k2 := 24) C (As := [.int a3, .int 0, .int 99]) (rest := []) 3 (c_CaseLayout_needWithin K.l hlt a3 0 99 x1 _ hc2).toV (Or.inr rfl) rfl (gx_goodS gw_388 gw_389 gw_1 gw_390) (by decide +kernel) (by rw [hR]; decide) rfl rfl (Nat.le_of_ble_eq_true rfl) d_CaseLayout_wish_10 (by rw [hR]; decide) rfl rfl ?_
  refine gx_aload_n C 0 d_CaseLayout_wish_13 rfl rfl ?_
  refine gx_get C iw_CaseLayout 28 (gx_w28 E _) rfl 5 (by decide) gw_251 rfl rfl d_CaseLayout_wish_14 ?_
  refine gx_toF ?_
  obtain ⟨r3, x3, hc3, hf⟩ := gx_bd_some hf
  refine gx_cVv (n2 := 4) (k2 := 24) C (As := []) (rest := []) 25 0 (c_Search_forget K.l  x2 _ hc3) (Or.inl rfl) rfl (gx_goodV gw_376 gw_377 gw_378 gw_8 gw_379) (by decide +kernel) (gx_w25 E _) rfl (by rw [hR]; decide) rfl rfl (Nat.le_of_ble_eq_true rfl) d_CaseLayout_wish_17 (by rw [hR]; decide) rfl rfl ?_
  refine gx_aload_n C 0 d_CaseLayout_wish_20 rfl rfl ?_
  refine gx_get C iw_CaseLayout 28 (gx_w28 E _) rfl 1 (by decide) gw_247 rfl rfl d_CaseLayout_wish_21 ?_
  refine gx_getN C iw_Things 3 (gx_w3 E _) rfl 4 (by decide) gn_86 rfl rfl d_CaseLayout_wish_24 ?_
  refine gx_iload_n C 1 d_CaseLayout_wish_27 rfl rfl ?_
  refine gx_iload_n C 2 d_CaseLayout_wish_28 rfl rfl ?_
  refine gx_iload_n C 3 d_CaseLayout_wish_29 rfl rfl ?_
  obtain ⟨r4, x4, hc4, hf⟩ := gx_bd_some hf
  refine gx_cSi (n2 := 4) (k2 := 24) C (As := [.ref (gx_ad E 8), .int a1, .int a2, .int a3]) (rest := []) 4 (c_CaseLayout_setBoth_2 K.l a1 a2 a3 x3 _ hc4) (Or.inl rfl) rfl (gx_goodS gw_452 gw_453 gw_1 gw_454) (by decide +kernel) (by rw [hR]; decide) rfl rfl (Nat.le_of_ble_eq_true rfl) d_CaseLayout_wish_30 (by rw [hR]; decide) rfl rfl ?_
  cases hf
  exact gx_iretX C hr hlk hk d_CaseLayout_wish_33

def f_Places_add (a1 : Int32) (a2 : Int32) (x : gx_S) : Option (Int32 × gx_S) :=
  gx_ck (gx_gI x 4) 8 (gx_ck (gx_gI x 4) 8 (some (gx_gI x 4, gx_sI (gx_sA (gx_sA x 7 (gx_gI x 4 : Int32).toNatClampNeg a1) 8 (gx_gI x 4 : Int32).toNatClampNeg a2) 4 ((gx_gI (gx_sA (gx_sA x 7 (gx_gI x 4 : Int32).toNatClampNeg a1) 8 (gx_gI x 4 : Int32).toNatClampNeg a2) 4) + 1))))
abbrev rm_Places_add : Room := { frames := 0, cells := 0, slots := 0, locals := 0 }
set_option maxHeartbeats 4000000 in
set_option maxRecDepth 100000 in
theorem c_Places_add (l : Launch) (a1 : Int32) (a2 : Int32) (x : gx_S) (o : Int32 × gx_S) (hf : f_Places_add a1 a2 x = some o) : gx_Mi true l y_Places_add prog_6_method_2_code 4 (some .int) rm_Places_add (fun E => [.ref (gx_ad E 9), .int a1, .int a2]) x o.1 o.2 := by
  refine gx_meti (own := "CaseLayout$Places") (by decide) rfl (fun E => Nat.le_of_ble_eq_true rfl) (fun K E hl0 hR hr hlk hk C => ?_)
  subst hl0
  unfold f_Places_add at hf
  show gx_G K E _ 0 0 x 0 [(0, .ref (gx_ad E 9)), (1, .int a1), (2, .int a2)] []
  refine gx_aload_n C 0 d_Places_add_0 rfl rfl ?_
  refine gx_get C iw_Places 9 (gx_w9 E _) rfl 3 (by decide) gw_120 rfl rfl d_Places_add_1 ?_
  refine gx_istore_n C (lv' := [(3, .int (gx_gI x 4)), (0, .ref (gx_ad E 9)), (1, .int a1), (2, .int a2)]) d_Places_add_4 rfl (by decide) rfl ?_
  refine gx_aload_n C 1 d_Places_add_5 rfl rfl ?_
  refine gx_get C iw_Places 9 (gx_w9 E _) rfl 0 (by decide) gw_111 rfl rfl d_Places_add_6 ?_
  refine gx_iload_n C 0 d_Places_add_9 rfl rfl ?_
  refine gx_iload_n C 2 d_Places_add_10 rfl rfl ?_
  obtain ⟨hi1, hf⟩ := gx_ck_some hf
  refine gx_iast C (x' := gx_sA x 7 (gx_gI x 4 : Int32).toNatClampNeg a1) 10 0 (gx_w10 E _) rfl hi1 (gx_q10 E _ _ _) d_Places_add_11 ?_
  refine gx_aload_n C 1 d_Places_add_12 rfl rfl ?_
  refine gx_get C iw_Places 9 (gx_w9 E _) rfl 1 (by decide) gw_114 rfl rfl d_Places_add_13 ?_
  refine gx_iload_n C 0 d_Places_add_16 rfl rfl ?_
  refine gx_iload_n C 3 d_Places_add_17 rfl rfl ?_
  obtain ⟨hi2, hf⟩ := gx_ck_some hf
  refine gx_iast C (x' := gx_sA (gx_sA x 7 (gx_gI x 4 : Int32).toNatClampNeg a1) 8 (gx_gI x 4 : Int32).toNatClampNeg a2) 11 0 (gx_w11 E _) rfl hi2 (gx_q11 E _ _ _) d_Places_add_18 ?_
  refine gx_aload_n C 1 d_Places_add_19 rfl rfl ?_
  refine gx_dup C d_Places_add_20 rfl ?_
  refine gx_get C iw_Places 9 (gx_w9 E _) rfl 3 (by decide) gw_120 rfl rfl d_Places_add_21 ?_
  refine gx_iconst C (v := 1) d_Places_add_24 (by decide) ?_
  refine gx_iadd C d_Places_add_25 ?_
  refine gx_put C (ty := .int) (x' := gx_sI (gx_sA (gx_sA x 7 (gx_gI x 4 : Int32).toNatClampNeg a1) 8 (gx_gI x 4 : Int32).toNatClampNeg a2) 4 ((gx_gI (gx_sA (gx_sA x 7 (gx_gI x 4 : Int32).toNatClampNeg a1) 8 (gx_gI x 4 : Int32).toNatClampNeg a2) 4) + 1)) iw_Places ty_Places tk_Places tn_Places 9 (gx_w9 E _) rfl 3 (by decide) gw_120 rfl rfl (by decide +kernel) rfl rfl (Nat.le_of_ble_eq_true rfl) (gx_p9_3 E _ _) d_Places_add_26 ?_
  refine gx_iload_n C 0 d_Places_add_29 rfl rfl ?_
  cases hf
  exact gx_iret C hr hlk hk d_Places_add_30

def f_CaseLayout_place (a1 : Int32) (a2 : Int32) (x : gx_S) : Option (Nat × Int32 × gx_S) :=
  gx_bx (f_CaseLayout_needCell a1 a2 x) (fun r1 x1 => if (gx_gI x1 4) < 8 then (gx_bd (f_CaseLayout_cellOf a1 a2 x1) (fun r3 x3 => gx_ck r3 81 (if (gx_gA x3 0 (r3 : Int32).toNatClampNeg) = 0 then (gx_bd (f_Places_add a1 a2 x3) (fun r6 x6 => some (0, r6, x6))) else (some (3, 0, x3))))) else (some (2, 0, x1)))
abbrev rm_CaseLayout_place : Room := { frames := 7, cells := 2, slots := 12, locals := 104 }
set_option maxHeartbeats 4000000 in
set_option maxRecDepth 100000 in
theorem c_CaseLayout_place (l : Launch) (hlt : l.stackTraces = false) (a1 : Int32) (a2 : Int32) (x : gx_S) (o : Nat × Int32 × gx_S) (hf : f_CaseLayout_place a1 a2 x = some o) : gx_MX true l y_CaseLayout_place prog_1_method_7_code 3 (some .int) rm_CaseLayout_place (fun E => [.ref (gx_ad E 28), .int a1, .int a2]) x (some (.int o.2.1)) o.1 o.2.2 := by
  refine gx_metX (own := "CaseLayout") (by decide) rfl (fun E => Nat.le_of_ble_eq_true rfl) (fun K E hl0 hR hr hlk hnh hLT hk C => ?_)
  subst hl0
  unfold f_CaseLayout_place at hf
  show gx_G K E (gx_AB false E K.s.heap.size) 0 0 x 0 [(0, .ref (gx_ad E 28)), (1, .int a1), (2, .int a2)] []
  refine gx_aload_n C 0 d_CaseLayout_place_0 rfl rfl ?_
  refine gx_iload_n C 1 d_CaseLayout_place_1 rfl rfl ?_
  refine gx_iload_n C 2 d_CaseLayout_place_2 rfl rfl ?_
  obtain ⟨j1, r1, x1, hc1, ⟨hq1, hf⟩ | ⟨hq1, hf⟩⟩ := gx_bx_some hf
  rotate_left
  · subst hf
    refine gx_cVx (n2 := 1) (k2 := 6) C hq1 (As := [.int a1, .int a2]) (rest := []) 28 2 (c_CaseLayout_needCell K.l hlt a1 a2 x _ hc1) (Or.inr rfl) rfl (gx_goodV gw_284 gw_286 gs_0 gw_1 gw_287) (by decide +kernel) (gx_w28 E _) rfl (by rw [hR]; decide) rfl rfl (Nat.le_of_ble_eq_true rfl) d_CaseLayout_place_3 (by rw [hR]; decide) rfl rfl ?_
    refine gx_H.widen (n' := 2) (k' := 12) (by decide) (by decide) ?_
    refine gx_H.toF ?_
    exact gx_outX hq1 hnh hlk hk
  subst hq1
  refine gx_cVv (n2 := 1) (k2 := 6) C (As := [.int a1, .int a2]) (rest := []) 28 2 (c_CaseLayout_needCell K.l hlt a1 a2 x _ hc1).toV (Or.inr rfl) rfl (gx_goodV gw_284 gw_286 gs_0 gw_1 gw_287) (by decide +kernel) (gx_w28 E _) rfl (by rw [hR]; decide) rfl rfl (Nat.le_of_ble_eq_true rfl) d_CaseLayout_place_3 (by rw [hR]; decide) rfl rfl ?_
  refine gx_aload_n C 0 d_CaseLayout_place_6 rfl rfl ?_
  refine gx_get C iw_CaseLayout 28 (gx_w28 E _) rfl 2 (by decide) gw_248 rfl rfl d_CaseLayout_place_7 ?_
  refine gx_getN C iw_Places 9 (gx_w9 E _) rfl 3 (by decide) gn_121 rfl rfl d_CaseLayout_place_10 ?_
  refine gx_bipush C (v := 8) d_CaseLayout_place_13 (by decide) ?_
  refine gx_icmp_lt (tgt := 28) C d_CaseLayout_place_15 (by decide) (fun h2 => ?_) (fun h2 => ?_)
  · have hf := (if_pos h2).symm.trans hf
    refine gx_aload_n C 0 d_CaseLayout_place_28 rfl rfl ?_
    refine gx_get C iw_CaseLayout 28 (gx_w28 E _) rfl 0 (by decide) gw_246 rfl rfl d_CaseLayout_place_29 ?_
    refine gx_getN C iw_Grid 0 (gx_w0 E _) rfl 2 (by decide) gn_47 rfl rfl d_CaseLayout_place_32 ?_
    refine gx_iload_n C 1 d_CaseLayout_place_35 rfl rfl ?_
    refine gx_iload_n C 2 d_CaseLayout_place_36 rfl rfl ?_
    obtain ⟨r3, x3, hc3, hf⟩ := gx_bd_some hf
    refine gx_cSi (n2 := 1) (k2 := 6) C (As := [.int a1, .int a2]) (rest := [.ref (gx_ad E 1)]) 2 (c_CaseLayout_cellOf K.l a1 a2 x1 _ hc3) (Or.inr rfl) rfl (gx_goodS gw_360 gw_361 gw_1 gw_362) (by decide +kernel) (by rw [hR]; decide) rfl rfl (Nat.le_of_ble_eq_true rfl) d_CaseLayout_place_37 (by rw [hR]; decide) rfl rfl ?_
    obtain ⟨hi4, hf⟩ := gx_ck_some hf
    refine gx_zald C 1 1 (gx_w1 E _) rfl hi4 d_CaseLayout_place_40 ?_
    refine gx_if_eq (tgt := 54) C d_CaseLayout_place_41 (by decide) (fun h5 => ?_) (fun h5 => ?_)
    · have hf := (if_pos h5).symm.trans hf
      refine gx_aload_n C 0 d_CaseLayout_place_54 rfl rfl ?_
      refine gx_get C iw_CaseLayout 28 (gx_w28 E _) rfl 2 (by decide) gw_248 rfl rfl d_CaseLayout_place_55 ?_
      refine gx_iload_n C 1 d_CaseLayout_place_58 rfl rfl ?_
      refine gx_iload_n C 2 d_CaseLayout_place_59 rfl rfl ?_
      refine gx_toF ?_
      obtain ⟨r6, x6, hc6, hf⟩ := gx_bd_some hf
      refine gx_cVi (n2 := 1) (k2 := 6) C (As := [.int a1, .int a2]) (rest := []) 9 2 (c_Places_add K.l a1 a2 x3 _ hc6) (Or.inl rfl) rfl (gx_goodV gw_474 gw_475 gw_476 gw_5 gw_477) (by decide +kernel) (gx_w9 E _) rfl (by rw [hR]; decide) rfl rfl (Nat.le_of_ble_eq_true rfl) d_CaseLayout_place_60 (by rw [hR]; decide) rfl rfl ?_
      cases hf
      refine gx_widen (n' := 2) (k' := 12) (by decide) (by decide) ?_
      exact gx_iretX C hr hlk hk d_CaseLayout_place_63
    · have hf := (if_neg h5).symm.trans hf
      cases hf
      exact gx_throw (w := true) (j := 3) (tx := "the cell is a wall") (names := ["java/lang/RuntimeException", "java/lang/Exception"]) C (by decide) hLT hlt hnh hlk gw_391 gw_392 gw_15 (by decide +kernel) (ga_CaseLayout_126 C) (by decide +kernel) (by decide +kernel) d_CaseLayout_place_44 d_CaseLayout_place_47 d_CaseLayout_place_48 d_CaseLayout_place_50 d_CaseLayout_place_53 (by rw [hR]; decide) (by rw [hR]; exact Nat.le_of_ble_eq_true rfl) (by rw [hR]; decide) (by rw [hR]; decide) hk
  · have hf := (if_neg h2).symm.trans hf
    cases hf
    exact gx_throw (w := true) (j := 2) (tx := "there are eight places") (names := ["java/lang/RuntimeException", "java/lang/Exception"]) C (by decide) hLT hlt hnh hlk gw_415 gw_416 gw_16 (by decide +kernel) (ga_CaseLayout_100 C) (by decide +kernel) (by decide +kernel) d_CaseLayout_place_18 d_CaseLayout_place_21 d_CaseLayout_place_22 d_CaseLayout_place_24 d_CaseLayout_place_27 (by rw [hR]; decide) (by rw [hR]; exact Nat.le_of_ble_eq_true rfl) (by rw [hR]; decide) (by rw [hR]; decide) hk

def j_CaseLayout_needPlace_15  (x : gx_S) : Option (Nat × Int32 × gx_S) :=
  some (1, 0, x)
def f_CaseLayout_needPlace (a1 : Int32) (x : gx_S) : Option (Nat × Int32 × gx_S) :=
  if a1 < 0 then (j_CaseLayout_needPlace_15   x) else (if a1 < (gx_gI x 4) then (some (0, 0, x)) else (j_CaseLayout_needPlace_15   x))
abbrev rm_CaseLayout_needPlace : Room := { frames := 6, cells := 1, slots := 6, locals := 82 }
set_option maxHeartbeats 4000000 in
set_option maxRecDepth 100000 in
theorem jc_CaseLayout_needPlace_15 {K : gx_K} {E : gx_E} (C : gx_C K E "CaseLayout" prog_1_method_20_code 2) (hR : K.R = rm_CaseLayout_needPlace) (hr : K.meth.sig.returnType = none) (hlk : K.meth.locks = false) (hlt : K.l.stackTraces = false) (hnh : K.c.exceptionTable.isEmpty = true) (hLT : gx_LT E K.s.heap.size)  (x : gx_S) (o : Nat × Int32 × gx_S) (hf : j_CaseLayout_needPlace_15  x = some o) (hk : ∀ t, gx_MQX K.below (gx_QX E (gx_AB false E K.s.heap.size) none o.1 o.2.2) K.args K.s 1 6 (gx_AB false E K.s.heap.size) t → K.Q t) : gx_G K E (gx_AB false E K.s.heap.size) 0 0 x 15 [] [] := by
  unfold j_CaseLayout_needPlace_15 at hf
  cases hf
  exact gx_throw (w := false) (j := 1) (tx := "no such place") (names := ["java/lang/RuntimeException", "java/lang/Exception"]) C (by decide) hLT hlt hnh hlk gw_292 gw_293 gw_14 (by decide +kernel) (ga_CaseLayout_171 C) (by decide +kernel) (by decide +kernel) d_CaseLayout_needPlace_15 d_CaseLayout_needPlace_18 d_CaseLayout_needPlace_19 d_CaseLayout_needPlace_21 d_CaseLayout_needPlace_24 (by rw [hR]; decide) (by rw [hR]; exact Nat.le_of_ble_eq_true rfl) (by rw [hR]; decide) (by rw [hR]; decide) hk
set_option maxHeartbeats 4000000 in
set_option maxRecDepth 100000 in
theorem c_CaseLayout_needPlace (l : Launch) (hlt : l.stackTraces = false) (a1 : Int32) (x : gx_S) (o : Nat × Int32 × gx_S) (hf : f_CaseLayout_needPlace a1 x = some o) : gx_MX false l y_CaseLayout_needPlace prog_1_method_20_code 2 none rm_CaseLayout_needPlace (fun E => [.ref (gx_ad E 28), .int a1]) x none o.1 o.2.2 := by
  refine gx_metX (own := "CaseLayout") (by decide) rfl (fun E => Nat.le_of_ble_eq_true rfl) (fun K E hl0 hR hr hlk hnh hLT hk C => ?_)
  subst hl0
  unfold f_CaseLayout_needPlace at hf
  show gx_G K E (gx_AB false E K.s.heap.size) 0 0 x 0 [(0, .ref (gx_ad E 28)), (1, .int a1)] []
  refine gx_iload_n C 1 d_CaseLayout_needPlace_0 rfl rfl ?_
  refine gx_if_lt (tgt := 15) C d_CaseLayout_needPlace_1 (by decide) (fun h1 => ?_) (fun h1 => ?_)
  · have hf := (if_pos h1).symm.trans hf
    refine gx_lv (lv' := []) [] rfl ?_
    exact jc_CaseLayout_needPlace_15 C hR hr hlk hlt hnh hLT   x _ hf hk
  · have hf := (if_neg h1).symm.trans hf
    refine gx_iload_n C 1 d_CaseLayout_needPlace_4 rfl rfl ?_
    refine gx_aload_n C 0 d_CaseLayout_needPlace_5 rfl rfl ?_
    refine gx_get C iw_CaseLayout 28 (gx_w28 E _) rfl 2 (by decide) gw_248 rfl rfl d_CaseLayout_needPlace_6 ?_
    refine gx_getN C iw_Places 9 (gx_w9 E _) rfl 3 (by decide) gn_121 rfl rfl d_CaseLayout_needPlace_9 ?_
    refine gx_icmp_lt (tgt := 25) C d_CaseLayout_needPlace_12 (by decide) (fun h2 => ?_) (fun h2 => ?_)
    · have hf := (if_pos h2).symm.trans hf
      cases hf
      refine gx_widen (n' := 1) (k' := 6) (by decide) (by decide) ?_
      exact gx_vretX C hr hlk hk d_CaseLayout_needPlace_25
    · have hf := (if_neg h2).symm.trans hf
      refine gx_lv (lv' := []) [] rfl ?_
      exact jc_CaseLayout_needPlace_15 C hR hr hlk hlt hnh hLT   x _ hf hk

def f_CaseLayout_sightOf (a0 : Int32) (a1 : Int32) (x : gx_S) : Option (Int32 × gx_S) :=
  some ((a0 * 7) + a1, x)
abbrev rm_CaseLayout_sightOf : Room := { frames := 0, cells := 0, slots := 0, locals := 0 }
set_option maxHeartbeats 4000000 in
set_option maxRecDepth 100000 in
theorem c_CaseLayout_sightOf (l : Launch) (a0 : Int32) (a1 : Int32) (x : gx_S) (o : Int32 × gx_S) (hf : f_CaseLayout_sightOf a0 a1 x = some o) : gx_Mi false l y_CaseLayout_sightOf prog_1_method_27_code 2 (some .int) rm_CaseLayout_sightOf (fun E => [.int a0, .int a1]) x o.1 o.2 := by
  refine gx_meti (own := "CaseLayout") (by decide) rfl (fun E => Nat.le_of_ble_eq_true rfl) (fun K E hl0 hR hr hlk hk C => ?_)
  subst hl0
  unfold f_CaseLayout_sightOf at hf
  show gx_G K E _ 0 0 x 0 [(0, .int a0), (1, .int a1)] []
  refine gx_iload_n C 0 d_CaseLayout_sightOf_0 rfl rfl ?_
  refine gx_bipush C (v := 7) d_CaseLayout_sightOf_1 (by decide) ?_
  refine gx_imul C d_CaseLayout_sightOf_3 ?_
  refine gx_iload_n C 1 d_CaseLayout_sightOf_4 rfl rfl ?_
  refine gx_iadd C d_CaseLayout_sightOf_5 ?_
  cases hf
  exact gx_iret C hr hlk hk d_CaseLayout_sightOf_6

def j_CaseLayout_sees_36 (v3 : Int32) (v4 : Int32) (w0 : Int32) (x : gx_S) : Option (Nat × Int32 × gx_S) :=
  gx_ck v4 56 (gx_bd (f_Search_forget  (gx_sA x 9 (v4 : Int32).toNatClampNeg (vp_nar .boolean v3))) (fun r7 x7 => gx_nb w0 (some (0, w0, x7))))
def f_CaseLayout_sees (a1 : Int32) (a2 : Int32) (a3 : Int32) (x : gx_S) : Option (Nat × Int32 × gx_S) :=
  gx_bx (f_CaseLayout_needPlace a1 x) (fun r1 x1 => gx_bx (f_CaseLayout_needThing a2 x1) (fun r2 x2 => gx_bd (f_CaseLayout_sightOf a1 a2 x2) (fun r3 x3 => gx_ck r3 56 (if (gx_gA x3 9 (r3 : Int32).toNatClampNeg) = a3 then (j_CaseLayout_sees_36 a3 r3 0 x3) else (j_CaseLayout_sees_36 a3 r3 1 x3)))))
abbrev rm_CaseLayout_sees : Room := { frames := 7, cells := 2, slots := 12, locals := 103 }
set_option maxHeartbeats 4000000 in
set_option maxRecDepth 100000 in
theorem jc_CaseLayout_sees_36 {K : gx_K} {E : gx_E} (C : gx_C K E "CaseLayout" prog_1_method_8_code 6) (hR : K.R = rm_CaseLayout_sees) (hr : K.meth.sig.returnType = (some .boolean)) (hlk : K.meth.locks = false) (hlt : K.l.stackTraces = false) (hnh : K.c.exceptionTable.isEmpty = true) (hLT : gx_LT E K.s.heap.size) (v3 : Int32) (v4 : Int32) (w0 : Int32) (x : gx_S) (o : Nat × Int32 × gx_S) (hf : j_CaseLayout_sees_36 v3 v4 w0 x = some o) (hk : ∀ t, gx_MQX K.below (gx_QX E (gx_AB true E K.s.heap.size) (some (.int o.2.1)) o.1 o.2.2) K.args K.s 2 12 (gx_AB true E K.s.heap.size) t → K.Q t) : gx_G K E (gx_AB false E K.s.heap.size) 2 12 x 36 [(0, .ref (gx_ad E 28)), (3, .int v3), (4, .int v4)] [.int w0] := by
  unfold j_CaseLayout_sees_36 at hf
  refine gx_istore C (lv' := [(5, .int w0), (0, .ref (gx_ad E 28)), (3, .int v3), (4, .int v4)]) d_CaseLayout_sees_36 (by decide) rfl ?_
  refine gx_aload_n C 1 d_CaseLayout_sees_38 rfl rfl ?_
  refine gx_get C iw_CaseLayout 28 (gx_w28 E _) rfl 2 (by decide) gw_248 rfl rfl d_CaseLayout_sees_39 ?_
  refine gx_getN C iw_Places 9 (gx_w9 E _) rfl 2 (by decide) gn_118 rfl rfl d_CaseLayout_sees_42 ?_
  refine gx_iload C 3 d_CaseLayout_sees_45 rfl ?_
  refine gx_iload_n C 2 d_CaseLayout_sees_47 rfl rfl ?_
  refine gx_toF ?_
  obtain ⟨hi6, hf⟩ := gx_ck_some hf
  refine gx_zast C (x' := gx_sA x 9 (v4 : Int32).toNatClampNeg (vp_nar .boolean v3)) 12 1 (gx_w12 E _) rfl hi6 (gx_q12 E _ _ _) d_CaseLayout_sees_48 ?_
  refine gx_aload_n C 1 d_CaseLayout_sees_49 rfl rfl ?_
  refine gx_get C iw_CaseLayout 28 (gx_w28 E _) rfl 5 (by decide) gw_251 rfl rfl d_CaseLayout_sees_50 ?_
  obtain ⟨r7, x7, hc7, hf⟩ := gx_bd_some hf
  refine gx_cVv (n2 := 2) (k2 := 12) C (As := []) (rest := []) 25 0 (c_Search_forget K.l  (gx_sA x 9 (v4 : Int32).toNatClampNeg (vp_nar .boolean v3)) _ hc7) (Or.inl rfl) rfl (gx_goodV gw_376 gw_377 gw_378 gw_8 gw_379) (by decide +kernel) (gx_w25 E _) rfl (by rw [hR]; decide) rfl rfl (Nat.le_of_ble_eq_true rfl) d_CaseLayout_sees_53 (by rw [hR]; decide) rfl rfl ?_
  refine gx_iload C 0 d_CaseLayout_sees_56 rfl ?_
  obtain ⟨hn8, hf⟩ := gx_nb_some hf
  cases hf
  exact gx_zretX C hr hlk hk hn8 d_CaseLayout_sees_58
set_option maxHeartbeats 4000000 in
set_option maxRecDepth 100000 in
theorem c_CaseLayout_sees (l : Launch) (hlt : l.stackTraces = false) (a1 : Int32) (a2 : Int32) (a3 : Int32) (x : gx_S) (o : Nat × Int32 × gx_S) (hf : f_CaseLayout_sees a1 a2 a3 x = some o) : gx_MX true l y_CaseLayout_sees prog_1_method_8_code 6 (some .boolean) rm_CaseLayout_sees (fun E => [.ref (gx_ad E 28), .int a1, .int a2, .int a3]) x (some (.int o.2.1)) o.1 o.2.2 := by
  refine gx_metX (own := "CaseLayout") (by decide) rfl (fun E => Nat.le_of_ble_eq_true rfl) (fun K E hl0 hR hr hlk hnh hLT hk C => ?_)
  subst hl0
  unfold f_CaseLayout_sees at hf
  show gx_G K E (gx_AB false E K.s.heap.size) 0 0 x 0 [(0, .ref (gx_ad E 28)), (1, .int a1), (2, .int a2), (3, .int a3)] []
  refine gx_aload_n C 0 d_CaseLayout_sees_0 rfl rfl ?_
  refine gx_iload_n C 1 d_CaseLayout_sees_1 rfl rfl ?_
  obtain ⟨j1, r1, x1, hc1, ⟨hq1, hf⟩ | ⟨hq1, hf⟩⟩ := gx_bx_some hf
  rotate_left
  · subst hf
    refine gx_cVx (n2 := 1) (k2 := 6) C hq1 (As := [.int a1]) (rest := []) 28 1 (c_CaseLayout_needPlace K.l hlt a1 x _ hc1) (Or.inr rfl) rfl (gx_goodV gw_485 gw_487 gs_4 gw_1 gw_488) (by decide +kernel) (gx_w28 E _) rfl (by rw [hR]; decide) rfl rfl (Nat.le_of_ble_eq_true rfl) d_CaseLayout_sees_2 (by rw [hR]; decide) rfl rfl ?_
    refine gx_H.widen (n' := 2) (k' := 12) (by decide) (by decide) ?_
    refine gx_H.toF ?_
    exact gx_outX hq1 hnh hlk hk
  subst hq1
  refine gx_cVv (n2 := 1) (k2 := 6) C (As := [.int a1]) (rest := []) 28 1 (c_CaseLayout_needPlace K.l hlt a1 x _ hc1).toV (Or.inr rfl) rfl (gx_goodV gw_485 gw_487 gs_4 gw_1 gw_488) (by decide +kernel) (gx_w28 E _) rfl (by rw [hR]; decide) rfl rfl (Nat.le_of_ble_eq_true rfl) d_CaseLayout_sees_2 (by rw [hR]; decide) rfl rfl ?_
  refine gx_aload_n C 0 d_CaseLayout_sees_5 rfl rfl ?_
  refine gx_iload_n C 2 d_CaseLayout_sees_6 rfl rfl ?_
  obtain ⟨j2, r2, x2, hc2, ⟨hq2, hf⟩ | ⟨hq2, hf⟩⟩ := gx_bx_some hf
  rotate_left
  · subst hf
    refine gx_cVx (n2 := 2) (k2 := 12) C hq2 (As := [.int a2]) (rest := []) 28 1 (c_CaseLayout_needThing K.l hlt a2 x1 _ hc2) (Or.inr rfl) rfl (gx_goodV gw_446 gw_448 gs_3 gw_1 gw_449) (by decide +kernel) (gx_w28 E _) rfl (by rw [hR]; decide) rfl rfl (Nat.le_of_ble_eq_true rfl) d_CaseLayout_sees_7 (by rw [hR]; decide) rfl rfl ?_
    refine gx_H.toF ?_
    exact gx_outX hq2 hnh hlk hk
  subst hq2
  refine gx_cVv (n2 := 2) (k2 := 12) C (As := [.int a2]) (rest := []) 28 1 (c_CaseLayout_needThing K.l hlt a2 x1 _ hc2).toV (Or.inr rfl) rfl (gx_goodV gw_446 gw_448 gs_3 gw_1 gw_449) (by decide +kernel) (gx_w28 E _) rfl (by rw [hR]; decide) rfl rfl (Nat.le_of_ble_eq_true rfl) d_CaseLayout_sees_7 (by rw [hR]; decide) rfl rfl ?_
  refine gx_iload_n C 1 d_CaseLayout_sees_10 rfl rfl ?_
  refine gx_iload_n C 2 d_CaseLayout_sees_11 rfl rfl ?_
  obtain ⟨r3, x3, hc3, hf⟩ := gx_bd_some hf
  refine gx_cSi (n2 := 2) (k2 := 12) C (As := [.int a1, .int a2]) (rest := []) 2 (c_CaseLayout_sightOf K.l a1 a2 x2 _ hc3) (Or.inr rfl) rfl (gx_goodS gw_490 gw_491 gw_1 gw_492) (by decide +kernel) (by rw [hR]; decide) rfl rfl (Nat.le_of_ble_eq_true rfl) d_CaseLayout_sees_12 (by rw [hR]; decide) rfl rfl ?_
  refine gx_istore C (lv' := [(4, .int r3), (0, .ref (gx_ad E 28)), (1, .int a1), (2, .int a2), (3, .int a3)]) d_CaseLayout_sees_15 (by decide) rfl ?_
  refine gx_aload_n C 1 d_CaseLayout_sees_17 rfl rfl ?_
  refine gx_get C iw_CaseLayout 28 (gx_w28 E _) rfl 2 (by decide) gw_248 rfl rfl d_CaseLayout_sees_18 ?_
  refine gx_getN C iw_Places 9 (gx_w9 E _) rfl 2 (by decide) gn_118 rfl rfl d_CaseLayout_sees_21 ?_
  refine gx_iload C 0 d_CaseLayout_sees_24 rfl ?_
  obtain ⟨hi4, hf⟩ := gx_ck_some hf
  refine gx_zald C 12 1 (gx_w12 E _) rfl hi4 d_CaseLayout_sees_26 ?_
  refine gx_iload_n C 4 d_CaseLayout_sees_27 rfl rfl ?_
  refine gx_icmp_eq (tgt := 35) C d_CaseLayout_sees_28 (by decide) (fun h5 => ?_) (fun h5 => ?_)
  · have hf := (if_pos h5).symm.trans hf
    refine gx_iconst C (v := 0) d_CaseLayout_sees_35 (by decide) ?_
    refine gx_lv (lv' := [(0, .ref (gx_ad E 28)), (3, .int a3), (4, .int r3)]) [1, 4, 0] rfl ?_
    exact jc_CaseLayout_sees_36 C hR hr hlk hlt hnh hLT a3 r3 0 x3 _ hf hk
  · have hf := (if_neg h5).symm.trans hf
    refine gx_iconst C (v := 1) d_CaseLayout_sees_31 (by decide) ?_
    refine gx_goto (tgt := 36) C d_CaseLayout_sees_32 (by decide) ?_
    refine gx_lv (lv' := [(0, .ref (gx_ad E 28)), (3, .int a3), (4, .int r3)]) [1, 4, 0] rfl ?_
    exact jc_CaseLayout_sees_36 C hR hr hlk hlt hnh hLT a3 r3 1 x3 _ hf hk

def f_Exits_add (a1 : Int32) (x : gx_S) : Option (Int32 × gx_S) :=
  gx_ck (gx_gI x 5) 6 (some (gx_gI (gx_sI (gx_sA x 10 (gx_gI x 5 : Int32).toNatClampNeg a1) 5 ((gx_gI (gx_sA x 10 (gx_gI x 5 : Int32).toNatClampNeg a1) 5) + 1)) 5, gx_sI (gx_sA x 10 (gx_gI x 5 : Int32).toNatClampNeg a1) 5 ((gx_gI (gx_sA x 10 (gx_gI x 5 : Int32).toNatClampNeg a1) 5) + 1)))
abbrev rm_Exits_add : Room := { frames := 0, cells := 0, slots := 0, locals := 0 }
set_option maxHeartbeats 4000000 in
set_option maxRecDepth 100000 in
theorem c_Exits_add (l : Launch) (a1 : Int32) (x : gx_S) (o : Int32 × gx_S) (hf : f_Exits_add a1 x = some o) : gx_Mi true l y_Exits_add prog_2_method_2_code 2 (some .int) rm_Exits_add (fun E => [.ref (gx_ad E 13), .int a1]) x o.1 o.2 := by
  refine gx_meti (own := "CaseLayout$Exits") (by decide) rfl (fun E => Nat.le_of_ble_eq_true rfl) (fun K E hl0 hR hr hlk hk C => ?_)
  subst hl0
  unfold f_Exits_add at hf
  show gx_G K E _ 0 0 x 0 [(0, .ref (gx_ad E 13)), (1, .int a1)] []
  refine gx_aload_n C 0 d_Exits_add_0 rfl rfl ?_
  refine gx_get C iw_Exits 13 (gx_w13 E _) rfl 0 (by decide) gw_138 rfl rfl d_Exits_add_1 ?_
  refine gx_aload_n C 0 d_Exits_add_4 rfl rfl ?_
  refine gx_get C iw_Exits 13 (gx_w13 E _) rfl 1 (by decide) gw_140 rfl rfl d_Exits_add_5 ?_
  refine gx_iload_n C 1 d_Exits_add_8 rfl rfl ?_
  obtain ⟨hi1, hf⟩ := gx_ck_some hf
  refine gx_iast C (x' := gx_sA x 10 (gx_gI x 5 : Int32).toNatClampNeg a1) 14 0 (gx_w14 E _) rfl hi1 (gx_q14 E _ _ _) d_Exits_add_9 ?_
  refine gx_aload_n C 0 d_Exits_add_10 rfl rfl ?_
  refine gx_dup C d_Exits_add_11 rfl ?_
  refine gx_get C iw_Exits 13 (gx_w13 E _) rfl 1 (by decide) gw_140 rfl rfl d_Exits_add_12 ?_
  refine gx_iconst C (v := 1) d_Exits_add_15 (by decide) ?_
  refine gx_iadd C d_Exits_add_16 ?_
  refine gx_put C (ty := .int) (x' := gx_sI (gx_sA x 10 (gx_gI x 5 : Int32).toNatClampNeg a1) 5 ((gx_gI (gx_sA x 10 (gx_gI x 5 : Int32).toNatClampNeg a1) 5) + 1)) iw_Exits ty_Exits tk_Exits tn_Exits 13 (gx_w13 E _) rfl 1 (by decide) gw_140 rfl rfl (by decide +kernel) rfl rfl (Nat.le_of_ble_eq_true rfl) (gx_p13_1 E _ _) d_Exits_add_17 ?_
  refine gx_aload_n C 0 d_Exits_add_20 rfl rfl ?_
  refine gx_get C iw_Exits 13 (gx_w13 E _) rfl 1 (by decide) gw_140 rfl rfl d_Exits_add_21 ?_
  cases hf
  exact gx_iret C hr hlk hk d_Exits_add_24

def j_CaseLayout_exit_57  (x : gx_S) : Option (Nat × Int32 × gx_S) :=
  some (3, 0, x)
def f_CaseLayout_exit (a1 : Int32) (a2 : Int32) (x : gx_S) : Option (Nat × Int32 × gx_S) :=
  gx_bx (f_CaseLayout_needCell a1 a2 x) (fun r1 x1 => if (gx_gI x1 5) < 6 then (gx_bd (f_CaseLayout_cellOf a1 a2 x1) (fun r3 x3 => gx_ck r3 81 (if (gx_gA x3 0 (r3 : Int32).toNatClampNeg) = 0 then (gx_bd (f_Exits_standOn r3 x3) (fun r6 x6 => if r6 = 0 then (gx_bd (f_Search_forget  x6) (fun r8 x8 => gx_bd (f_Exits_add r3 x8) (fun r9 x9 => some (0, r9, x9)))) else (j_CaseLayout_exit_57   x6))) else (j_CaseLayout_exit_57   x3)))) else (some (2, 0, x1)))
abbrev rm_CaseLayout_exit : Room := { frames := 7, cells := 2, slots := 12, locals := 104 }
set_option maxHeartbeats 4000000 in
set_option maxRecDepth 100000 in
theorem jc_CaseLayout_exit_57 {K : gx_K} {E : gx_E} (C : gx_C K E "CaseLayout" prog_1_method_9_code 4) (hR : K.R = rm_CaseLayout_exit) (hr : K.meth.sig.returnType = (some .int)) (hlk : K.meth.locks = false) (hlt : K.l.stackTraces = false) (hnh : K.c.exceptionTable.isEmpty = true) (hLT : gx_LT E K.s.heap.size)  (x : gx_S) (o : Nat × Int32 × gx_S) (hf : j_CaseLayout_exit_57  x = some o) (hk : ∀ t, gx_MQX K.below (gx_QX E (gx_AB true E K.s.heap.size) (some (.int o.2.1)) o.1 o.2.2) K.args K.s 2 12 (gx_AB true E K.s.heap.size) t → K.Q t) : gx_G K E (gx_AB false E K.s.heap.size) 1 6 x 57 [] [] := by
  unfold j_CaseLayout_exit_57 at hf
  cases hf
  exact gx_throw (w := true) (j := 3) (tx := "the cell is a wall or an exit") (names := ["java/lang/RuntimeException", "java/lang/Exception"]) C (by decide) hLT hlt hnh hlk gw_391 gw_392 gw_15 (by decide +kernel) (ga_CaseLayout_126 C) (by decide +kernel) (by decide +kernel) d_CaseLayout_exit_57 d_CaseLayout_exit_60 d_CaseLayout_exit_61 d_CaseLayout_exit_63 d_CaseLayout_exit_66 (by rw [hR]; decide) (by rw [hR]; exact Nat.le_of_ble_eq_true rfl) (by rw [hR]; decide) (by rw [hR]; decide) hk
set_option maxHeartbeats 4000000 in
set_option maxRecDepth 100000 in
theorem c_CaseLayout_exit (l : Launch) (hlt : l.stackTraces = false) (a1 : Int32) (a2 : Int32) (x : gx_S) (o : Nat × Int32 × gx_S) (hf : f_CaseLayout_exit a1 a2 x = some o) : gx_MX true l y_CaseLayout_exit prog_1_method_9_code 4 (some .int) rm_CaseLayout_exit (fun E => [.ref (gx_ad E 28), .int a1, .int a2]) x (some (.int o.2.1)) o.1 o.2.2 := by
  refine gx_metX (own := "CaseLayout") (by decide) rfl (fun E => Nat.le_of_ble_eq_true rfl) (fun K E hl0 hR hr hlk hnh hLT hk C => ?_)
  subst hl0
  unfold f_CaseLayout_exit at hf
  show gx_G K E (gx_AB false E K.s.heap.size) 0 0 x 0 [(0, .ref (gx_ad E 28)), (1, .int a1), (2, .int a2)] []
  refine gx_aload_n C 0 d_CaseLayout_exit_0 rfl rfl ?_
  refine gx_iload_n C 1 d_CaseLayout_exit_1 rfl rfl ?_
  refine gx_iload_n C 2 d_CaseLayout_exit_2 rfl rfl ?_
  obtain ⟨j1, r1, x1, hc1, ⟨hq1, hf⟩ | ⟨hq1, hf⟩⟩ := gx_bx_some hf
  rotate_left
  · subst hf
    refine gx_cVx (n2 := 1) (k2 := 6) C hq1 (As := [.int a1, .int a2]) (rest := []) 28 2 (c_CaseLayout_needCell K.l hlt a1 a2 x _ hc1) (Or.inr rfl) rfl (gx_goodV gw_284 gw_286 gs_0 gw_1 gw_287) (by decide +kernel) (gx_w28 E _) rfl (by rw [hR]; decide) rfl rfl (Nat.le_of_ble_eq_true rfl) d_CaseLayout_exit_3 (by rw [hR]; decide) rfl rfl ?_
    refine gx_H.widen (n' := 2) (k' := 12) (by decide) (by decide) ?_
    refine gx_H.toF ?_
    exact gx_outX hq1 hnh hlk hk
  subst hq1
  refine gx_cVv (n2 := 1) (k2 := 6) C (As := [.int a1, .int a2]) (rest := []) 28 2 (c_CaseLayout_needCell K.l hlt a1 a2 x _ hc1).toV (Or.inr rfl) rfl (gx_goodV gw_284 gw_286 gs_0 gw_1 gw_287) (by decide +kernel) (gx_w28 E _) rfl (by rw [hR]; decide) rfl rfl (Nat.le_of_ble_eq_true rfl) d_CaseLayout_exit_3 (by rw [hR]; decide) rfl rfl ?_
  refine gx_aload_n C 0 d_CaseLayout_exit_6 rfl rfl ?_
  refine gx_get C iw_CaseLayout 28 (gx_w28 E _) rfl 3 (by decide) gw_249 rfl rfl d_CaseLayout_exit_7 ?_
  refine gx_getN C iw_Exits 13 (gx_w13 E _) rfl 1 (by decide) gn_142 rfl rfl d_CaseLayout_exit_10 ?_
  refine gx_bipush C (v := 6) d_CaseLayout_exit_13 (by decide) ?_
  refine gx_icmp_lt (tgt := 28) C d_CaseLayout_exit_15 (by decide) (fun h2 => ?_) (fun h2 => ?_)
  · have hf := (if_pos h2).symm.trans hf
    refine gx_iload_n C 1 d_CaseLayout_exit_28 rfl rfl ?_
    refine gx_iload_n C 2 d_CaseLayout_exit_29 rfl rfl ?_
    obtain ⟨r3, x3, hc3, hf⟩ := gx_bd_some hf
    refine gx_cSi (n2 := 1) (k2 := 6) C (As := [.int a1, .int a2]) (rest := []) 2 (c_CaseLayout_cellOf K.l a1 a2 x1 _ hc3) (Or.inr rfl) rfl (gx_goodS gw_360 gw_361 gw_1 gw_362) (by decide +kernel) (by rw [hR]; decide) rfl rfl (Nat.le_of_ble_eq_true rfl) d_CaseLayout_exit_30 (by rw [hR]; decide) rfl rfl ?_
    refine gx_istore_n C (lv' := [(3, .int r3), (0, .ref (gx_ad E 28)), (1, .int a1), (2, .int a2)]) d_CaseLayout_exit_33 rfl (by decide) rfl ?_
    refine gx_aload_n C 1 d_CaseLayout_exit_34 rfl rfl ?_
    refine gx_get C iw_CaseLayout 28 (gx_w28 E _) rfl 0 (by decide) gw_246 rfl rfl d_CaseLayout_exit_35 ?_
    refine gx_getN C iw_Grid 0 (gx_w0 E _) rfl 2 (by decide) gn_47 rfl rfl d_CaseLayout_exit_38 ?_
    refine gx_iload_n C 0 d_CaseLayout_exit_41 rfl rfl ?_
    obtain ⟨hi4, hf⟩ := gx_ck_some hf
    refine gx_zald C 1 1 (gx_w1 E _) rfl hi4 d_CaseLayout_exit_42 ?_
    refine gx_if_ne (tgt := 57) C d_CaseLayout_exit_43 (by decide) (fun h5 => ?_) (fun h5 => ?_)
    · have hf := (if_neg h5).symm.trans hf
      refine gx_lv (lv' := []) [] rfl ?_
      exact jc_CaseLayout_exit_57 C hR hr hlk hlt hnh hLT   x3 _ hf hk
    · have hf := (if_pos h5).symm.trans hf
      refine gx_aload_n C 1 d_CaseLayout_exit_46 rfl rfl ?_
      refine gx_get C iw_CaseLayout 28 (gx_w28 E _) rfl 3 (by decide) gw_249 rfl rfl d_CaseLayout_exit_47 ?_
      refine gx_iload_n C 0 d_CaseLayout_exit_50 rfl rfl ?_
      obtain ⟨r6, x6, hc6, hf⟩ := gx_bd_some hf
      refine gx_cVi (n2 := 1) (k2 := 6) C (As := [.int r3]) (rest := []) 13 1 (c_Exits_standOn K.l r3 x3 _ hc6) (Or.inr rfl) rfl (gx_goodV gw_368 gw_369 gw_370 gw_6 gw_371) (by decide +kernel) (gx_w13 E _) rfl (by rw [hR]; decide) rfl rfl (Nat.le_of_ble_eq_true rfl) d_CaseLayout_exit_51 (by rw [hR]; decide) rfl rfl ?_
      refine gx_if_eq (tgt := 67) C d_CaseLayout_exit_54 (by decide) (fun h7 => ?_) (fun h7 => ?_)
      · have hf := (if_pos h7).symm.trans hf
        refine gx_aload_n C 1 d_CaseLayout_exit_67 rfl rfl ?_
        refine gx_get C iw_CaseLayout 28 (gx_w28 E _) rfl 5 (by decide) gw_251 rfl rfl d_CaseLayout_exit_68 ?_
        refine gx_toF ?_
        obtain ⟨r8, x8, hc8, hf⟩ := gx_bd_some hf
        refine gx_cVv (n2 := 1) (k2 := 6) C (As := []) (rest := []) 25 0 (c_Search_forget K.l  x6 _ hc8) (Or.inl rfl) rfl (gx_goodV gw_376 gw_377 gw_378 gw_8 gw_379) (by decide +kernel) (gx_w25 E _) rfl (by rw [hR]; decide) rfl rfl (Nat.le_of_ble_eq_true rfl) d_CaseLayout_exit_71 (by rw [hR]; decide) rfl rfl ?_
        refine gx_aload_n C 1 d_CaseLayout_exit_74 rfl rfl ?_
        refine gx_get C iw_CaseLayout 28 (gx_w28 E _) rfl 3 (by decide) gw_249 rfl rfl d_CaseLayout_exit_75 ?_
        refine gx_iload_n C 0 d_CaseLayout_exit_78 rfl rfl ?_
        obtain ⟨r9, x9, hc9, hf⟩ := gx_bd_some hf
        refine gx_cVi (n2 := 1) (k2 := 6) C (As := [.int r3]) (rest := []) 13 1 (c_Exits_add K.l r3 x8 _ hc9) (Or.inl rfl) rfl (gx_goodV gw_502 gw_503 gw_504 gw_6 gw_505) (by decide +kernel) (gx_w13 E _) rfl (by rw [hR]; decide) rfl rfl (Nat.le_of_ble_eq_true rfl) d_CaseLayout_exit_79 (by rw [hR]; decide) rfl rfl ?_
        cases hf
        refine gx_widen (n' := 2) (k' := 12) (by decide) (by decide) ?_
        exact gx_iretX C hr hlk hk d_CaseLayout_exit_82
      · have hf := (if_neg h7).symm.trans hf
        refine gx_lv (lv' := []) [] rfl ?_
        exact jc_CaseLayout_exit_57 C hR hr hlk hlt hnh hLT   x6 _ hf hk
  · have hf := (if_neg h2).symm.trans hf
    cases hf
    exact gx_throw (w := true) (j := 2) (tx := "there are six exits") (names := ["java/lang/RuntimeException", "java/lang/Exception"]) C (by decide) hLT hlt hnh hlk gw_415 gw_416 gw_16 (by decide +kernel) (ga_CaseLayout_100 C) (by decide +kernel) (by decide +kernel) d_CaseLayout_exit_18 d_CaseLayout_exit_21 d_CaseLayout_exit_22 d_CaseLayout_exit_24 d_CaseLayout_exit_27 (by rw [hR]; decide) (by rw [hR]; exact Nat.le_of_ble_eq_true rfl) (by rw [hR]; decide) (by rw [hR]; decide) hk

def f_CaseLayout_most (a1 : Int32) (x : gx_S) : Option (Nat × Int32 × gx_S) :=
  gx_bx (f_CaseLayout_needWithin a1 0 99 x) (fun r1 x1 => gx_bd (f_Search_forget  (gx_sI x1 6 a1)) (fun r2 x2 => some (0, gx_gI x1 6, x2)))
abbrev rm_CaseLayout_most : Room := { frames := 7, cells := 1, slots := 6, locals := 104 }
set_option maxHeartbeats 4000000 in
set_option maxRecDepth 100000 in
theorem c_CaseLayout_most (l : Launch) (hlt : l.stackTraces = false) (a1 : Int32) (x : gx_S) (o : Nat × Int32 × gx_S) (hf : f_CaseLayout_most a1 x = some o) : gx_MX true l y_CaseLayout_most prog_1_method_10_code 3 (some .int) rm_CaseLayout_most (fun E => [.ref (gx_ad E 28), .int a1]) x (some (.int o.2.1)) o.1 o.2.2 := by
  refine gx_metX (own := "CaseLayout") (by decide) rfl (fun E => Nat.le_of_ble_eq_true rfl) (fun K E hl0 hR hr hlk hnh hLT hk C => ?_)
  subst hl0
  unfold f_CaseLayout_most at hf
  show gx_G K E (gx_AB false E K.s.heap.size) 0 0 x 0 [(0, .ref (gx_ad E 28)), (1, .int a1)] []
  refine gx_iload_n C 1 d_CaseLayout_most_0 rfl rfl ?_
  refine gx_iconst C (v := 0) d_CaseLayout_most_1 (by decide) ?_
  refine gx_bipush C (v := 99) d_CaseLayout_most_2 (by decide) ?_
  obtain ⟨j1, r1, x1, hc1, ⟨hq1, hf⟩ | ⟨hq1, hf⟩⟩ := gx_bx_some hf
  rotate_left
  · subst hf
    refine gx_cSx (n2 := 1) (k2 := 6) C hq1 (As := [.int a1, .int 0, .int 99]) (rest := []) 3 (c_CaseLayout_needWithin K.l hlt a1 0 99 x _ hc1) (Or.inr rfl) rfl (gx_goodS gw_388 gw_389 gw_1 gw_390) (by decide +kernel) (by rw [hR]; decide) rfl rfl (Nat.le_of_ble_eq_true rfl) d_CaseLayout_most_4 (by rw [hR]; decide) rfl rfl ?_
    refine gx_H.toF ?_
    exact gx_outX hq1 hnh hlk hk
  subst hq1
  refine gx_cSv (n2 := 1) (k2 := 6) C (As := [.int a1, .int 0, .int 99]) (rest := []) 3 (c_CaseLayout_needWithin K.l hlt a1 0 99 x _ hc1).toV (Or.inr rfl) rfl (gx_goodS gw_388 gw_389 gw_1 gw_390) (by decide +kernel) (by rw [hR]; decide) rfl rfl (Nat.le_of_ble_eq_true rfl) d_CaseLayout_most_4 (by rw [hR]; decide) rfl rfl ?_
  refine gx_aload_n C 0 d_CaseLayout_most_7 rfl rfl ?_
  refine gx_get C iw_CaseLayout 28 (gx_w28 E _) rfl 3 (by decide) gw_249 rfl rfl d_CaseLayout_most_8 ?_
  refine gx_getN C iw_Exits 13 (gx_w13 E _) rfl 2 (by decide) gn_145 rfl rfl d_CaseLayout_most_11 ?_
  refine gx_istore_n C (lv' := [(2, .int (gx_gI x1 6)), (0, .ref (gx_ad E 28)), (1, .int a1)]) d_CaseLayout_most_14 rfl (by decide) rfl ?_
  refine gx_aload_n C 1 d_CaseLayout_most_15 rfl rfl ?_
  refine gx_get C iw_CaseLayout 28 (gx_w28 E _) rfl 3 (by decide) gw_249 rfl rfl d_CaseLayout_most_16 ?_
  refine gx_iload_n C 2 d_CaseLayout_most_19 rfl rfl ?_
  refine gx_toF ?_
  refine gx_putN C (ty := .int) (x' := gx_sI x1 6 a1) iw_Exits ty_Exits tk_Exits tn_Exits 13 (gx_w13 E _) rfl 2 (by decide) gn_145 rfl rfl (by decide +kernel) rfl rfl (Nat.le_of_ble_eq_true rfl) (gx_p13_2 E _ _) d_CaseLayout_most_20 ?_
  refine gx_aload_n C 1 d_CaseLayout_most_23 rfl rfl ?_
  refine gx_get C iw_CaseLayout 28 (gx_w28 E _) rfl 5 (by decide) gw_251 rfl rfl d_CaseLayout_most_24 ?_
  obtain ⟨r2, x2, hc2, hf⟩ := gx_bd_some hf
  refine gx_cVv (n2 := 1) (k2 := 6) C (As := []) (rest := []) 25 0 (c_Search_forget K.l  (gx_sI x1 6 a1) _ hc2) (Or.inl rfl) rfl (gx_goodV gw_376 gw_377 gw_378 gw_8 gw_379) (by decide +kernel) (gx_w25 E _) rfl (by rw [hR]; decide) rfl rfl (Nat.le_of_ble_eq_true rfl) d_CaseLayout_most_27 (by rw [hR]; decide) rfl rfl ?_
  refine gx_iload_n C 0 d_CaseLayout_most_30 rfl rfl ?_
  cases hf
  exact gx_iretX C hr hlk hk d_CaseLayout_most_31

def s_Grid_carries_47 (v1 : Int32) (v2 : Int32) (v3 : Int32) (v4 : Int32) (v5 : Int32) (v6 : Int32) (a : Int32 × gx_S) : Option ((Int32 × gx_S) ⊕ (Nat × Int32 × gx_S)) :=
  if (v1 + v3) ≤ a.1 then (some (.inr (1, a.1, a.2))) else (gx_bd (f_CaseLayout_cellOf a.1 v6 a.2) (fun r7 x7 => gx_ck r7 81 (if (gx_gA x7 0 (r7 : Int32).toNatClampNeg) = 0 then (if v5 = 0 then (some (.inl (a.1 + 1, x7))) else (gx_ck r7 81 (if (gx_gA x7 1 (r7 : Int32).toNatClampNeg) = v5 then (some (.inl (a.1 + 1, x7))) else (some (.inr (0, a.1, x7)))))) else (some (.inr (0, a.1, x7))))))
def s_Grid_carries_35 (v1 : Int32) (v2 : Int32) (v3 : Int32) (v4 : Int32) (v5 : Int32) (a : Int32 × gx_S) : Option ((Int32 × gx_S) ⊕ (Nat × Int32 × gx_S)) :=
  if (v2 + v4) ≤ a.1 then (some (.inr (1, a.1, a.2))) else (gx_bl (gx_it (s_Grid_carries_47 v1 v2 v3 v4 v5 a.1) gx_fuel (v1, a.2)) (fun e13 => if e13.1 = 0 then (some (.inr (0, a.1, e13.2.2))) else (some (.inl (a.1 + 1, e13.2.2)))))
def f_Grid_carries (a1 : Int32) (a2 : Int32) (a3 : Int32) (a4 : Int32) (a5 : Int32) (x : gx_S) : Option (Int32 × gx_S) :=
  gx_bd (f_Grid_holds a1 a2 x) (fun r1 x1 => if r1 = 0 then (some (0, x1)) else (if (gx_gI x1 0) < (a1 + a3) then (some (0, x1)) else (if (a2 + a4) ≤ (gx_gI x1 1) then (gx_bl (gx_it (s_Grid_carries_35 a1 a2 a3 a4 a5) gx_fuel (a2, x1)) (fun e15 => if e15.1 = 0 then (some (0, e15.2.2)) else (some (1, e15.2.2)))) else (some (0, x1)))))
abbrev rm_Grid_carries : Room := { frames := 1, cells := 0, slots := 0, locals := 22 }
def pp_Grid_carries_47 (K : gx_K) (E : gx_E) (v1 : Int32) (v2 : Int32) (v3 : Int32) (v4 : Int32) (v5 : Int32) (v6 : Int32) (a : Int32 × gx_S) : Prop := gx_G K E (gx_AB false E K.s.heap.size) 0 0 (a.2) 47 [(0, .ref (gx_ad E 0)), (1, .int v1), (2, .int v2), (3, .int v3), (4, .int v4), (5, .int v5), (6, .int v6), (7, .int a.1)] []
def pq_Grid_carries_47 (K : gx_K) (E : gx_E) (v1 : Int32) (v2 : Int32) (v3 : Int32) (v4 : Int32) (v5 : Int32) (v6 : Int32) (b : Nat × Int32 × gx_S) : Prop := if b.1 = 0 then gx_G K E (gx_AB false E K.s.heap.size) 0 0 (b.2.2) 91 [(1, .int v1), (2, .int v2), (3, .int v3), (4, .int v4), (5, .int v5), (6, .int v6)] [] else (gx_G K E (gx_AB false E K.s.heap.size) 0 0 (b.2.2) 99 [(0, .ref (gx_ad E 0)), (1, .int v1), (2, .int v2), (3, .int v3), (4, .int v4), (5, .int v5), (6, .int v6)] [])
def pp_Grid_carries_35 (K : gx_K) (E : gx_E) (v1 : Int32) (v2 : Int32) (v3 : Int32) (v4 : Int32) (v5 : Int32) (a : Int32 × gx_S) : Prop := gx_G K E (gx_AB false E K.s.heap.size) 0 0 (a.2) 35 [(0, .ref (gx_ad E 0)), (1, .int v1), (2, .int v2), (3, .int v3), (4, .int v4), (5, .int v5), (6, .int a.1)] []
def pq_Grid_carries_35 (K : gx_K) (E : gx_E) (v1 : Int32) (v2 : Int32) (v3 : Int32) (v4 : Int32) (v5 : Int32) (b : Nat × Int32 × gx_S) : Prop := if b.1 = 0 then gx_G K E (gx_AB false E K.s.heap.size) 0 0 (b.2.2) 91 [] [] else (gx_G K E (gx_AB false E K.s.heap.size) 0 0 (b.2.2) 105 [] [])
set_option maxHeartbeats 4000000 in
set_option maxRecDepth 100000 in
theorem sc_Grid_carries_47 {K : gx_K} {E : gx_E} (C : gx_C K E "CaseLayout$Grid" prog_4_method_4_code 9) (hR : K.R = rm_Grid_carries) (hr : K.meth.sig.returnType = (some .boolean)) (hlk : K.meth.locks = false) (v1 : Int32) (v2 : Int32) (v3 : Int32) (v4 : Int32) (v5 : Int32) (v6 : Int32) (a : Int32 × gx_S) (o : (Int32 × gx_S) ⊕ (Nat × Int32 × gx_S)) (hf : s_Grid_carries_47 v1 v2 v3 v4 v5 v6 a = some o) (hk : gx_or (pp_Grid_carries_47 K E v1 v2 v3 v4 v5 v6) (pq_Grid_carries_47 K E v1 v2 v3 v4 v5 v6) o) : pp_Grid_carries_47 K E v1 v2 v3 v4 v5 v6 a := by
  unfold s_Grid_carries_47 at hf
  unfold pp_Grid_carries_47
  refine gx_iload C 7 d_Grid_carries_47 rfl ?_
  refine gx_iload_n C 1 d_Grid_carries_49 rfl rfl ?_
  refine gx_iload_n C 3 d_Grid_carries_50 rfl rfl ?_
  refine gx_iadd C d_Grid_carries_51 ?_
  refine gx_icmp_ge (tgt := 99) C d_Grid_carries_52 (by decide) (fun h6 => ?_) (fun h6 => ?_)
  · have hf := (if_pos h6).symm.trans hf
    cases hf
    have hk : pq_Grid_carries_47 K E v1 v2 v3 v4 v5 v6 _ := hk
    unfold pq_Grid_carries_47 at hk
    have hk := gx_ifn (by decide : ¬ ((1 : Nat) = 0)) hk
    refine gx_lv (lv' := [(0, .ref (gx_ad E 0)), (1, .int v1), (2, .int v2), (3, .int v3), (4, .int v4), (5, .int v5), (6, .int v6)]) [0, 1, 2, 3, 4, 5, 6] rfl ?_
    exact hk
  · have hf := (if_neg h6).symm.trans hf
    refine gx_iload C 7 d_Grid_carries_55 rfl ?_
    refine gx_iload C 6 d_Grid_carries_57 rfl ?_
    obtain ⟨r7, x7, hc7, hf⟩ := gx_bd_some hf
    refine gx_cSNi (n2 := 0) (k2 := 0) C (As := [.int a.1, .int v6]) (rest := []) 2 (c_CaseLayout_cellOf K.l a.1 v6 a.2 _ hc7) (Or.inr rfl) rfl gw_362 gn_534 gw_1 gw_361 (by decide +kernel) (by rw [hR]; decide) rfl rfl (Nat.le_of_ble_eq_true rfl) d_Grid_carries_59 (by rw [hR]; decide) rfl rfl ?_
    refine gx_istore C (lv' := [(8, .int r7), (0, .ref (gx_ad E 0)), (1, .int v1), (2, .int v2), (3, .int v3), (4, .int v4), (5, .int v5), (6, .int v6), (7, .int a.1)]) d_Grid_carries_62 (by decide) rfl ?_
    refine gx_aload_n C 1 d_Grid_carries_64 rfl rfl ?_
    refine gx_get C iw_Grid 0 (gx_w0 E _) rfl 2 (by decide) gw_46 rfl rfl d_Grid_carries_65 ?_
    refine gx_iload C 0 d_Grid_carries_68 rfl ?_
    obtain ⟨hi8, hf⟩ := gx_ck_some hf
    refine gx_zald C 1 1 (gx_w1 E _) rfl hi8 d_Grid_carries_70 ?_
    refine gx_if_ne (tgt := 91) C d_Grid_carries_71 (by decide) (fun h9 => ?_) (fun h9 => ?_)
    · have hf := (if_neg h9).symm.trans hf
      cases hf
      have hk : pq_Grid_carries_47 K E v1 v2 v3 v4 v5 v6 _ := hk
      unfold pq_Grid_carries_47 at hk
      have hk := gx_ifp (rfl : (0 : Nat) = 0) hk
      refine gx_lv (lv' := [(1, .int v1), (2, .int v2), (3, .int v3), (4, .int v4), (5, .int v5), (6, .int v6)]) [2, 3, 4, 5, 6, 7] rfl ?_
      exact hk
    · have hf := (if_pos h9).symm.trans hf
      refine gx_iload C 6 d_Grid_carries_74 rfl ?_
      refine gx_if_eq (tgt := 93) C d_Grid_carries_76 (by decide) (fun h10 => ?_) (fun h10 => ?_)
      · have hf := (if_pos h10).symm.trans hf
        refine gx_iinc C (v := a.1 + 1) (lv' := [(7, .int (a.1 + 1)), (8, .int r7), (0, .ref (gx_ad E 0)), (1, .int v1), (2, .int v2), (3, .int v3), (4, .int v4), (5, .int v5), (6, .int v6)]) 8 d_Grid_carries_93 rfl rfl (by decide) rfl ?_
        refine gx_goto (tgt := 47) C d_Grid_carries_96 (by decide) ?_
        cases hf
        refine gx_lv (lv' := [(0, .ref (gx_ad E 0)), (1, .int v1), (2, .int v2), (3, .int v3), (4, .int v4), (5, .int v5), (6, .int v6), (7, .int (a.1 + 1))]) [2, 3, 4, 5, 6, 7, 8, 0] rfl ?_
        exact hk
      · have hf := (if_neg h10).symm.trans hf
        refine gx_aload_n C 1 d_Grid_carries_79 rfl rfl ?_
        refine gx_get C iw_Grid 0 (gx_w0 E _) rfl 3 (by decide) gw_49 rfl rfl d_Grid_carries_80 ?_
        refine gx_iload C 0 d_Grid_carries_83 rfl ?_
        obtain ⟨hi11, hf⟩ := gx_ck_some hf
        refine gx_iald C 2 0 (gx_w2 E _) rfl hi11 d_Grid_carries_85 ?_
        refine gx_iload C 6 d_Grid_carries_86 rfl ?_
        refine gx_icmp_eq (tgt := 93) C d_Grid_carries_88 (by decide) (fun h12 => ?_) (fun h12 => ?_)
        · have hf := (if_pos h12).symm.trans hf
          refine gx_iinc C (v := a.1 + 1) (lv' := [(7, .int (a.1 + 1)), (8, .int r7), (0, .ref (gx_ad E 0)), (1, .int v1), (2, .int v2), (3, .int v3), (4, .int v4), (5, .int v5), (6, .int v6)]) 8 d_Grid_carries_93 rfl rfl (by decide) rfl ?_
          refine gx_goto (tgt := 47) C d_Grid_carries_96 (by decide) ?_
          cases hf
          refine gx_lv (lv' := [(0, .ref (gx_ad E 0)), (1, .int v1), (2, .int v2), (3, .int v3), (4, .int v4), (5, .int v5), (6, .int v6), (7, .int (a.1 + 1))]) [2, 3, 4, 5, 6, 7, 8, 0] rfl ?_
          exact hk
        · have hf := (if_neg h12).symm.trans hf
          cases hf
          have hk : pq_Grid_carries_47 K E v1 v2 v3 v4 v5 v6 _ := hk
          unfold pq_Grid_carries_47 at hk
          have hk := gx_ifp (rfl : (0 : Nat) = 0) hk
          refine gx_lv (lv' := [(1, .int v1), (2, .int v2), (3, .int v3), (4, .int v4), (5, .int v5), (6, .int v6)]) [2, 3, 4, 5, 6, 7] rfl ?_
          exact hk
set_option maxHeartbeats 4000000 in
set_option maxRecDepth 100000 in
theorem sc_Grid_carries_35 {K : gx_K} {E : gx_E} (C : gx_C K E "CaseLayout$Grid" prog_4_method_4_code 9) (hR : K.R = rm_Grid_carries) (hr : K.meth.sig.returnType = (some .boolean)) (hlk : K.meth.locks = false) (v1 : Int32) (v2 : Int32) (v3 : Int32) (v4 : Int32) (v5 : Int32) (a : Int32 × gx_S) (o : (Int32 × gx_S) ⊕ (Nat × Int32 × gx_S)) (hf : s_Grid_carries_35 v1 v2 v3 v4 v5 a = some o) (hk : gx_or (pp_Grid_carries_35 K E v1 v2 v3 v4 v5) (pq_Grid_carries_35 K E v1 v2 v3 v4 v5) o) : pp_Grid_carries_35 K E v1 v2 v3 v4 v5 a := by
  unfold s_Grid_carries_35 at hf
  unfold pp_Grid_carries_35
  refine gx_iload C 6 d_Grid_carries_35 rfl ?_
  refine gx_iload_n C 2 d_Grid_carries_37 rfl rfl ?_
  refine gx_iload C 4 d_Grid_carries_38 rfl ?_
  refine gx_iadd C d_Grid_carries_40 ?_
  refine gx_icmp_ge (tgt := 105) C d_Grid_carries_41 (by decide) (fun h5 => ?_) (fun h5 => ?_)
  · have hf := (if_pos h5).symm.trans hf
    cases hf
    have hk : pq_Grid_carries_35 K E v1 v2 v3 v4 v5 _ := hk
    unfold pq_Grid_carries_35 at hk
    have hk := gx_ifn (by decide : ¬ ((1 : Nat) = 0)) hk
    refine gx_lv (lv' := []) [] rfl ?_
    exact hk
  · have hf := (if_neg h5).symm.trans hf
    refine gx_iload_n C 1 d_Grid_carries_44 rfl rfl ?_
    refine gx_istore C (lv' := [(7, .int v1), (0, .ref (gx_ad E 0)), (1, .int v1), (2, .int v2), (3, .int v3), (4, .int v4), (5, .int v5), (6, .int a.1)]) d_Grid_carries_45 (by decide) rfl ?_
    refine gx_lv (lv' := [(0, .ref (gx_ad E 0)), (1, .int v1), (2, .int v2), (3, .int v3), (4, .int v4), (5, .int v5), (6, .int a.1), (7, .int v1)]) [1, 2, 3, 4, 5, 6, 7, 0] rfl ?_
    obtain ⟨e13, he13, hf⟩ := gx_bl_some hf
    refine (gx_loop (P := pp_Grid_carries_47 K E v1 v2 v3 v4 v5 a.1) (Q := pq_Grid_carries_47 K E v1 v2 v3 v4 v5 a.1) (fun a9 o9 h1 h2 => sc_Grid_carries_47 C hR hr hlk v1 v2 v3 v4 v5 a.1 a9 o9 h1 h2) gx_fuel (v1, a.2) e13 he13 ?_ : pp_Grid_carries_47 K E v1 v2 v3 v4 v5 a.1 (v1, a.2))
    unfold pq_Grid_carries_47
    by_cases ht14 : e13.1 = 0
    · rw [if_pos ht14]
      have hf := (if_pos ht14).symm.trans hf
      cases hf
      have hk : pq_Grid_carries_35 K E v1 v2 v3 v4 v5 _ := hk
      unfold pq_Grid_carries_35 at hk
      have hk := gx_ifp (rfl : (0 : Nat) = 0) hk
      refine gx_lv (lv' := []) [] rfl ?_
      exact hk
    · rw [if_neg ht14]
      have hf := (if_neg ht14).symm.trans hf
      refine gx_iinc C (v := a.1 + 1) (lv' := [(6, .int (a.1 + 1)), (0, .ref (gx_ad E 0)), (1, .int v1), (2, .int v2), (3, .int v3), (4, .int v4), (5, .int v5)]) 6 d_Grid_carries_99 rfl rfl (by decide) rfl ?_
      refine gx_goto (tgt := 35) C d_Grid_carries_102 (by decide) ?_
      cases hf
      refine gx_lv (lv' := [(0, .ref (gx_ad E 0)), (1, .int v1), (2, .int v2), (3, .int v3), (4, .int v4), (5, .int v5), (6, .int (a.1 + 1))]) [1, 2, 3, 4, 5, 6, 0] rfl ?_
      exact hk
set_option maxHeartbeats 4000000 in
set_option maxRecDepth 100000 in
theorem c_Grid_carries (l : Launch) (a1 : Int32) (a2 : Int32) (a3 : Int32) (a4 : Int32) (a5 : Int32) (x : gx_S) (o : Int32 × gx_S) (hf : f_Grid_carries a1 a2 a3 a4 a5 x = some o) : gx_Mi false l y_Grid_carries prog_4_method_4_code 9 (some .boolean) rm_Grid_carries (fun E => [.ref (gx_ad E 0), .int a1, .int a2, .int a3, .int a4, .int a5]) x o.1 o.2 := by
  refine gx_meti (own := "CaseLayout$Grid") (by decide) rfl (fun E => Nat.le_of_ble_eq_true rfl) (fun K E hl0 hR hr hlk hk C => ?_)
  subst hl0
  unfold f_Grid_carries at hf
  show gx_G K E _ 0 0 x 0 [(0, .ref (gx_ad E 0)), (1, .int a1), (2, .int a2), (3, .int a3), (4, .int a4), (5, .int a5)] []
  refine gx_aload_n C 0 d_Grid_carries_0 rfl rfl ?_
  refine gx_iload_n C 1 d_Grid_carries_1 rfl rfl ?_
  refine gx_iload_n C 2 d_Grid_carries_2 rfl rfl ?_
  obtain ⟨r1, x1, hc1, hf⟩ := gx_bd_some hf
  refine gx_cVi (n2 := 0) (k2 := 0) C (As := [.int a1, .int a2]) (rest := []) 0 2 (c_Grid_holds K.l a1 a2 x _ hc1) (Or.inr rfl) rfl (gx_goodV gw_533 gw_289 gw_290 gw_2 gw_291) (by decide +kernel) (gx_w0 E _) rfl (by rw [hR]; decide) rfl rfl (Nat.le_of_ble_eq_true rfl) d_Grid_carries_3 (by rw [hR]; decide) rfl rfl ?_
  refine gx_if_eq (tgt := 30) C d_Grid_carries_6 (by decide) (fun h2 => ?_) (fun h2 => ?_)
  · have hf := (if_pos h2).symm.trans hf
    refine gx_iconst C (v := 0) d_Grid_carries_30 (by decide) ?_
    cases hf
    exact gx_zret C hr hlk hk (by decide) d_Grid_carries_31
  · have hf := (if_neg h2).symm.trans hf
    refine gx_iload_n C 1 d_Grid_carries_9 rfl rfl ?_
    refine gx_iload_n C 3 d_Grid_carries_10 rfl rfl ?_
    refine gx_iadd C d_Grid_carries_11 ?_
    refine gx_aload_n C 0 d_Grid_carries_12 rfl rfl ?_
    refine gx_get C iw_Grid 0 (gx_w0 E _) rfl 0 (by decide) gw_42 rfl rfl d_Grid_carries_13 ?_
    refine gx_icmp_gt (tgt := 30) C d_Grid_carries_16 (by decide) (fun h3 => ?_) (fun h3 => ?_)
    · have hf := (if_pos h3).symm.trans hf
      refine gx_iconst C (v := 0) d_Grid_carries_30 (by decide) ?_
      cases hf
      exact gx_zret C hr hlk hk (by decide) d_Grid_carries_31
    · have hf := (if_neg h3).symm.trans hf
      refine gx_iload_n C 2 d_Grid_carries_19 rfl rfl ?_
      refine gx_iload C 4 d_Grid_carries_20 rfl ?_
      refine gx_iadd C d_Grid_carries_22 ?_
      refine gx_aload_n C 0 d_Grid_carries_23 rfl rfl ?_
      refine gx_get C iw_Grid 0 (gx_w0 E _) rfl 1 (by decide) gw_44 rfl rfl d_Grid_carries_24 ?_
      refine gx_icmp_le (tgt := 32) C d_Grid_carries_27 (by decide) (fun h4 => ?_) (fun h4 => ?_)
      · have hf := (if_pos h4).symm.trans hf
        refine gx_iload_n C 2 d_Grid_carries_32 rfl rfl ?_
        refine gx_istore C (lv' := [(6, .int a2), (0, .ref (gx_ad E 0)), (1, .int a1), (2, .int a2), (3, .int a3), (4, .int a4), (5, .int a5)]) d_Grid_carries_33 (by decide) rfl ?_
        refine gx_lv (lv' := [(0, .ref (gx_ad E 0)), (1, .int a1), (2, .int a2), (3, .int a3), (4, .int a4), (5, .int a5), (6, .int a2)]) [1, 2, 3, 4, 5, 6, 0] rfl ?_
        obtain ⟨e15, he15, hf⟩ := gx_bl_some hf
        refine (gx_loop (P := pp_Grid_carries_35 K E a1 a2 a3 a4 a5) (Q := pq_Grid_carries_35 K E a1 a2 a3 a4 a5) (fun a9 o9 h1 h2 => sc_Grid_carries_35 C hR hr hlk a1 a2 a3 a4 a5 a9 o9 h1 h2) gx_fuel (a2, x1) e15 he15 ?_ : pp_Grid_carries_35 K E a1 a2 a3 a4 a5 (a2, x1))
        unfold pq_Grid_carries_35
        by_cases ht16 : e15.1 = 0
        · rw [if_pos ht16]
          have hf := (if_pos ht16).symm.trans hf
          refine gx_iconst C (v := 0) d_Grid_carries_91 (by decide) ?_
          cases hf
          exact gx_zret C hr hlk hk (by decide) d_Grid_carries_92
        · rw [if_neg ht16]
          have hf := (if_neg ht16).symm.trans hf
          refine gx_iconst C (v := 1) d_Grid_carries_105 (by decide) ?_
          cases hf
          exact gx_zret C hr hlk hk (by decide) d_Grid_carries_106
      · have hf := (if_neg h4).symm.trans hf
        refine gx_iconst C (v := 0) d_Grid_carries_30 (by decide) ?_
        cases hf
        exact gx_zret C hr hlk hk (by decide) d_Grid_carries_31
