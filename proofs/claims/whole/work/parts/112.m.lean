def f_CaseLayout_run (a1 : Int32) (x : gx_S) : Option (Nat × Int32 × gx_S) :=
  gx_bx (f_CaseLayout_needWithin a1 0 20000 x) (fun r1 x1 => gx_bd (f_Search_begin a1 x1) (fun r2 x2 => gx_bd (f_Search_tryThing 9 0 0 x2) (fun r3 x3 => if r3 = 0 then (some (0, 1, x3)) else (gx_bd (f_Search_hasFound  x3) (fun r5 x5 => if r5 = 0 then (some (0, 2, x5)) else (some (0, 0, x5)))))))
abbrev rm_CaseLayout_run : Room := { frames := 15, cells := 1, slots := 6, locals := 357 }
set_option maxHeartbeats 4000000 in
set_option maxRecDepth 100000 in
theorem c_CaseLayout_run (l : Launch) (hlt : l.stackTraces = false) (a1 : Int32) (x : gx_S) (o : Nat × Int32 × gx_S) (hf : f_CaseLayout_run a1 x = some o) : gx_MX true l y_CaseLayout_run prog_1_method_11_code 2 (some .int) rm_CaseLayout_run (fun E => [.ref (gx_ad E 28), .int a1]) x (some (.int o.2.1)) o.1 o.2.2 := by
  refine gx_metX (own := "CaseLayout") (by decide) rfl (fun E => Nat.le_of_ble_eq_true rfl) (fun K E hl0 hR hr hlk hnh hLT hk C => ?_)
  subst hl0
  unfold f_CaseLayout_run at hf
  show gx_G K E (gx_AB false E K.s.heap.size) 0 0 x 0 [(0, .ref (gx_ad E 28)), (1, .int a1)] []
  refine gx_iload_n C 1 d_CaseLayout_run_0 rfl rfl ?_
  refine gx_iconst C (v := 0) d_CaseLayout_run_1 (by decide) ?_
  refine gx_sipush C (v := 20000) d_CaseLayout_run_2 (by decide) ?_
  obtain ⟨j1, r1, x1, hc1, ⟨hq1, hf⟩ | ⟨hq1, hf⟩⟩ := gx_bx_some hf
  rotate_left
  · subst hf
    refine gx_cSx (n2 := 1) (k2 := 6) C hq1 (As := [.int a1, .int 0, .int 20000]) (rest := []) 3 (c_CaseLayout_needWithin K.l hlt a1 0 20000 x _ hc1) (Or.inr rfl) rfl (gx_goodS gw_388 gw_389 gw_1 gw_390) (by decide +kernel) (by rw [hR]; decide) rfl rfl (Nat.le_of_ble_eq_true rfl) d_CaseLayout_run_5 (by rw [hR]; decide) rfl rfl ?_
    refine gx_H.toF ?_
    exact gx_outX hq1 hnh hlk hk
  subst hq1
  refine gx_cSv (n2 := 1) (k2 := 6) C (As := [.int a1, .int 0, .int 20000]) (rest := []) 3 (c_CaseLayout_needWithin K.l hlt a1 0 20000 x _ hc1).toV (Or.inr rfl) rfl (gx_goodS gw_388 gw_389 gw_1 gw_390) (by decide +kernel) (by rw [hR]; decide) rfl rfl (Nat.le_of_ble_eq_true rfl) d_CaseLayout_run_5 (by rw [hR]; decide) rfl rfl ?_
  refine gx_aload_n C 0 d_CaseLayout_run_8 rfl rfl ?_
  refine gx_get C iw_CaseLayout 28 (gx_w28 E _) rfl 5 (by decide) gw_251 rfl rfl d_CaseLayout_run_9 ?_
  refine gx_iload_n C 1 d_CaseLayout_run_12 rfl rfl ?_
  refine gx_toF ?_
  obtain ⟨r2, x2, hc2, hf⟩ := gx_bd_some hf
  refine gx_cVv (n2 := 1) (k2 := 6) C (As := [.int a1]) (rest := []) 25 1 (c_Search_begin K.l a1 x1 _ hc2) (Or.inl rfl) rfl (gx_goodV gw_520 gw_521 gw_522 gw_8 gw_523) (by decide +kernel) (gx_w25 E _) rfl (by rw [hR]; decide) rfl rfl (Nat.le_of_ble_eq_true rfl) d_CaseLayout_run_13 (by rw [hR]; decide) rfl rfl ?_
  refine gx_aload_n C 0 d_CaseLayout_run_16 rfl rfl ?_
  refine gx_get C iw_CaseLayout 28 (gx_w28 E _) rfl 5 (by decide) gw_251 rfl rfl d_CaseLayout_run_17 ?_
  refine gx_iconst C (v := 0) d_CaseLayout_run_20 (by decide) ?_
  refine gx_iconst C (v := 0) d_CaseLayout_run_21 (by decide) ?_
  obtain ⟨r3, x3, hc3, hf⟩ := gx_bd_some hf
  refine gx_cVi (n2 := 1) (k2 := 6) C (As := [.int 0, .int 0]) (rest := []) 25 2 (c_Search_tryThing K.l 9 0 0 x2 _ hc3) (Or.inl rfl) rfl (gx_goodV gw_536 gw_537 gw_538 gw_8 gw_539) (by decide +kernel) (gx_w25 E _) rfl (by rw [hR]; decide) rfl rfl (Nat.le_of_ble_eq_true rfl) d_CaseLayout_run_22 (by rw [hR]; decide) rfl rfl ?_
  refine gx_if_ne (tgt := 30) C d_CaseLayout_run_25 (by decide) (fun h4 => ?_) (fun h4 => ?_)
  · have hf := (if_neg h4).symm.trans hf
    refine gx_aload_n C 0 d_CaseLayout_run_30 rfl rfl ?_
    refine gx_get C iw_CaseLayout 28 (gx_w28 E _) rfl 5 (by decide) gw_251 rfl rfl d_CaseLayout_run_31 ?_
    obtain ⟨r5, x5, hc5, hf⟩ := gx_bd_some hf
    refine gx_cVi (n2 := 1) (k2 := 6) C (As := []) (rest := []) 25 0 (c_Search_hasFound K.l  x3 _ hc5) (Or.inl rfl) rfl (gx_goodV gw_623 gw_624 gw_625 gw_8 gw_626) (by decide +kernel) (gx_w25 E _) rfl (by rw [hR]; decide) rfl rfl (Nat.le_of_ble_eq_true rfl) d_CaseLayout_run_34 (by rw [hR]; decide) rfl rfl ?_
    refine gx_if_eq (tgt := 44) C d_CaseLayout_run_37 (by decide) (fun h6 => ?_) (fun h6 => ?_)
    · have hf := (if_pos h6).symm.trans hf
      refine gx_iconst C (v := 2) d_CaseLayout_run_44 (by decide) ?_
      cases hf
      exact gx_iretX C hr hlk hk d_CaseLayout_run_45
    · have hf := (if_neg h6).symm.trans hf
      refine gx_iconst C (v := 0) d_CaseLayout_run_40 (by decide) ?_
      refine gx_goto (tgt := 45) C d_CaseLayout_run_41 (by decide) ?_
      cases hf
      exact gx_iretX C hr hlk hk d_CaseLayout_run_45
  · have hf := (if_pos h4).symm.trans hf
    refine gx_iconst C (v := 1) d_CaseLayout_run_28 (by decide) ?_
    cases hf
    exact gx_iretX C hr hlk hk d_CaseLayout_run_29

def f_CaseLayout_nodes  (x : gx_S) : Option (Int32 × gx_S) :=
  some (gx_gI x 9, x)
abbrev rm_CaseLayout_nodes : Room := { frames := 0, cells := 0, slots := 0, locals := 0 }
set_option maxHeartbeats 4000000 in
set_option maxRecDepth 100000 in
theorem c_CaseLayout_nodes (l : Launch)  (x : gx_S) (o : Int32 × gx_S) (hf : f_CaseLayout_nodes  x = some o) : gx_Mi false l y_CaseLayout_nodes prog_1_method_12_code 1 (some .int) rm_CaseLayout_nodes (fun E => [.ref (gx_ad E 28)]) x o.1 o.2 := by
  refine gx_meti (own := "CaseLayout") (by decide) rfl (fun E => Nat.le_of_ble_eq_true rfl) (fun K E hl0 hR hr hlk hk C => ?_)
  subst hl0
  unfold f_CaseLayout_nodes at hf
  show gx_G K E _ 0 0 x 0 [(0, .ref (gx_ad E 28))] []
  refine gx_aload_n C 0 d_CaseLayout_nodes_0 rfl rfl ?_
  refine gx_get C iw_CaseLayout 28 (gx_w28 E _) rfl 5 (by decide) gw_251 rfl rfl d_CaseLayout_nodes_1 ?_
  refine gx_getN C iw_Search 25 (gx_w25 E _) rfl 10 (by decide) gn_218 rfl rfl d_CaseLayout_nodes_4 ?_
  cases hf
  exact gx_iret C hr hlk hk d_CaseLayout_nodes_7

def f_CaseLayout_needFound  (x : gx_S) : Option (Nat × Int32 × gx_S) :=
  gx_bd (f_Search_hasFound  x) (fun r1 x1 => if r1 = 0 then (some (2, 0, x1)) else (some (0, 0, x1)))
abbrev rm_CaseLayout_needFound : Room := { frames := 6, cells := 1, slots := 6, locals := 82 }
set_option maxHeartbeats 4000000 in
set_option maxRecDepth 100000 in
theorem c_CaseLayout_needFound (l : Launch) (hlt : l.stackTraces = false)  (x : gx_S) (o : Nat × Int32 × gx_S) (hf : f_CaseLayout_needFound  x = some o) : gx_MX false l y_CaseLayout_needFound prog_1_method_22_code 1 none rm_CaseLayout_needFound (fun E => [.ref (gx_ad E 28)]) x none o.1 o.2.2 := by
  refine gx_metX (own := "CaseLayout") (by decide) rfl (fun E => Nat.le_of_ble_eq_true rfl) (fun K E hl0 hR hr hlk hnh hLT hk C => ?_)
  subst hl0
  unfold f_CaseLayout_needFound at hf
  show gx_G K E (gx_AB false E K.s.heap.size) 0 0 x 0 [(0, .ref (gx_ad E 28))] []
  refine gx_aload_n C 0 d_CaseLayout_needFound_0 rfl rfl ?_
  refine gx_get C iw_CaseLayout 28 (gx_w28 E _) rfl 5 (by decide) gw_251 rfl rfl d_CaseLayout_needFound_1 ?_
  obtain ⟨r1, x1, hc1, hf⟩ := gx_bd_some hf
  refine gx_cVi (n2 := 0) (k2 := 0) C (As := []) (rest := []) 25 0 (c_Search_hasFound K.l  x _ hc1) (Or.inr rfl) rfl (gx_goodV gw_623 gw_624 gw_625 gw_8 gw_626) (by decide +kernel) (gx_w25 E _) rfl (by rw [hR]; decide) rfl rfl (Nat.le_of_ble_eq_true rfl) d_CaseLayout_needFound_4 (by rw [hR]; decide) rfl rfl ?_
  refine gx_if_ne (tgt := 20) C d_CaseLayout_needFound_7 (by decide) (fun h2 => ?_) (fun h2 => ?_)
  · have hf := (if_neg h2).symm.trans hf
    cases hf
    refine gx_widen (n' := 1) (k' := 6) (by decide) (by decide) ?_
    exact gx_vretX C hr hlk hk d_CaseLayout_needFound_20
  · have hf := (if_pos h2).symm.trans hf
    cases hf
    exact gx_throw (w := false) (j := 2) (tx := "no layout is found") (names := ["java/lang/RuntimeException", "java/lang/Exception"]) C (by decide) hLT hlt hnh hlk gw_415 gw_416 gw_16 (by decide +kernel) (ga_CaseLayout_100 C) (by decide +kernel) (by decide +kernel) d_CaseLayout_needFound_10 d_CaseLayout_needFound_13 d_CaseLayout_needFound_14 d_CaseLayout_needFound_16 d_CaseLayout_needFound_19 (by rw [hR]; decide) (by rw [hR]; exact Nat.le_of_ble_eq_true rfl) (by rw [hR]; decide) (by rw [hR]; decide) hk

def j_CaseLayout_at_24 (v1 : Int32) (v2 : Int32) (x : gx_S) : Option (Nat × Int32 × gx_S) :=
  gx_bx (f_CaseLayout_needFound  x) (fun r3 x3 => if v2 = 0 then (gx_ck v1 7 (some (0, gx_gA x3 16 (v1 : Int32).toNatClampNeg, x3))) else (gx_ck v1 7 (some (0, gx_gA x3 17 (v1 : Int32).toNatClampNeg, x3))))
def f_CaseLayout_at (a1 : Int32) (a2 : Int32) (x : gx_S) : Option (Nat × Int32 × gx_S) :=
  gx_bx (f_CaseLayout_needThing a1 x) (fun r1 x1 => if a2 = 0 then (j_CaseLayout_at_24 a1 a2  x1) else (if a2 = 1 then (j_CaseLayout_at_24 a1 a2  x1) else (some (1, 0, x1))))
abbrev rm_CaseLayout_at : Room := { frames := 7, cells := 2, slots := 12, locals := 103 }
set_option maxHeartbeats 4000000 in
set_option maxRecDepth 100000 in
theorem jc_CaseLayout_at_24 {K : gx_K} {E : gx_E} (C : gx_C K E "CaseLayout" prog_1_method_13_code 3) (hR : K.R = rm_CaseLayout_at) (hr : K.meth.sig.returnType = (some .int)) (hlk : K.meth.locks = false) (hlt : K.l.stackTraces = false) (hnh : K.c.exceptionTable.isEmpty = true) (hLT : gx_LT E K.s.heap.size) (v1 : Int32) (v2 : Int32) (x : gx_S) (o : Nat × Int32 × gx_S) (hf : j_CaseLayout_at_24 v1 v2 x = some o) (hk : ∀ t, gx_MQX K.below (gx_QX E (gx_AB false E K.s.heap.size) (some (.int o.2.1)) o.1 o.2.2) K.args K.s 2 12 (gx_AB false E K.s.heap.size) t → K.Q t) : gx_G K E (gx_AB false E K.s.heap.size) 1 6 x 24 [(0, .ref (gx_ad E 28)), (1, .int v1), (2, .int v2)] [] := by
  unfold j_CaseLayout_at_24 at hf
  refine gx_aload_n C 0 d_CaseLayout_at_24 rfl rfl ?_
  obtain ⟨j3, r3, x3, hc3, ⟨hq3, hf⟩ | ⟨hq3, hf⟩⟩ := gx_bx_some hf
  rotate_left
  · subst hf
    refine gx_cVx (n2 := 2) (k2 := 12) C hq3 (As := []) (rest := []) 28 0 (c_CaseLayout_needFound K.l hlt  x _ hc3) (Or.inr rfl) rfl (gx_goodV gw_635 gw_637 gs_15 gw_1 gw_638) (by decide +kernel) (gx_w28 E _) rfl (by rw [hR]; decide) rfl rfl (Nat.le_of_ble_eq_true rfl) d_CaseLayout_at_25 (by rw [hR]; decide) rfl rfl ?_
    exact gx_outX hq3 hnh hlk hk
  subst hq3
  refine gx_cVv (n2 := 2) (k2 := 12) C (As := []) (rest := []) 28 0 (c_CaseLayout_needFound K.l hlt  x _ hc3).toV (Or.inr rfl) rfl (gx_goodV gw_635 gw_637 gs_15 gw_1 gw_638) (by decide +kernel) (gx_w28 E _) rfl (by rw [hR]; decide) rfl rfl (Nat.le_of_ble_eq_true rfl) d_CaseLayout_at_25 (by rw [hR]; decide) rfl rfl ?_
  refine gx_iload_n C 2 d_CaseLayout_at_28 rfl rfl ?_
  refine gx_if_ne (tgt := 47) C d_CaseLayout_at_29 (by decide) (fun h4 => ?_) (fun h4 => ?_)
  · have hf := (if_neg h4).symm.trans hf
    refine gx_aload_n C 0 d_CaseLayout_at_47 rfl rfl ?_
    refine gx_get C iw_CaseLayout 28 (gx_w28 E _) rfl 5 (by decide) gw_251 rfl rfl d_CaseLayout_at_48 ?_
    refine gx_getN C iw_Search 25 (gx_w25 E _) rfl 6 (by decide) gn_213 rfl rfl d_CaseLayout_at_51 ?_
    refine gx_getN C iw_Layout 22 (gx_w22 E _) rfl 2 (by decide) gn_198 rfl rfl d_CaseLayout_at_54 ?_
    refine gx_iload_n C 1 d_CaseLayout_at_57 rfl rfl ?_
    obtain ⟨hi5, hf⟩ := gx_ck_some hf
    refine gx_iald C 24 0 (gx_w24 E _) rfl hi5 d_CaseLayout_at_58 ?_
    cases hf
    exact gx_iretX C hr hlk hk d_CaseLayout_at_59
  · have hf := (if_pos h4).symm.trans hf
    refine gx_aload_n C 0 d_CaseLayout_at_32 rfl rfl ?_
    refine gx_get C iw_CaseLayout 28 (gx_w28 E _) rfl 5 (by decide) gw_251 rfl rfl d_CaseLayout_at_33 ?_
    refine gx_getN C iw_Search 25 (gx_w25 E _) rfl 6 (by decide) gn_213 rfl rfl d_CaseLayout_at_36 ?_
    refine gx_getN C iw_Layout 22 (gx_w22 E _) rfl 1 (by decide) gn_194 rfl rfl d_CaseLayout_at_39 ?_
    refine gx_iload_n C 1 d_CaseLayout_at_42 rfl rfl ?_
    obtain ⟨hi6, hf⟩ := gx_ck_some hf
    refine gx_iald C 23 0 (gx_w23 E _) rfl hi6 d_CaseLayout_at_43 ?_
    refine gx_goto (tgt := 59) C d_CaseLayout_at_44 (by decide) ?_
    cases hf
    exact gx_iretX C hr hlk hk d_CaseLayout_at_59
set_option maxHeartbeats 4000000 in
set_option maxRecDepth 100000 in
theorem c_CaseLayout_at (l : Launch) (hlt : l.stackTraces = false) (a1 : Int32) (a2 : Int32) (x : gx_S) (o : Nat × Int32 × gx_S) (hf : f_CaseLayout_at a1 a2 x = some o) : gx_MX false l y_CaseLayout_at prog_1_method_13_code 3 (some .int) rm_CaseLayout_at (fun E => [.ref (gx_ad E 28), .int a1, .int a2]) x (some (.int o.2.1)) o.1 o.2.2 := by
  refine gx_metX (own := "CaseLayout") (by decide) rfl (fun E => Nat.le_of_ble_eq_true rfl) (fun K E hl0 hR hr hlk hnh hLT hk C => ?_)
  subst hl0
  unfold f_CaseLayout_at at hf
  show gx_G K E (gx_AB false E K.s.heap.size) 0 0 x 0 [(0, .ref (gx_ad E 28)), (1, .int a1), (2, .int a2)] []
  refine gx_aload_n C 0 d_CaseLayout_at_0 rfl rfl ?_
  refine gx_iload_n C 1 d_CaseLayout_at_1 rfl rfl ?_
  obtain ⟨j1, r1, x1, hc1, ⟨hq1, hf⟩ | ⟨hq1, hf⟩⟩ := gx_bx_some hf
  rotate_left
  · subst hf
    refine gx_cVx (n2 := 1) (k2 := 6) C hq1 (As := [.int a1]) (rest := []) 28 1 (c_CaseLayout_needThing K.l hlt a1 x _ hc1) (Or.inr rfl) rfl (gx_goodV gw_446 gw_448 gs_3 gw_1 gw_449) (by decide +kernel) (gx_w28 E _) rfl (by rw [hR]; decide) rfl rfl (Nat.le_of_ble_eq_true rfl) d_CaseLayout_at_2 (by rw [hR]; decide) rfl rfl ?_
    refine gx_H.widen (n' := 2) (k' := 12) (by decide) (by decide) ?_
    exact gx_outX hq1 hnh hlk hk
  subst hq1
  refine gx_cVv (n2 := 1) (k2 := 6) C (As := [.int a1]) (rest := []) 28 1 (c_CaseLayout_needThing K.l hlt a1 x _ hc1).toV (Or.inr rfl) rfl (gx_goodV gw_446 gw_448 gs_3 gw_1 gw_449) (by decide +kernel) (gx_w28 E _) rfl (by rw [hR]; decide) rfl rfl (Nat.le_of_ble_eq_true rfl) d_CaseLayout_at_2 (by rw [hR]; decide) rfl rfl ?_
  refine gx_iload_n C 2 d_CaseLayout_at_5 rfl rfl ?_
  refine gx_if_eq (tgt := 24) C d_CaseLayout_at_6 (by decide) (fun h2 => ?_) (fun h2 => ?_)
  · have hf := (if_pos h2).symm.trans hf
    exact jc_CaseLayout_at_24 C hR hr hlk hlt hnh hLT a1 a2  x1 _ hf hk
  · have hf := (if_neg h2).symm.trans hf
    refine gx_iload_n C 2 d_CaseLayout_at_9 rfl rfl ?_
    refine gx_iconst C (v := 1) d_CaseLayout_at_10 (by decide) ?_
    refine gx_icmp_eq (tgt := 24) C d_CaseLayout_at_11 (by decide) (fun h7 => ?_) (fun h7 => ?_)
    · have hf := (if_pos h7).symm.trans hf
      exact jc_CaseLayout_at_24 C hR hr hlk hlt hnh hLT a1 a2  x1 _ hf hk
    · have hf := (if_neg h7).symm.trans hf
      cases hf
      exact gx_throw (w := false) (j := 1) (tx := "neither x nor y") (names := ["java/lang/RuntimeException", "java/lang/Exception"]) C (by decide) hLT hlt hnh hlk gw_292 gw_293 gw_14 (by decide +kernel) (ga_CaseLayout_171 C) (by decide +kernel) (by decide +kernel) d_CaseLayout_at_14 d_CaseLayout_at_17 d_CaseLayout_at_18 d_CaseLayout_at_20 d_CaseLayout_at_23 (by rw [hR]; decide) (by rw [hR]; exact Nat.le_of_ble_eq_true rfl) (by rw [hR]; decide) (by rw [hR]; decide) hk

def f_CaseLayout_worth  (x : gx_S) : Option (Int32 × gx_S) :=
  some (gx_gI x 10, x)
abbrev rm_CaseLayout_worth : Room := { frames := 0, cells := 0, slots := 0, locals := 0 }
set_option maxHeartbeats 4000000 in
set_option maxRecDepth 100000 in
theorem c_CaseLayout_worth (l : Launch)  (x : gx_S) (o : Int32 × gx_S) (hf : f_CaseLayout_worth  x = some o) : gx_Mi false l y_CaseLayout_worth prog_1_method_14_code 1 (some .int) rm_CaseLayout_worth (fun E => [.ref (gx_ad E 28)]) x o.1 o.2 := by
  refine gx_meti (own := "CaseLayout") (by decide) rfl (fun E => Nat.le_of_ble_eq_true rfl) (fun K E hl0 hR hr hlk hk C => ?_)
  subst hl0
  unfold f_CaseLayout_worth at hf
  show gx_G K E _ 0 0 x 0 [(0, .ref (gx_ad E 28))] []
  refine gx_aload_n C 0 d_CaseLayout_worth_0 rfl rfl ?_
  refine gx_get C iw_CaseLayout 28 (gx_w28 E _) rfl 5 (by decide) gw_251 rfl rfl d_CaseLayout_worth_1 ?_
  refine gx_getN C iw_Search 25 (gx_w25 E _) rfl 11 (by decide) gn_220 rfl rfl d_CaseLayout_worth_4 ?_
  cases hf
  exact gx_iret C hr hlk hk d_CaseLayout_worth_7

def f_CaseLayout_sight (a1 : Int32) (a2 : Int32) (x : gx_S) : Option (Nat × Int32 × gx_S) :=
  gx_bx (f_CaseLayout_needPlace a1 x) (fun r1 x1 => gx_bx (f_CaseLayout_needThing a2 x1) (fun r2 x2 => gx_bx (f_CaseLayout_needFound  x2) (fun r3 x3 => gx_bd (f_Floor_lay_2  x3) (fun r4 x4 => gx_ck a1 8 (gx_ck a1 8 (gx_bd (f_Floor_isSeen_2 a2 (gx_gA x4 7 (a1 : Int32).toNatClampNeg) (gx_gA x4 8 (a1 : Int32).toNatClampNeg) x4) (fun r7 x7 => gx_nb r7 (some (0, r7, x7)))))))))
abbrev rm_CaseLayout_sight : Room := { frames := 7, cells := 3, slots := 18, locals := 103 }
set_option maxHeartbeats 4000000 in
set_option maxRecDepth 100000 in
theorem c_CaseLayout_sight (l : Launch) (hlt : l.stackTraces = false) (a1 : Int32) (a2 : Int32) (x : gx_S) (o : Nat × Int32 × gx_S) (hf : f_CaseLayout_sight a1 a2 x = some o) : gx_MX true l y_CaseLayout_sight prog_1_method_15_code 3 (some .boolean) rm_CaseLayout_sight (fun E => [.ref (gx_ad E 28), .int a1, .int a2]) x (some (.int o.2.1)) o.1 o.2.2 := by
  refine gx_metX (own := "CaseLayout") (by decide) rfl (fun E => Nat.le_of_ble_eq_true rfl) (fun K E hl0 hR hr hlk hnh hLT hk C => ?_)
  subst hl0
  unfold f_CaseLayout_sight at hf
  show gx_G K E (gx_AB false E K.s.heap.size) 0 0 x 0 [(0, .ref (gx_ad E 28)), (1, .int a1), (2, .int a2)] []
  refine gx_aload_n C 0 d_CaseLayout_sight_0 rfl rfl ?_
  refine gx_iload_n C 1 d_CaseLayout_sight_1 rfl rfl ?_
  obtain ⟨j1, r1, x1, hc1, ⟨hq1, hf⟩ | ⟨hq1, hf⟩⟩ := gx_bx_some hf
  rotate_left
  · subst hf
    refine gx_cVx (n2 := 1) (k2 := 6) C hq1 (As := [.int a1]) (rest := []) 28 1 (c_CaseLayout_needPlace K.l hlt a1 x _ hc1) (Or.inr rfl) rfl (gx_goodV gw_485 gw_487 gs_4 gw_1 gw_488) (by decide +kernel) (gx_w28 E _) rfl (by rw [hR]; decide) rfl rfl (Nat.le_of_ble_eq_true rfl) d_CaseLayout_sight_2 (by rw [hR]; decide) rfl rfl ?_
    refine gx_H.widen (n' := 3) (k' := 18) (by decide) (by decide) ?_
    refine gx_H.toF ?_
    exact gx_outX hq1 hnh hlk hk
  subst hq1
  refine gx_cVv (n2 := 1) (k2 := 6) C (As := [.int a1]) (rest := []) 28 1 (c_CaseLayout_needPlace K.l hlt a1 x _ hc1).toV (Or.inr rfl) rfl (gx_goodV gw_485 gw_487 gs_4 gw_1 gw_488) (by decide +kernel) (gx_w28 E _) rfl (by rw [hR]; decide) rfl rfl (Nat.le_of_ble_eq_true rfl) d_CaseLayout_sight_2 (by rw [hR]; decide) rfl rfl ?_
  refine gx_aload_n C 0 d_CaseLayout_sight_5 rfl rfl ?_
  refine gx_iload_n C 2 d_CaseLayout_sight_6 rfl rfl ?_
  obtain ⟨j2, r2, x2, hc2, ⟨hq2, hf⟩ | ⟨hq2, hf⟩⟩ := gx_bx_some hf
  rotate_left
  · subst hf
    refine gx_cVx (n2 := 2) (k2 := 12) C hq2 (As := [.int a2]) (rest := []) 28 1 (c_CaseLayout_needThing K.l hlt a2 x1 _ hc2) (Or.inr rfl) rfl (gx_goodV gw_446 gw_448 gs_3 gw_1 gw_449) (by decide +kernel) (gx_w28 E _) rfl (by rw [hR]; decide) rfl rfl (Nat.le_of_ble_eq_true rfl) d_CaseLayout_sight_7 (by rw [hR]; decide) rfl rfl ?_
    refine gx_H.widen (n' := 3) (k' := 18) (by decide) (by decide) ?_
    refine gx_H.toF ?_
    exact gx_outX hq2 hnh hlk hk
  subst hq2
  refine gx_cVv (n2 := 2) (k2 := 12) C (As := [.int a2]) (rest := []) 28 1 (c_CaseLayout_needThing K.l hlt a2 x1 _ hc2).toV (Or.inr rfl) rfl (gx_goodV gw_446 gw_448 gs_3 gw_1 gw_449) (by decide +kernel) (gx_w28 E _) rfl (by rw [hR]; decide) rfl rfl (Nat.le_of_ble_eq_true rfl) d_CaseLayout_sight_7 (by rw [hR]; decide) rfl rfl ?_
  refine gx_aload_n C 0 d_CaseLayout_sight_10 rfl rfl ?_
  obtain ⟨j3, r3, x3, hc3, ⟨hq3, hf⟩ | ⟨hq3, hf⟩⟩ := gx_bx_some hf
  rotate_left
  · subst hf
    refine gx_cVx (n2 := 3) (k2 := 18) C hq3 (As := []) (rest := []) 28 0 (c_CaseLayout_needFound K.l hlt  x2 _ hc3) (Or.inr rfl) rfl (gx_goodV gw_635 gw_637 gs_15 gw_1 gw_638) (by decide +kernel) (gx_w28 E _) rfl (by rw [hR]; decide) rfl rfl (Nat.le_of_ble_eq_true rfl) d_CaseLayout_sight_11 (by rw [hR]; decide) rfl rfl ?_
    refine gx_H.toF ?_
    exact gx_outX hq3 hnh hlk hk
  subst hq3
  refine gx_cVv (n2 := 3) (k2 := 18) C (As := []) (rest := []) 28 0 (c_CaseLayout_needFound K.l hlt  x2 _ hc3).toV (Or.inr rfl) rfl (gx_goodV gw_635 gw_637 gs_15 gw_1 gw_638) (by decide +kernel) (gx_w28 E _) rfl (by rw [hR]; decide) rfl rfl (Nat.le_of_ble_eq_true rfl) d_CaseLayout_sight_11 (by rw [hR]; decide) rfl rfl ?_
  refine gx_aload_n C 0 d_CaseLayout_sight_14 rfl rfl ?_
  refine gx_get C iw_CaseLayout 28 (gx_w28 E _) rfl 4 (by decide) gw_250 rfl rfl d_CaseLayout_sight_15 ?_
  refine gx_aload_n C 0 d_CaseLayout_sight_18 rfl rfl ?_
  refine gx_get C iw_CaseLayout 28 (gx_w28 E _) rfl 5 (by decide) gw_251 rfl rfl d_CaseLayout_sight_19 ?_
  refine gx_getN C iw_Search 25 (gx_w25 E _) rfl 6 (by decide) gn_213 rfl rfl d_CaseLayout_sight_22 ?_
  refine gx_toF ?_
  obtain ⟨r4, x4, hc4, hf⟩ := gx_bd_some hf
  refine gx_cVv (n2 := 3) (k2 := 18) C (As := [.ref (gx_ad E 22)]) (rest := []) 15 1 (c_Floor_lay_2 K.l  x3 _ hc4) (Or.inl rfl) rfl (gx_goodV gw_647 gw_545 gw_546 gw_7 gw_547) (by decide +kernel) (gx_w15 E _) rfl (by rw [hR]; decide) rfl rfl (Nat.le_of_ble_eq_true rfl) d_CaseLayout_sight_25 (by rw [hR]; decide) rfl rfl ?_
  refine gx_aload_n C 0 d_CaseLayout_sight_28 rfl rfl ?_
  refine gx_get C iw_CaseLayout 28 (gx_w28 E _) rfl 4 (by decide) gw_250 rfl rfl d_CaseLayout_sight_29 ?_
  refine gx_aload_n C 0 d_CaseLayout_sight_32 rfl rfl ?_
  refine gx_get C iw_CaseLayout 28 (gx_w28 E _) rfl 5 (by decide) gw_251 rfl rfl d_CaseLayout_sight_33 ?_
  refine gx_getN C iw_Search 25 (gx_w25 E _) rfl 6 (by decide) gn_213 rfl rfl d_CaseLayout_sight_36 ?_
  refine gx_iload_n C 2 d_CaseLayout_sight_39 rfl rfl ?_
  refine gx_aload_n C 0 d_CaseLayout_sight_40 rfl rfl ?_
  refine gx_get C iw_CaseLayout 28 (gx_w28 E _) rfl 2 (by decide) gw_248 rfl rfl d_CaseLayout_sight_41 ?_
  refine gx_getN C iw_Places 9 (gx_w9 E _) rfl 0 (by decide) gn_113 rfl rfl d_CaseLayout_sight_44 ?_
  refine gx_iload_n C 1 d_CaseLayout_sight_47 rfl rfl ?_
  obtain ⟨hi5, hf⟩ := gx_ck_some hf
  refine gx_iald C 10 0 (gx_w10 E _) rfl hi5 d_CaseLayout_sight_48 ?_
  refine gx_aload_n C 0 d_CaseLayout_sight_49 rfl rfl ?_
  refine gx_get C iw_CaseLayout 28 (gx_w28 E _) rfl 2 (by decide) gw_248 rfl rfl d_CaseLayout_sight_50 ?_
  refine gx_getN C iw_Places 9 (gx_w9 E _) rfl 1 (by decide) gn_116 rfl rfl d_CaseLayout_sight_53 ?_
  refine gx_iload_n C 1 d_CaseLayout_sight_56 rfl rfl ?_
  obtain ⟨hi6, hf⟩ := gx_ck_some hf
  refine gx_iald C 11 0 (gx_w11 E _) rfl hi6 d_CaseLayout_sight_57 ?_
  obtain ⟨r7, x7, hc7, hf⟩ := gx_bd_some hf
  refine gx_cVi (n2 := 3) (k2 := 18) C (As := [.ref (gx_ad E 22), .int a2, .int (gx_gA x4 7 (a1 : Int32).toNatClampNeg), .int (gx_gA x4 8 (a1 : Int32).toNatClampNeg)]) (rest := []) 15 4 (c_Floor_isSeen_2 K.l a2 (gx_gA x4 7 (a1 : Int32).toNatClampNeg) (gx_gA x4 8 (a1 : Int32).toNatClampNeg) x4 _ hc7) (Or.inl rfl) rfl (gx_goodV gw_648 gw_560 gw_561 gw_7 gw_562) (by decide +kernel) (gx_w15 E _) rfl (by rw [hR]; decide) rfl rfl (Nat.le_of_ble_eq_true rfl) d_CaseLayout_sight_58 (by rw [hR]; decide) rfl rfl ?_
  obtain ⟨hn8, hf⟩ := gx_nb_some hf
  cases hf
  exact gx_zretX C hr hlk hk hn8 d_CaseLayout_sight_61

def f_CaseLayout_escape (a1 : Int32) (a2 : Int32) (x : gx_S) : Option (Nat × Int32 × gx_S) :=
  gx_bx (f_CaseLayout_needCell a1 a2 x) (fun r1 x1 => gx_bx (f_CaseLayout_needFound  x1) (fun r2 x2 => gx_bd (f_Floor_lay_2  x2) (fun r3 x3 => gx_bd (f_Floor_measure  x3) (fun r4 x4 => gx_bd (f_CaseLayout_cellOf a1 a2 x4) (fun r5 x5 => gx_ck r5 81 (some (0, gx_gA x5 12 (r5 : Int32).toNatClampNeg, x5)))))))
abbrev rm_CaseLayout_escape : Room := { frames := 7, cells := 2, slots := 12, locals := 104 }
set_option maxHeartbeats 4000000 in
set_option maxRecDepth 100000 in
theorem c_CaseLayout_escape (l : Launch) (hlt : l.stackTraces = false) (a1 : Int32) (a2 : Int32) (x : gx_S) (o : Nat × Int32 × gx_S) (hf : f_CaseLayout_escape a1 a2 x = some o) : gx_MX true l y_CaseLayout_escape prog_1_method_16_code 3 (some .int) rm_CaseLayout_escape (fun E => [.ref (gx_ad E 28), .int a1, .int a2]) x (some (.int o.2.1)) o.1 o.2.2 := by
  refine gx_metX (own := "CaseLayout") (by decide) rfl (fun E => Nat.le_of_ble_eq_true rfl) (fun K E hl0 hR hr hlk hnh hLT hk C => ?_)
  subst hl0
  unfold f_CaseLayout_escape at hf
  show gx_G K E (gx_AB false E K.s.heap.size) 0 0 x 0 [(0, .ref (gx_ad E 28)), (1, .int a1), (2, .int a2)] []
  refine gx_aload_n C 0 d_CaseLayout_escape_0 rfl rfl ?_
  refine gx_iload_n C 1 d_CaseLayout_escape_1 rfl rfl ?_
  refine gx_iload_n C 2 d_CaseLayout_escape_2 rfl rfl ?_
  obtain ⟨j1, r1, x1, hc1, ⟨hq1, hf⟩ | ⟨hq1, hf⟩⟩ := gx_bx_some hf
  rotate_left
  · subst hf
    refine gx_cVx (n2 := 1) (k2 := 6) C hq1 (As := [.int a1, .int a2]) (rest := []) 28 2 (c_CaseLayout_needCell K.l hlt a1 a2 x _ hc1) (Or.inr rfl) rfl (gx_goodV gw_284 gw_286 gs_0 gw_1 gw_287) (by decide +kernel) (gx_w28 E _) rfl (by rw [hR]; decide) rfl rfl (Nat.le_of_ble_eq_true rfl) d_CaseLayout_escape_3 (by rw [hR]; decide) rfl rfl ?_
    refine gx_H.widen (n' := 2) (k' := 12) (by decide) (by decide) ?_
    refine gx_H.toF ?_
    exact gx_outX hq1 hnh hlk hk
  subst hq1
  refine gx_cVv (n2 := 1) (k2 := 6) C (As := [.int a1, .int a2]) (rest := []) 28 2 (c_CaseLayout_needCell K.l hlt a1 a2 x _ hc1).toV (Or.inr rfl) rfl (gx_goodV gw_284 gw_286 gs_0 gw_1 gw_287) (by decide +kernel) (gx_w28 E _) rfl (by rw [hR]; decide) rfl rfl (Nat.le_of_ble_eq_true rfl) d_CaseLayout_escape_3 (by rw [hR]; decide) rfl rfl ?_
  refine gx_aload_n C 0 d_CaseLayout_escape_6 rfl rfl ?_
  obtain ⟨j2, r2, x2, hc2, ⟨hq2, hf⟩ | ⟨hq2, hf⟩⟩ := gx_bx_some hf
  rotate_left
  · subst hf
    refine gx_cVx (n2 := 2) (k2 := 12) C hq2 (As := []) (rest := []) 28 0 (c_CaseLayout_needFound K.l hlt  x1 _ hc2) (Or.inr rfl) rfl (gx_goodV gw_635 gw_637 gs_15 gw_1 gw_638) (by decide +kernel) (gx_w28 E _) rfl (by rw [hR]; decide) rfl rfl (Nat.le_of_ble_eq_true rfl) d_CaseLayout_escape_7 (by rw [hR]; decide) rfl rfl ?_
    refine gx_H.toF ?_
    exact gx_outX hq2 hnh hlk hk
  subst hq2
  refine gx_cVv (n2 := 2) (k2 := 12) C (As := []) (rest := []) 28 0 (c_CaseLayout_needFound K.l hlt  x1 _ hc2).toV (Or.inr rfl) rfl (gx_goodV gw_635 gw_637 gs_15 gw_1 gw_638) (by decide +kernel) (gx_w28 E _) rfl (by rw [hR]; decide) rfl rfl (Nat.le_of_ble_eq_true rfl) d_CaseLayout_escape_7 (by rw [hR]; decide) rfl rfl ?_
  refine gx_aload_n C 0 d_CaseLayout_escape_10 rfl rfl ?_
  refine gx_get C iw_CaseLayout 28 (gx_w28 E _) rfl 4 (by decide) gw_250 rfl rfl d_CaseLayout_escape_11 ?_
  refine gx_aload_n C 0 d_CaseLayout_escape_14 rfl rfl ?_
  refine gx_get C iw_CaseLayout 28 (gx_w28 E _) rfl 5 (by decide) gw_251 rfl rfl d_CaseLayout_escape_15 ?_
  refine gx_getN C iw_Search 25 (gx_w25 E _) rfl 6 (by decide) gn_213 rfl rfl d_CaseLayout_escape_18 ?_
  refine gx_toF ?_
  obtain ⟨r3, x3, hc3, hf⟩ := gx_bd_some hf
  refine gx_cVv (n2 := 2) (k2 := 12) C (As := [.ref (gx_ad E 22)]) (rest := []) 15 1 (c_Floor_lay_2 K.l  x2 _ hc3) (Or.inl rfl) rfl (gx_goodV gw_647 gw_545 gw_546 gw_7 gw_547) (by decide +kernel) (gx_w15 E _) rfl (by rw [hR]; decide) rfl rfl (Nat.le_of_ble_eq_true rfl) d_CaseLayout_escape_21 (by rw [hR]; decide) rfl rfl ?_
  refine gx_aload_n C 0 d_CaseLayout_escape_24 rfl rfl ?_
  refine gx_get C iw_CaseLayout 28 (gx_w28 E _) rfl 4 (by decide) gw_250 rfl rfl d_CaseLayout_escape_25 ?_
  refine gx_aload_n C 0 d_CaseLayout_escape_28 rfl rfl ?_
  refine gx_get C iw_CaseLayout 28 (gx_w28 E _) rfl 3 (by decide) gw_249 rfl rfl d_CaseLayout_escape_29 ?_
  obtain ⟨r4, x4, hc4, hf⟩ := gx_bd_some hf
  refine gx_cVv (n2 := 2) (k2 := 12) C (As := [.ref (gx_ad E 13)]) (rest := []) 15 1 (c_Floor_measure K.l  x3 _ hc4) (Or.inl rfl) rfl (gx_goodV gw_656 gw_580 gw_581 gw_7 gw_582) (by decide +kernel) (gx_w15 E _) rfl (by rw [hR]; decide) rfl rfl (Nat.le_of_ble_eq_true rfl) d_CaseLayout_escape_32 (by rw [hR]; decide) rfl rfl ?_
  refine gx_aload_n C 0 d_CaseLayout_escape_35 rfl rfl ?_
  refine gx_get C iw_CaseLayout 28 (gx_w28 E _) rfl 4 (by decide) gw_250 rfl rfl d_CaseLayout_escape_36 ?_
  refine gx_getN C iw_Floor 15 (gx_w15 E _) rfl 2 (by decide) gn_163 rfl rfl d_CaseLayout_escape_39 ?_
  refine gx_iload_n C 1 d_CaseLayout_escape_42 rfl rfl ?_
  refine gx_iload_n C 2 d_CaseLayout_escape_43 rfl rfl ?_
  obtain ⟨r5, x5, hc5, hf⟩ := gx_bd_some hf
  refine gx_cSi (n2 := 2) (k2 := 12) C (As := [.int a1, .int a2]) (rest := [.ref (gx_ad E 17)]) 2 (c_CaseLayout_cellOf K.l a1 a2 x4 _ hc5) (Or.inl rfl) rfl (gx_goodS gw_360 gw_361 gw_1 gw_362) (by decide +kernel) (by rw [hR]; decide) rfl rfl (Nat.le_of_ble_eq_true rfl) d_CaseLayout_escape_44 (by rw [hR]; decide) rfl rfl ?_
  obtain ⟨hi6, hf⟩ := gx_ck_some hf
  refine gx_iald C 17 0 (gx_w17 E _) rfl hi6 d_CaseLayout_escape_47 ?_
  cases hf
  exact gx_iretX C hr hlk hk d_CaseLayout_escape_48

def f_CaseLayout_count (a1 : Int32) (x : gx_S) : Option (Nat × Int32 × gx_S) :=
  if a1 < 0 then (some (1, 0, x)) else if 3 < a1 then (some (1, 0, x)) else if a1 = 0 then (some (0, gx_gI x 3, x)) else (if a1 = 1 then (some (0, gx_gI x 4, x)) else (if a1 = 2 then (some (0, gx_gI x 5, x)) else (some (0, gx_gI x 2, x))))
abbrev rm_CaseLayout_count : Room := { frames := 6, cells := 1, slots := 6, locals := 82 }
set_option maxHeartbeats 4000000 in
set_option maxRecDepth 100000 in
theorem c_CaseLayout_count (l : Launch) (hlt : l.stackTraces = false) (a1 : Int32) (x : gx_S) (o : Nat × Int32 × gx_S) (hf : f_CaseLayout_count a1 x = some o) : gx_MX false l y_CaseLayout_count prog_1_method_17_code 2 (some .int) rm_CaseLayout_count (fun E => [.ref (gx_ad E 28), .int a1]) x (some (.int o.2.1)) o.1 o.2.2 := by
  refine gx_metX (own := "CaseLayout") (by decide) rfl (fun E => Nat.le_of_ble_eq_true rfl) (fun K E hl0 hR hr hlk hnh hLT hk C => ?_)
  subst hl0
  unfold f_CaseLayout_count at hf
  show gx_G K E (gx_AB false E K.s.heap.size) 0 0 x 0 [(0, .ref (gx_ad E 28)), (1, .int a1)] []
  refine gx_iload_n C 1 d_CaseLayout_count_0 rfl rfl ?_
  by_cases h1 : a1 < 0
  · have hf := (if_pos h1).symm.trans hf
    refine gx_tabOut (tgt := 64) C d_CaseLayout_count_1 (Or.inl (gx_tlt h1)) (by decide) ?_
    cases hf
    exact gx_throw (w := false) (j := 1) (tx := "nothing of this kind is counted") (names := ["java/lang/RuntimeException", "java/lang/Exception"]) C (by decide) hLT hlt hnh hlk gw_292 gw_293 gw_14 (by decide +kernel) (ga_CaseLayout_171 C) (by decide +kernel) (by decide +kernel) d_CaseLayout_count_64 d_CaseLayout_count_67 d_CaseLayout_count_68 d_CaseLayout_count_70 d_CaseLayout_count_73 (by rw [hR]; decide) (by rw [hR]; exact Nat.le_of_ble_eq_true rfl) (by rw [hR]; decide) (by rw [hR]; decide) hk
  · have hf := (if_neg h1).symm.trans hf
    by_cases h2 : 3 < a1
    · have hf := (if_pos h2).symm.trans hf
      refine gx_tabOut (tgt := 64) C d_CaseLayout_count_1 (Or.inr (gx_tgt (a := 3) (by decide) h2)) (by decide) ?_
      cases hf
      exact gx_throw (w := false) (j := 1) (tx := "nothing of this kind is counted") (names := ["java/lang/RuntimeException", "java/lang/Exception"]) C (by decide) hLT hlt hnh hlk gw_292 gw_293 gw_14 (by decide +kernel) (ga_CaseLayout_171 C) (by decide +kernel) (by decide +kernel) d_CaseLayout_count_64 d_CaseLayout_count_67 d_CaseLayout_count_68 d_CaseLayout_count_70 d_CaseLayout_count_73 (by rw [hR]; decide) (by rw [hR]; exact Nat.le_of_ble_eq_true rfl) (by rw [hR]; decide) (by rw [hR]; decide) hk
    · have hf := (if_neg h2).symm.trans hf
      by_cases h3 : a1 = 0
      · have hf := (if_pos h3).symm.trans hf
        refine gx_tabIn (tgt := 32) (off := 31) C d_CaseLayout_count_1 (gx_tnl h1) (gx_tng (a := 3) (by decide) h2) (by rw [h3]; rfl) (by decide) ?_
        refine gx_aload_n C 0 d_CaseLayout_count_32 rfl rfl ?_
        refine gx_get C iw_CaseLayout 28 (gx_w28 E _) rfl 1 (by decide) gw_247 rfl rfl d_CaseLayout_count_33 ?_
        refine gx_getN C iw_Things 3 (gx_w3 E _) rfl 5 (by decide) gn_90 rfl rfl d_CaseLayout_count_36 ?_
        cases hf
        refine gx_widen (n' := 1) (k' := 6) (by decide) (by decide) ?_
        exact gx_iretX C hr hlk hk d_CaseLayout_count_39
      · have hf := (if_neg h3).symm.trans hf
        by_cases h4 : a1 = 1
        · have hf := (if_pos h4).symm.trans hf
          refine gx_tabIn (tgt := 40) (off := 39) C d_CaseLayout_count_1 (gx_tnl h1) (gx_tng (a := 3) (by decide) h2) (by rw [h4]; rfl) (by decide) ?_
          refine gx_aload_n C 0 d_CaseLayout_count_40 rfl rfl ?_
          refine gx_get C iw_CaseLayout 28 (gx_w28 E _) rfl 2 (by decide) gw_248 rfl rfl d_CaseLayout_count_41 ?_
          refine gx_getN C iw_Places 9 (gx_w9 E _) rfl 3 (by decide) gn_121 rfl rfl d_CaseLayout_count_44 ?_
          cases hf
          refine gx_widen (n' := 1) (k' := 6) (by decide) (by decide) ?_
          exact gx_iretX C hr hlk hk d_CaseLayout_count_47
        · have hf := (if_neg h4).symm.trans hf
          by_cases h5 : a1 = 2
          · have hf := (if_pos h5).symm.trans hf
            refine gx_tabIn (tgt := 48) (off := 47) C d_CaseLayout_count_1 (gx_tnl h1) (gx_tng (a := 3) (by decide) h2) (by rw [h5]; rfl) (by decide) ?_
            refine gx_aload_n C 0 d_CaseLayout_count_48 rfl rfl ?_
            refine gx_get C iw_CaseLayout 28 (gx_w28 E _) rfl 3 (by decide) gw_249 rfl rfl d_CaseLayout_count_49 ?_
            refine gx_getN C iw_Exits 13 (gx_w13 E _) rfl 1 (by decide) gn_142 rfl rfl d_CaseLayout_count_52 ?_
            cases hf
            refine gx_widen (n' := 1) (k' := 6) (by decide) (by decide) ?_
            exact gx_iretX C hr hlk hk d_CaseLayout_count_55
          · have hf := (if_neg h5).symm.trans hf
            have h6 : a1 = 3 := gx_tlast3 h1 h2 h3 h4 h5
            refine gx_tabIn (tgt := 56) (off := 55) C d_CaseLayout_count_1 (gx_tnl h1) (gx_tng (a := 3) (by decide) h2) (by rw [h6]; rfl) (by decide) ?_
            refine gx_aload_n C 0 d_CaseLayout_count_56 rfl rfl ?_
            refine gx_get C iw_CaseLayout 28 (gx_w28 E _) rfl 0 (by decide) gw_246 rfl rfl d_CaseLayout_count_57 ?_
            refine gx_getN C iw_Grid 0 (gx_w0 E _) rfl 4 (by decide) gn_52 rfl rfl d_CaseLayout_count_60 ?_
            cases hf
            refine gx_widen (n' := 1) (k' := 6) (by decide) (by decide) ?_
            exact gx_iretX C hr hlk hk d_CaseLayout_count_63
