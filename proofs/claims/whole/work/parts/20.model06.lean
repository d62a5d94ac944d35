def j_CaseLayoutModel_run_17 (v1 : Int32) (w0 : Int32) (x : gx_S) : Option (Int32 × gx_S) :=
  gx_bd (f_CaseLayoutModel_throwing w0 0 0 x) (fun r3 x3 => if r3 = 0 then (gx_bd (f_CaseLayoutModel_forget  x3) (fun r5 x5 => gx_bd (f_CaseLayoutModel_search v1 x5) (fun r6 x6 => if r6 = 0 then (some (1, x6)) else (if (gx_gI x6 18) = 0 then (some (2, x6)) else (some (0, x6)))))) else (some (0, x3)))
def f_CaseLayoutModel_run (a1 : Int32) (x : gx_S) : Option (Int32 × gx_S) :=
  gx_bd (f_CaseLayoutModel_in a1 0 20000 x) (fun r1 x1 => if r1 = 0 then (j_CaseLayoutModel_run_17 a1 1 x1) else (j_CaseLayoutModel_run_17 a1 0 x1))
abbrev rm_CaseLayoutModel_run : Room := { frames := 6, cells := 0, slots := 0, locals := 138 }
set_option maxHeartbeats 4000000 in
set_option maxRecDepth 100000 in
theorem jc_CaseLayoutModel_run_17 {K : gx_K} {E : gx_E} (C : gx_C K E "CaseLayoutModel" prog_10_method_36_code 3) (hR : K.R = rm_CaseLayoutModel_run) (hr : K.meth.sig.returnType = (some .int)) (hlk : K.meth.locks = false) (v1 : Int32) (w0 : Int32) (x : gx_S) (o : Int32 × gx_S) (hf : j_CaseLayoutModel_run_17 v1 w0 x = some o) (hk : ∀ t, MQ K.below (gx_Qi E (gx_AB true E K.s.heap.size) o.1 o.2) K.args K.s 0 0 (gx_AB true E K.s.heap.size) t → K.Q t) : gx_G K E (gx_AB true E K.s.heap.size) 0 0 x 17 [(0, .ref (gx_ad E 29)), (1, .int v1)] [.int w0, .ref (gx_ad E 29)] := by
  unfold j_CaseLayoutModel_run_17 at hf
  refine gx_iconst C (v := 0) d_Mod_run_17 (by decide) ?_
  refine gx_iconst C (v := 0) d_Mod_run_18 (by decide) ?_
  obtain ⟨r3, x3, hc3, hf⟩ := gx_bd_some hf
  refine gx_cVi (n2 := 0) (k2 := 0) C (As := [.int w0, .int 0, .int 0]) (rest := []) 29 3 (c_CaseLayoutModel_throwing K.l w0 0 0 x _ hc3) (Or.inl rfl) rfl (gx_goodV gw_774 gw_776 gs_17 gw_10 gw_777) (by decide +kernel) (gx_w29 E _) rfl (by rw [hR]; decide) rfl rfl (Nat.le_of_ble_eq_true rfl) d_Mod_run_19 (by rw [hR]; decide) rfl rfl ?_
  refine gx_if_eq (tgt := 27) C d_Mod_run_22 (by decide) (fun h4 => ?_) (fun h4 => ?_)
  · have hf := (if_pos h4).symm.trans hf
    refine gx_aload_n C 0 d_Mod_run_27 rfl rfl ?_
    obtain ⟨r5, x5, hc5, hf⟩ := gx_bd_some hf
    refine gx_cVv (n2 := 0) (k2 := 0) C (As := []) (rest := []) 29 0 (c_CaseLayoutModel_forget K.l  x3 _ hc5) (Or.inl rfl) rfl (gx_goodV gw_786 gw_788 gs_20 gw_10 gw_789) (by decide +kernel) (gx_w29 E _) rfl (by rw [hR]; decide) rfl rfl (Nat.le_of_ble_eq_true rfl) d_Mod_run_28 (by rw [hR]; decide) rfl rfl ?_
    refine gx_aload_n C 0 d_Mod_run_31 rfl rfl ?_
    refine gx_iload_n C 1 d_Mod_run_32 rfl rfl ?_
    obtain ⟨r6, x6, hc6, hf⟩ := gx_bd_some hf
    refine gx_cVi (n2 := 0) (k2 := 0) C (As := [.int v1]) (rest := []) 29 1 (c_CaseLayoutModel_search K.l v1 x5 _ hc6) (Or.inl rfl) rfl (gx_goodV gw_830 gw_832 gs_22 gw_10 gw_833) (by decide +kernel) (gx_w29 E _) rfl (by rw [hR]; decide) rfl rfl (Nat.le_of_ble_eq_true rfl) d_Mod_run_33 (by rw [hR]; decide) rfl rfl ?_
    refine gx_istore_n C (lv' := [(2, .int r6), (0, .ref (gx_ad E 29)), (1, .int v1)]) d_Mod_run_36 rfl (by decide) rfl ?_
    refine gx_iload_n C 0 d_Mod_run_37 rfl rfl ?_
    refine gx_if_ne (tgt := 45) C d_Mod_run_38 (by decide) (fun h7 => ?_) (fun h7 => ?_)
    · have hf := (if_neg h7).symm.trans hf
      refine gx_aload_n C 1 d_Mod_run_45 rfl rfl ?_
      refine gx_get C iw_Mod 29 (gx_w29 E _) rfl 24 (by decide) gw_698 rfl rfl d_Mod_run_46 ?_
      refine gx_if_eq (tgt := 56) C d_Mod_run_49 (by decide) (fun h8 => ?_) (fun h8 => ?_)
      · have hf := (if_pos h8).symm.trans hf
        refine gx_iconst C (v := 2) d_Mod_run_56 (by decide) ?_
        cases hf
        exact gx_iret C hr hlk hk d_Mod_run_57
      · have hf := (if_neg h8).symm.trans hf
        refine gx_iconst C (v := 0) d_Mod_run_52 (by decide) ?_
        refine gx_goto (tgt := 57) C d_Mod_run_53 (by decide) ?_
        cases hf
        exact gx_iret C hr hlk hk d_Mod_run_57
    · have hf := (if_pos h7).symm.trans hf
      refine gx_iconst C (v := 1) d_Mod_run_41 (by decide) ?_
      refine gx_goto (tgt := 57) C d_Mod_run_42 (by decide) ?_
      cases hf
      exact gx_iret C hr hlk hk d_Mod_run_57
  · have hf := (if_neg h4).symm.trans hf
    refine gx_iconst C (v := 0) d_Mod_run_25 (by decide) ?_
    cases hf
    exact gx_iret C hr hlk hk d_Mod_run_26
set_option maxHeartbeats 4000000 in
set_option maxRecDepth 100000 in
theorem c_CaseLayoutModel_run (l : Launch) (a1 : Int32) (x : gx_S) (o : Int32 × gx_S) (hf : f_CaseLayoutModel_run a1 x = some o) : gx_Mi true l y_Mod_run prog_10_method_36_code 3 (some .int) rm_CaseLayoutModel_run (fun E => [.ref (gx_ad E 29), .int a1]) x o.1 o.2 := by
  refine gx_meti (own := "CaseLayoutModel") (by decide) rfl (fun E => Nat.le_of_ble_eq_true rfl) (fun K E hl0 hR hr hlk hk C => ?_)
  subst hl0
  unfold f_CaseLayoutModel_run at hf
  show gx_G K E _ 0 0 x 0 [(0, .ref (gx_ad E 29)), (1, .int a1)] []
  refine gx_aload_n C 0 d_Mod_run_0 rfl rfl ?_
  refine gx_iload_n C 1 d_Mod_run_1 rfl rfl ?_
  refine gx_iconst C (v := 0) d_Mod_run_2 (by decide) ?_
  refine gx_sipush C (v := 20000) d_Mod_run_3 (by decide) ?_
  obtain ⟨r1, x1, hc1, hf⟩ := gx_bd_some hf
  refine gx_cSi (n2 := 0) (k2 := 0) C (As := [.int a1, .int 0, .int 20000]) (rest := [.ref (gx_ad E 29)]) 3 (c_CaseLayoutModel_in K.l a1 0 20000 x _ hc1) (Or.inl rfl) rfl (gx_goodS gw_771 gw_772 gw_10 gw_773) (by decide +kernel) (by rw [hR]; decide) rfl rfl (Nat.le_of_ble_eq_true rfl) d_Mod_run_6 (by rw [hR]; decide) rfl rfl ?_
  refine gx_if_ne (tgt := 16) C d_Mod_run_9 (by decide) (fun h2 => ?_) (fun h2 => ?_)
  · have hf := (if_neg h2).symm.trans hf
    refine gx_iconst C (v := 0) d_Mod_run_16 (by decide) ?_
    exact jc_CaseLayoutModel_run_17 C hR hr hlk a1 0 x1 _ hf hk
  · have hf := (if_pos h2).symm.trans hf
    refine gx_iconst C (v := 1) d_Mod_run_12 (by decide) ?_
    refine gx_goto (tgt := 17) C d_Mod_run_13 (by decide) ?_
    exact jc_CaseLayoutModel_run_17 C hR hr hlk a1 1 x1 _ hf hk

def f_CaseLayoutModel_nodes  (x : gx_S) : Option (Int32 × gx_S) :=
  some (gx_gI (gx_sI x 11 0) 20, gx_sI x 11 0)
abbrev rm_CaseLayoutModel_nodes : Room := { frames := 0, cells := 0, slots := 0, locals := 0 }
set_option maxHeartbeats 4000000 in
set_option maxRecDepth 100000 in
theorem c_CaseLayoutModel_nodes (l : Launch)  (x : gx_S) (o : Int32 × gx_S) (hf : f_CaseLayoutModel_nodes  x = some o) : gx_Mi true l y_Mod_nodes prog_10_method_37_code 1 (some .int) rm_CaseLayoutModel_nodes (fun E => [.ref (gx_ad E 29)]) x o.1 o.2 := by
  refine gx_meti (own := "CaseLayoutModel") (by decide) rfl (fun E => Nat.le_of_ble_eq_true rfl) (fun K E hl0 hR hr hlk hk C => ?_)
  subst hl0
  unfold f_CaseLayoutModel_nodes at hf
  show gx_G K E _ 0 0 x 0 [(0, .ref (gx_ad E 29))] []
  refine gx_aload_n C 0 d_Mod_nodes_0 rfl rfl ?_
  refine gx_iconst C (v := 0) d_Mod_nodes_1 (by decide) ?_
  refine gx_put C (ty := .int) (x' := gx_sI x 11 0) iw_Mod ty_Mod tk_Mod tn_Mod 29 (gx_w29 E _) rfl 0 (by decide) gw_674 rfl rfl (by decide +kernel) rfl rfl (Nat.le_of_ble_eq_true rfl) (gx_p29_0 E _ _) d_Mod_nodes_2 ?_
  refine gx_aload_n C 0 d_Mod_nodes_5 rfl rfl ?_
  refine gx_get C iw_Mod 29 (gx_w29 E _) rfl 26 (by decide) gw_700 rfl rfl d_Mod_nodes_6 ?_
  cases hf
  exact gx_iret C hr hlk hk d_Mod_nodes_9

def j_CaseLayoutModel_at_35 (v1 : Int32) (v2 : Int32) (w0 : Int32) (w1 : Int32) (x : gx_S) : Option (Int32 × gx_S) :=
  gx_bd (f_CaseLayoutModel_throwing w1 w0 0 x) (fun r4 x4 => if r4 = 0 then (if v2 = 0 then (gx_ck v1 7 (some (gx_gA x4 35 (v1 : Int32).toNatClampNeg, x4))) else (gx_ck v1 7 (some (gx_gA x4 36 (v1 : Int32).toNatClampNeg, x4)))) else (some (0, x4)))
def j_CaseLayoutModel_at_23 (v1 : Int32) (v2 : Int32) (w0 : Int32) (x : gx_S) : Option (Int32 × gx_S) :=
  if (gx_gI x 18) = 0 then (j_CaseLayoutModel_at_35 v1 v2 1 w0 x) else (j_CaseLayoutModel_at_35 v1 v2 0 w0 x)
def j_CaseLayoutModel_at_18 (v1 : Int32) (v2 : Int32) (x : gx_S) : Option (Int32 × gx_S) :=
  j_CaseLayoutModel_at_23 v1 v2 1 x
def f_CaseLayoutModel_at (a1 : Int32) (a2 : Int32) (x : gx_S) : Option (Int32 × gx_S) :=
  gx_bd (f_CaseLayoutModel_isThing a1 x) (fun r1 x1 => if r1 = 0 then (j_CaseLayoutModel_at_18 a1 a2  x1) else (gx_bd (f_CaseLayoutModel_in a2 0 1 x1) (fun r9 x9 => if r9 = 0 then (j_CaseLayoutModel_at_18 a1 a2  x9) else (j_CaseLayoutModel_at_23 a1 a2 0 x9))))
abbrev rm_CaseLayoutModel_at : Room := { frames := 2, cells := 0, slots := 0, locals := 43 }
set_option maxHeartbeats 4000000 in
set_option maxRecDepth 100000 in
theorem jc_CaseLayoutModel_at_35 {K : gx_K} {E : gx_E} (C : gx_C K E "CaseLayoutModel" prog_10_method_39_code 3) (hR : K.R = rm_CaseLayoutModel_at) (hr : K.meth.sig.returnType = (some .int)) (hlk : K.meth.locks = false) (v1 : Int32) (v2 : Int32) (w0 : Int32) (w1 : Int32) (x : gx_S) (o : Int32 × gx_S) (hf : j_CaseLayoutModel_at_35 v1 v2 w0 w1 x = some o) (hk : ∀ t, MQ K.below (gx_Qi E (gx_AB true E K.s.heap.size) o.1 o.2) K.args K.s 0 0 (gx_AB true E K.s.heap.size) t → K.Q t) : gx_G K E (gx_AB true E K.s.heap.size) 0 0 x 35 [(0, .ref (gx_ad E 29)), (1, .int v1), (2, .int v2)] [.int w0, .int w1, .ref (gx_ad E 29)] := by
  unfold j_CaseLayoutModel_at_35 at hf
  refine gx_iconst C (v := 0) d_Mod_at_35 (by decide) ?_
  obtain ⟨r4, x4, hc4, hf⟩ := gx_bd_some hf
  refine gx_cVi (n2 := 0) (k2 := 0) C (As := [.int w1, .int w0, .int 0]) (rest := []) 29 3 (c_CaseLayoutModel_throwing K.l w1 w0 0 x _ hc4) (Or.inl rfl) rfl (gx_goodV gw_774 gw_776 gs_17 gw_10 gw_777) (by decide +kernel) (gx_w29 E _) rfl (by rw [hR]; decide) rfl rfl (Nat.le_of_ble_eq_true rfl) d_Mod_at_36 (by rw [hR]; decide) rfl rfl ?_
  refine gx_if_eq (tgt := 44) C d_Mod_at_39 (by decide) (fun h5 => ?_) (fun h5 => ?_)
  · have hf := (if_pos h5).symm.trans hf
    refine gx_iload_n C 2 d_Mod_at_44 rfl rfl ?_
    refine gx_if_ne (tgt := 57) C d_Mod_at_45 (by decide) (fun h6 => ?_) (fun h6 => ?_)
    · have hf := (if_neg h6).symm.trans hf
      refine gx_aload_n C 0 d_Mod_at_57 rfl rfl ?_
      refine gx_get C iw_Mod 29 (gx_w29 E _) rfl 23 (by decide) gw_697 rfl rfl d_Mod_at_58 ?_
      refine gx_iload_n C 1 d_Mod_at_61 rfl rfl ?_
      obtain ⟨hi7, hf⟩ := gx_ck_some hf
      refine gx_iald C 46 0 (gx_w46 E _) rfl hi7 d_Mod_at_62 ?_
      cases hf
      exact gx_iret C hr hlk hk d_Mod_at_63
    · have hf := (if_pos h6).symm.trans hf
      refine gx_aload_n C 0 d_Mod_at_48 rfl rfl ?_
      refine gx_get C iw_Mod 29 (gx_w29 E _) rfl 22 (by decide) gw_696 rfl rfl d_Mod_at_49 ?_
      refine gx_iload_n C 1 d_Mod_at_52 rfl rfl ?_
      obtain ⟨hi8, hf⟩ := gx_ck_some hf
      refine gx_iald C 45 0 (gx_w45 E _) rfl hi8 d_Mod_at_53 ?_
      refine gx_goto (tgt := 63) C d_Mod_at_54 (by decide) ?_
      cases hf
      exact gx_iret C hr hlk hk d_Mod_at_63
  · have hf := (if_neg h5).symm.trans hf
    refine gx_iconst C (v := 0) d_Mod_at_42 (by decide) ?_
    cases hf
    exact gx_iret C hr hlk hk d_Mod_at_43
set_option maxHeartbeats 4000000 in
set_option maxRecDepth 100000 in
theorem jc_CaseLayoutModel_at_23 {K : gx_K} {E : gx_E} (C : gx_C K E "CaseLayoutModel" prog_10_method_39_code 3) (hR : K.R = rm_CaseLayoutModel_at) (hr : K.meth.sig.returnType = (some .int)) (hlk : K.meth.locks = false) (v1 : Int32) (v2 : Int32) (w0 : Int32) (x : gx_S) (o : Int32 × gx_S) (hf : j_CaseLayoutModel_at_23 v1 v2 w0 x = some o) (hk : ∀ t, MQ K.below (gx_Qi E (gx_AB true E K.s.heap.size) o.1 o.2) K.args K.s 0 0 (gx_AB true E K.s.heap.size) t → K.Q t) : gx_G K E (gx_AB true E K.s.heap.size) 0 0 x 23 [(0, .ref (gx_ad E 29)), (1, .int v1), (2, .int v2)] [.int w0, .ref (gx_ad E 29)] := by
  unfold j_CaseLayoutModel_at_23 at hf
  refine gx_aload_n C 0 d_Mod_at_23 rfl rfl ?_
  refine gx_get C iw_Mod 29 (gx_w29 E _) rfl 24 (by decide) gw_698 rfl rfl d_Mod_at_24 ?_
  refine gx_if_ne (tgt := 34) C d_Mod_at_27 (by decide) (fun h3 => ?_) (fun h3 => ?_)
  · have hf := (if_neg h3).symm.trans hf
    refine gx_iconst C (v := 0) d_Mod_at_34 (by decide) ?_
    exact jc_CaseLayoutModel_at_35 C hR hr hlk v1 v2 0 w0 x _ hf hk
  · have hf := (if_pos h3).symm.trans hf
    refine gx_iconst C (v := 1) d_Mod_at_30 (by decide) ?_
    refine gx_goto (tgt := 35) C d_Mod_at_31 (by decide) ?_
    exact jc_CaseLayoutModel_at_35 C hR hr hlk v1 v2 1 w0 x _ hf hk
set_option maxHeartbeats 4000000 in
set_option maxRecDepth 100000 in
theorem jc_CaseLayoutModel_at_18 {K : gx_K} {E : gx_E} (C : gx_C K E "CaseLayoutModel" prog_10_method_39_code 3) (hR : K.R = rm_CaseLayoutModel_at) (hr : K.meth.sig.returnType = (some .int)) (hlk : K.meth.locks = false) (v1 : Int32) (v2 : Int32) (x : gx_S) (o : Int32 × gx_S) (hf : j_CaseLayoutModel_at_18 v1 v2 x = some o) (hk : ∀ t, MQ K.below (gx_Qi E (gx_AB true E K.s.heap.size) o.1 o.2) K.args K.s 0 0 (gx_AB true E K.s.heap.size) t → K.Q t) : gx_G K E (gx_AB true E K.s.heap.size) 0 0 x 18 [(0, .ref (gx_ad E 29)), (1, .int v1), (2, .int v2)] [.ref (gx_ad E 29)] := by
  unfold j_CaseLayoutModel_at_18 at hf
  refine gx_iconst C (v := 1) d_Mod_at_18 (by decide) ?_
  refine gx_goto (tgt := 23) C d_Mod_at_19 (by decide) ?_
  exact jc_CaseLayoutModel_at_23 C hR hr hlk v1 v2 1 x _ hf hk
set_option maxHeartbeats 4000000 in
set_option maxRecDepth 100000 in
theorem c_CaseLayoutModel_at (l : Launch) (a1 : Int32) (a2 : Int32) (x : gx_S) (o : Int32 × gx_S) (hf : f_CaseLayoutModel_at a1 a2 x = some o) : gx_Mi true l y_Mod_at prog_10_method_39_code 3 (some .int) rm_CaseLayoutModel_at (fun E => [.ref (gx_ad E 29), .int a1, .int a2]) x o.1 o.2 := by
  refine gx_meti (own := "CaseLayoutModel") (by decide) rfl (fun E => Nat.le_of_ble_eq_true rfl) (fun K E hl0 hR hr hlk hk C => ?_)
  subst hl0
  unfold f_CaseLayoutModel_at at hf
  show gx_G K E _ 0 0 x 0 [(0, .ref (gx_ad E 29)), (1, .int a1), (2, .int a2)] []
  refine gx_aload_n C 0 d_Mod_at_0 rfl rfl ?_
  refine gx_aload_n C 0 d_Mod_at_1 rfl rfl ?_
  refine gx_iload_n C 1 d_Mod_at_2 rfl rfl ?_
  obtain ⟨r1, x1, hc1, hf⟩ := gx_bd_some hf
  refine gx_cVi (n2 := 0) (k2 := 0) C (As := [.int a1]) (rest := [.ref (gx_ad E 29)]) 29 1 (c_CaseLayoutModel_isThing K.l a1 x _ hc1) (Or.inl rfl) rfl (gx_goodV gw_802 gw_804 gs_21 gw_10 gw_805) (by decide +kernel) (gx_w29 E _) rfl (by rw [hR]; decide) rfl rfl (Nat.le_of_ble_eq_true rfl) d_Mod_at_3 (by rw [hR]; decide) rfl rfl ?_
  refine gx_if_eq (tgt := 18) C d_Mod_at_6 (by decide) (fun h2 => ?_) (fun h2 => ?_)
  · have hf := (if_pos h2).symm.trans hf
    exact jc_CaseLayoutModel_at_18 C hR hr hlk a1 a2  x1 _ hf hk
  · have hf := (if_neg h2).symm.trans hf
    refine gx_iload_n C 2 d_Mod_at_9 rfl rfl ?_
    refine gx_iconst C (v := 0) d_Mod_at_10 (by decide) ?_
    refine gx_iconst C (v := 1) d_Mod_at_11 (by decide) ?_
    obtain ⟨r9, x9, hc9, hf⟩ := gx_bd_some hf
    refine gx_cSi (n2 := 0) (k2 := 0) C (As := [.int a2, .int 0, .int 1]) (rest := [.ref (gx_ad E 29)]) 3 (c_CaseLayoutModel_in K.l a2 0 1 x1 _ hc9) (Or.inl rfl) rfl (gx_goodS gw_771 gw_772 gw_10 gw_773) (by decide +kernel) (by rw [hR]; decide) rfl rfl (Nat.le_of_ble_eq_true rfl) d_Mod_at_12 (by rw [hR]; decide) rfl rfl ?_
    refine gx_if_ne (tgt := 22) C d_Mod_at_15 (by decide) (fun h10 => ?_) (fun h10 => ?_)
    · have hf := (if_neg h10).symm.trans hf
      refine gx_iconst C (v := 0) d_Mod_at_22 (by decide) ?_
      exact jc_CaseLayoutModel_at_23 C hR hr hlk a1 a2 0 x9 _ hf hk
    · have hf := (if_pos h10).symm.trans hf
      exact jc_CaseLayoutModel_at_18 C hR hr hlk a1 a2  x9 _ hf hk

def f_CaseLayoutModel_worth  (x : gx_S) : Option (Int32 × gx_S) :=
  if (gx_gI (gx_sI x 11 0) 18) = 0 then (some ((-1), gx_sI x 11 0)) else (some (gx_gI (gx_sI x 11 0) 19, gx_sI x 11 0))
abbrev rm_CaseLayoutModel_worth : Room := { frames := 0, cells := 0, slots := 0, locals := 0 }
set_option maxHeartbeats 4000000 in
set_option maxRecDepth 100000 in
theorem c_CaseLayoutModel_worth (l : Launch)  (x : gx_S) (o : Int32 × gx_S) (hf : f_CaseLayoutModel_worth  x = some o) : gx_Mi true l y_Mod_worth prog_10_method_40_code 1 (some .int) rm_CaseLayoutModel_worth (fun E => [.ref (gx_ad E 29)]) x o.1 o.2 := by
  refine gx_meti (own := "CaseLayoutModel") (by decide) rfl (fun E => Nat.le_of_ble_eq_true rfl) (fun K E hl0 hR hr hlk hk C => ?_)
  subst hl0
  unfold f_CaseLayoutModel_worth at hf
  show gx_G K E _ 0 0 x 0 [(0, .ref (gx_ad E 29))] []
  refine gx_aload_n C 0 d_Mod_worth_0 rfl rfl ?_
  refine gx_iconst C (v := 0) d_Mod_worth_1 (by decide) ?_
  refine gx_put C (ty := .int) (x' := gx_sI x 11 0) iw_Mod ty_Mod tk_Mod tn_Mod 29 (gx_w29 E _) rfl 0 (by decide) gw_674 rfl rfl (by decide +kernel) rfl rfl (Nat.le_of_ble_eq_true rfl) (gx_p29_0 E _ _) d_Mod_worth_2 ?_
  refine gx_aload_n C 0 d_Mod_worth_5 rfl rfl ?_
  refine gx_get C iw_Mod 29 (gx_w29 E _) rfl 24 (by decide) gw_698 rfl rfl d_Mod_worth_6 ?_
  refine gx_if_eq (tgt := 19) C d_Mod_worth_9 (by decide) (fun h1 => ?_) (fun h1 => ?_)
  · have hf := (if_pos h1).symm.trans hf
    refine gx_iconst C (v := (-1)) d_Mod_worth_19 (by decide) ?_
    cases hf
    exact gx_iret C hr hlk hk d_Mod_worth_20
  · have hf := (if_neg h1).symm.trans hf
    refine gx_aload_n C 0 d_Mod_worth_12 rfl rfl ?_
    refine gx_get C iw_Mod 29 (gx_w29 E _) rfl 25 (by decide) gw_699 rfl rfl d_Mod_worth_13 ?_
    refine gx_goto (tgt := 20) C d_Mod_worth_16 (by decide) ?_
    cases hf
    exact gx_iret C hr hlk hk d_Mod_worth_20

def s_CaseLayoutModel_layBest_2  (a : Int32 × gx_S) : Option ((Int32 × gx_S) ⊕ (Nat × Int32 × gx_S)) :=
  if (gx_gI a.2 14) ≤ a.1 then (some (.inr (0, a.1, a.2))) else (gx_ck a.1 7 (gx_ck a.1 7 (gx_ck a.1 7 (gx_ck a.1 7 (some (.inl (a.1 + 1, gx_sA (gx_sA a.2 32 (a.1 : Int32).toNatClampNeg (gx_gA a.2 35 (a.1 : Int32).toNatClampNeg)) 33 (a.1 : Int32).toNatClampNeg (gx_gA (gx_sA a.2 32 (a.1 : Int32).toNatClampNeg (gx_gA a.2 35 (a.1 : Int32).toNatClampNeg)) 36 (a.1 : Int32).toNatClampNeg))))))))
def f_CaseLayoutModel_layBest  (x : gx_S) : Option (Int32 × gx_S) :=
  gx_bl (gx_it (s_CaseLayoutModel_layBest_2 ) gx_fuel (0, x)) (fun e6 => some (0, e6.2.2))
abbrev rm_CaseLayoutModel_layBest : Room := { frames := 0, cells := 0, slots := 0, locals := 0 }
def pp_CaseLayoutModel_layBest_2 (K : gx_K) (E : gx_E)  (a : Int32 × gx_S) : Prop := gx_G K E (gx_AB true E K.s.heap.size) 0 0 (a.2) 2 [(0, .ref (gx_ad E 29)), (1, .int a.1)] []
def pq_CaseLayoutModel_layBest_2 (K : gx_K) (E : gx_E)  (b : Nat × Int32 × gx_S) : Prop := gx_G K E (gx_AB true E K.s.heap.size) 0 0 (b.2.2) 40 [] []
set_option maxHeartbeats 4000000 in
set_option maxRecDepth 100000 in
theorem sc_CaseLayoutModel_layBest_2 {K : gx_K} {E : gx_E} (C : gx_C K E "CaseLayoutModel" prog_10_method_38_code 2) (hR : K.R = rm_CaseLayoutModel_layBest) (hr : K.meth.sig.returnType = none) (hlk : K.meth.locks = false)  (a : Int32 × gx_S) (o : (Int32 × gx_S) ⊕ (Nat × Int32 × gx_S)) (hf : s_CaseLayoutModel_layBest_2  a = some o) (hk : gx_or (pp_CaseLayoutModel_layBest_2 K E ) (pq_CaseLayoutModel_layBest_2 K E ) o) : pp_CaseLayoutModel_layBest_2 K E  a := by
  unfold s_CaseLayoutModel_layBest_2 at hf
  unfold pp_CaseLayoutModel_layBest_2
  refine gx_iload_n C 1 d_Mod_layBest_2 rfl rfl ?_
  refine gx_aload_n C 0 d_Mod_layBest_3 rfl rfl ?_
  refine gx_get C iw_Mod 29 (gx_w29 E _) rfl 5 (by decide) gw_679 rfl rfl d_Mod_layBest_4 ?_
  refine gx_icmp_ge (tgt := 40) C d_Mod_layBest_7 (by decide) (fun h1 => ?_) (fun h1 => ?_)
  · have hf := (if_pos h1).symm.trans hf
    cases hf
    have hk : pq_CaseLayoutModel_layBest_2 K E  _ := hk
    unfold pq_CaseLayoutModel_layBest_2 at hk
    refine gx_lv (lv' := []) [] rfl ?_
    exact hk
  · have hf := (if_neg h1).symm.trans hf
    refine gx_aload_n C 0 d_Mod_layBest_10 rfl rfl ?_
    refine gx_get C iw_Mod 29 (gx_w29 E _) rfl 19 (by decide) gw_693 rfl rfl d_Mod_layBest_11 ?_
    refine gx_iload_n C 1 d_Mod_layBest_14 rfl rfl ?_
    refine gx_aload_n C 0 d_Mod_layBest_15 rfl rfl ?_
    refine gx_get C iw_Mod 29 (gx_w29 E _) rfl 22 (by decide) gw_696 rfl rfl d_Mod_layBest_16 ?_
    refine gx_iload_n C 1 d_Mod_layBest_19 rfl rfl ?_
    obtain ⟨hi2, hf⟩ := gx_ck_some hf
    refine gx_iald C 45 0 (gx_w45 E _) rfl hi2 d_Mod_layBest_20 ?_
    obtain ⟨hi3, hf⟩ := gx_ck_some hf
    refine gx_iast C (x' := gx_sA a.2 32 (a.1 : Int32).toNatClampNeg (gx_gA a.2 35 (a.1 : Int32).toNatClampNeg)) 42 0 (gx_w42 E _) rfl hi3 (gx_q42 E _ _ _) d_Mod_layBest_21 ?_
    refine gx_aload_n C 0 d_Mod_layBest_22 rfl rfl ?_
    refine gx_get C iw_Mod 29 (gx_w29 E _) rfl 20 (by decide) gw_694 rfl rfl d_Mod_layBest_23 ?_
    refine gx_iload_n C 1 d_Mod_layBest_26 rfl rfl ?_
    refine gx_aload_n C 0 d_Mod_layBest_27 rfl rfl ?_
    refine gx_get C iw_Mod 29 (gx_w29 E _) rfl 23 (by decide) gw_697 rfl rfl d_Mod_layBest_28 ?_
    refine gx_iload_n C 1 d_Mod_layBest_31 rfl rfl ?_
    obtain ⟨hi4, hf⟩ := gx_ck_some hf
    refine gx_iald C 46 0 (gx_w46 E _) rfl hi4 d_Mod_layBest_32 ?_
    obtain ⟨hi5, hf⟩ := gx_ck_some hf
    refine gx_iast C (x' := gx_sA (gx_sA a.2 32 (a.1 : Int32).toNatClampNeg (gx_gA a.2 35 (a.1 : Int32).toNatClampNeg)) 33 (a.1 : Int32).toNatClampNeg (gx_gA (gx_sA a.2 32 (a.1 : Int32).toNatClampNeg (gx_gA a.2 35 (a.1 : Int32).toNatClampNeg)) 36 (a.1 : Int32).toNatClampNeg)) 43 0 (gx_w43 E _) rfl hi5 (gx_q43 E _ _ _) d_Mod_layBest_33 ?_
    refine gx_iinc C (v := a.1 + 1) (lv' := [(1, .int (a.1 + 1)), (0, .ref (gx_ad E 29))]) 1 d_Mod_layBest_34 rfl rfl (by decide) rfl ?_
    refine gx_goto (tgt := 2) C d_Mod_layBest_37 (by decide) ?_
    cases hf
    refine gx_lv (lv' := [(0, .ref (gx_ad E 29)), (1, .int (a.1 + 1))]) [1, 0] rfl ?_
    exact hk
set_option maxHeartbeats 4000000 in
set_option maxRecDepth 100000 in
theorem c_CaseLayoutModel_layBest (l : Launch)  (x : gx_S) (o : Int32 × gx_S) (hf : f_CaseLayoutModel_layBest  x = some o) : gx_Mv true l y_Mod_layBest prog_10_method_38_code 2 rm_CaseLayoutModel_layBest (fun E => [.ref (gx_ad E 29)]) x o.2 := by
  refine gx_metv (own := "CaseLayoutModel") (by decide) rfl (fun E => Nat.le_of_ble_eq_true rfl) (fun K E hl0 hR hr hlk hk C => ?_)
  subst hl0
  unfold f_CaseLayoutModel_layBest at hf
  show gx_G K E _ 0 0 x 0 [(0, .ref (gx_ad E 29))] []
  refine gx_iconst C (v := 0) d_Mod_layBest_0 (by decide) ?_
  refine gx_istore_n C (lv' := [(1, .int 0), (0, .ref (gx_ad E 29))]) d_Mod_layBest_1 rfl (by decide) rfl ?_
  refine gx_lv (lv' := [(0, .ref (gx_ad E 29)), (1, .int 0)]) [1, 0] rfl ?_
  obtain ⟨e6, he6, hf⟩ := gx_bl_some hf
  refine (gx_loop (P := pp_CaseLayoutModel_layBest_2 K E ) (Q := pq_CaseLayoutModel_layBest_2 K E ) (fun a9 o9 h1 h2 => sc_CaseLayoutModel_layBest_2 C hR hr hlk  a9 o9 h1 h2) gx_fuel (0, x) e6 he6 ?_ : pp_CaseLayoutModel_layBest_2 K E  (0, x))
  unfold pq_CaseLayoutModel_layBest_2
  cases hf
  exact gx_vret C hr hlk hk d_Mod_layBest_40

def j_CaseLayoutModel_sight_40 (v1 : Int32) (v2 : Int32) (w0 : Int32) (w1 : Int32) (x : gx_S) : Option (Int32 × gx_S) :=
  gx_bd (f_CaseLayoutModel_throwing w1 w0 0 x) (fun r4 x4 => if r4 = 0 then (gx_bd (f_CaseLayoutModel_layBest  x4) (fun r6 x6 => gx_bd (f_CaseLayoutModel_isSeen v1 v2 x6) (fun r7 x7 => gx_nb r7 (some (r7, x7))))) else (some (0, x4)))
def j_CaseLayoutModel_sight_28 (v1 : Int32) (v2 : Int32) (w0 : Int32) (x : gx_S) : Option (Int32 × gx_S) :=
  if (gx_gI x 18) = 0 then (j_CaseLayoutModel_sight_40 v1 v2 1 w0 x) else (j_CaseLayoutModel_sight_40 v1 v2 0 w0 x)
def j_CaseLayoutModel_sight_23 (v1 : Int32) (v2 : Int32) (x : gx_S) : Option (Int32 × gx_S) :=
  j_CaseLayoutModel_sight_28 v1 v2 1 x
def f_CaseLayoutModel_sight (a1 : Int32) (a2 : Int32) (x : gx_S) : Option (Int32 × gx_S) :=
  gx_bd (f_CaseLayoutModel_in a1 0 ((gx_gI x 15) - 1) x) (fun r1 x1 => if r1 = 0 then (j_CaseLayoutModel_sight_23 a1 a2  x1) else (gx_bd (f_CaseLayoutModel_isThing a2 x1) (fun r9 x9 => if r9 = 0 then (j_CaseLayoutModel_sight_23 a1 a2  x9) else (j_CaseLayoutModel_sight_28 a1 a2 0 x9))))
abbrev rm_CaseLayoutModel_sight : Room := { frames := 3, cells := 0, slots := 0, locals := 88 }
set_option maxHeartbeats 4000000 in
set_option maxRecDepth 100000 in
theorem jc_CaseLayoutModel_sight_40 {K : gx_K} {E : gx_E} (C : gx_C K E "CaseLayoutModel" prog_10_method_41_code 3) (hR : K.R = rm_CaseLayoutModel_sight) (hr : K.meth.sig.returnType = (some .boolean)) (hlk : K.meth.locks = false) (v1 : Int32) (v2 : Int32) (w0 : Int32) (w1 : Int32) (x : gx_S) (o : Int32 × gx_S) (hf : j_CaseLayoutModel_sight_40 v1 v2 w0 w1 x = some o) (hk : ∀ t, MQ K.below (gx_Qi E (gx_AB true E K.s.heap.size) o.1 o.2) K.args K.s 0 0 (gx_AB true E K.s.heap.size) t → K.Q t) : gx_G K E (gx_AB true E K.s.heap.size) 0 0 x 40 [(0, .ref (gx_ad E 29)), (1, .int v1), (2, .int v2)] [.int w0, .int w1, .ref (gx_ad E 29)] := by
  unfold j_CaseLayoutModel_sight_40 at hf
  refine gx_iconst C (v := 0) d_Mod_sight_40 (by decide) ?_
  obtain ⟨r4, x4, hc4, hf⟩ := gx_bd_some hf
  refine gx_cVi (n2 := 0) (k2 := 0) C (As := [.int w1, .int w0, .int 0]) (rest := []) 29 3 (c_CaseLayoutModel_throwing K.l w1 w0 0 x _ hc4) (Or.inl rfl) rfl (gx_goodV gw_774 gw_776 gs_17 gw_10 gw_777) (by decide +kernel) (gx_w29 E _) rfl (by rw [hR]; decide) rfl rfl (Nat.le_of_ble_eq_true rfl) d_Mod_sight_41 (by rw [hR]; decide) rfl rfl ?_
  refine gx_if_eq (tgt := 49) C d_Mod_sight_44 (by decide) (fun h5 => ?_) (fun h5 => ?_)
  · have hf := (if_pos h5).symm.trans hf
    refine gx_aload_n C 0 d_Mod_sight_49 rfl rfl ?_
    obtain ⟨r6, x6, hc6, hf⟩ := gx_bd_some hf
    refine gx_cVv (n2 := 0) (k2 := 0) C (As := []) (rest := []) 29 0 (c_CaseLayoutModel_layBest K.l  x4 _ hc6) (Or.inl rfl) rfl (gx_goodV gw_907 gw_909 gs_35 gw_10 gw_910) (by decide +kernel) (gx_w29 E _) rfl (by rw [hR]; decide) rfl rfl (Nat.le_of_ble_eq_true rfl) d_Mod_sight_50 (by rw [hR]; decide) rfl rfl ?_
    refine gx_aload_n C 0 d_Mod_sight_53 rfl rfl ?_
    refine gx_iload_n C 1 d_Mod_sight_54 rfl rfl ?_
    refine gx_iload_n C 2 d_Mod_sight_55 rfl rfl ?_
    obtain ⟨r7, x7, hc7, hf⟩ := gx_bd_some hf
    refine gx_cVi (n2 := 0) (k2 := 0) C (As := [.int v1, .int v2]) (rest := []) 29 2 (c_CaseLayoutModel_isSeen K.l v1 v2 x6 _ hc7) (Or.inl rfl) rfl (gx_goodV gw_838 gw_840 gs_24 gw_10 gw_841) (by decide +kernel) (gx_w29 E _) rfl (by rw [hR]; decide) rfl rfl (Nat.le_of_ble_eq_true rfl) d_Mod_sight_56 (by rw [hR]; decide) rfl rfl ?_
    obtain ⟨hn8, hf⟩ := gx_nb_some hf
    cases hf
    exact gx_zret C hr hlk hk hn8 d_Mod_sight_59
  · have hf := (if_neg h5).symm.trans hf
    refine gx_iconst C (v := 0) d_Mod_sight_47 (by decide) ?_
    cases hf
    exact gx_zret C hr hlk hk (by decide) d_Mod_sight_48
set_option maxHeartbeats 4000000 in
set_option maxRecDepth 100000 in
theorem jc_CaseLayoutModel_sight_28 {K : gx_K} {E : gx_E} (C : gx_C K E "CaseLayoutModel" prog_10_method_41_code 3) (hR : K.R = rm_CaseLayoutModel_sight) (hr : K.meth.sig.returnType = (some .boolean)) (hlk : K.meth.locks = false) (v1 : Int32) (v2 : Int32) (w0 : Int32) (x : gx_S) (o : Int32 × gx_S) (hf : j_CaseLayoutModel_sight_28 v1 v2 w0 x = some o) (hk : ∀ t, MQ K.below (gx_Qi E (gx_AB true E K.s.heap.size) o.1 o.2) K.args K.s 0 0 (gx_AB true E K.s.heap.size) t → K.Q t) : gx_G K E (gx_AB true E K.s.heap.size) 0 0 x 28 [(0, .ref (gx_ad E 29)), (1, .int v1), (2, .int v2)] [.int w0, .ref (gx_ad E 29)] := by
  unfold j_CaseLayoutModel_sight_28 at hf
  refine gx_aload_n C 0 d_Mod_sight_28 rfl rfl ?_
  refine gx_get C iw_Mod 29 (gx_w29 E _) rfl 24 (by decide) gw_698 rfl rfl d_Mod_sight_29 ?_
  refine gx_if_ne (tgt := 39) C d_Mod_sight_32 (by decide) (fun h3 => ?_) (fun h3 => ?_)
  · have hf := (if_neg h3).symm.trans hf
    refine gx_iconst C (v := 0) d_Mod_sight_39 (by decide) ?_
    exact jc_CaseLayoutModel_sight_40 C hR hr hlk v1 v2 0 w0 x _ hf hk
  · have hf := (if_pos h3).symm.trans hf
    refine gx_iconst C (v := 1) d_Mod_sight_35 (by decide) ?_
    refine gx_goto (tgt := 40) C d_Mod_sight_36 (by decide) ?_
    exact jc_CaseLayoutModel_sight_40 C hR hr hlk v1 v2 1 w0 x _ hf hk
set_option maxHeartbeats 4000000 in
set_option maxRecDepth 100000 in
theorem jc_CaseLayoutModel_sight_23 {K : gx_K} {E : gx_E} (C : gx_C K E "CaseLayoutModel" prog_10_method_41_code 3) (hR : K.R = rm_CaseLayoutModel_sight) (hr : K.meth.sig.returnType = (some .boolean)) (hlk : K.meth.locks = false) (v1 : Int32) (v2 : Int32) (x : gx_S) (o : Int32 × gx_S) (hf : j_CaseLayoutModel_sight_23 v1 v2 x = some o) (hk : ∀ t, MQ K.below (gx_Qi E (gx_AB true E K.s.heap.size) o.1 o.2) K.args K.s 0 0 (gx_AB true E K.s.heap.size) t → K.Q t) : gx_G K E (gx_AB true E K.s.heap.size) 0 0 x 23 [(0, .ref (gx_ad E 29)), (1, .int v1), (2, .int v2)] [.ref (gx_ad E 29)] := by
  unfold j_CaseLayoutModel_sight_23 at hf
  refine gx_iconst C (v := 1) d_Mod_sight_23 (by decide) ?_
  refine gx_goto (tgt := 28) C d_Mod_sight_24 (by decide) ?_
  exact jc_CaseLayoutModel_sight_28 C hR hr hlk v1 v2 1 x _ hf hk
set_option maxHeartbeats 4000000 in
set_option maxRecDepth 100000 in
theorem c_CaseLayoutModel_sight (l : Launch) (a1 : Int32) (a2 : Int32) (x : gx_S) (o : Int32 × gx_S) (hf : f_CaseLayoutModel_sight a1 a2 x = some o) : gx_Mi true l y_Mod_sight prog_10_method_41_code 3 (some .boolean) rm_CaseLayoutModel_sight (fun E => [.ref (gx_ad E 29), .int a1, .int a2]) x o.1 o.2 := by
  refine gx_meti (own := "CaseLayoutModel") (by decide) rfl (fun E => Nat.le_of_ble_eq_true rfl) (fun K E hl0 hR hr hlk hk C => ?_)
  subst hl0
  unfold f_CaseLayoutModel_sight at hf
  show gx_G K E _ 0 0 x 0 [(0, .ref (gx_ad E 29)), (1, .int a1), (2, .int a2)] []
  refine gx_aload_n C 0 d_Mod_sight_0 rfl rfl ?_
  refine gx_iload_n C 1 d_Mod_sight_1 rfl rfl ?_
  refine gx_iconst C (v := 0) d_Mod_sight_2 (by decide) ?_
  refine gx_aload_n C 0 d_Mod_sight_3 rfl rfl ?_
  refine gx_get C iw_Mod 29 (gx_w29 E _) rfl 11 (by decide) gw_685 rfl rfl d_Mod_sight_4 ?_
  refine gx_iconst C (v := 1) d_Mod_sight_7 (by decide) ?_
  refine gx_isub C d_Mod_sight_8 ?_
  obtain ⟨r1, x1, hc1, hf⟩ := gx_bd_some hf
  refine gx_cSi (n2 := 0) (k2 := 0) C (As := [.int a1, .int 0, .int ((gx_gI x 15) - 1)]) (rest := [.ref (gx_ad E 29)]) 3 (c_CaseLayoutModel_in K.l a1 0 ((gx_gI x 15) - 1) x _ hc1) (Or.inl rfl) rfl (gx_goodS gw_771 gw_772 gw_10 gw_773) (by decide +kernel) (by rw [hR]; decide) rfl rfl (Nat.le_of_ble_eq_true rfl) d_Mod_sight_9 (by rw [hR]; decide) rfl rfl ?_
  refine gx_if_eq (tgt := 23) C d_Mod_sight_12 (by decide) (fun h2 => ?_) (fun h2 => ?_)
  · have hf := (if_pos h2).symm.trans hf
    exact jc_CaseLayoutModel_sight_23 C hR hr hlk a1 a2  x1 _ hf hk
  · have hf := (if_neg h2).symm.trans hf
    refine gx_aload_n C 0 d_Mod_sight_15 rfl rfl ?_
    refine gx_iload_n C 2 d_Mod_sight_16 rfl rfl ?_
    obtain ⟨r9, x9, hc9, hf⟩ := gx_bd_some hf
    refine gx_cVi (n2 := 0) (k2 := 0) C (As := [.int a2]) (rest := [.ref (gx_ad E 29)]) 29 1 (c_CaseLayoutModel_isThing K.l a2 x1 _ hc9) (Or.inl rfl) rfl (gx_goodV gw_802 gw_804 gs_21 gw_10 gw_805) (by decide +kernel) (gx_w29 E _) rfl (by rw [hR]; decide) rfl rfl (Nat.le_of_ble_eq_true rfl) d_Mod_sight_17 (by rw [hR]; decide) rfl rfl ?_
    refine gx_if_ne (tgt := 27) C d_Mod_sight_20 (by decide) (fun h10 => ?_) (fun h10 => ?_)
    · have hf := (if_neg h10).symm.trans hf
      refine gx_iconst C (v := 0) d_Mod_sight_27 (by decide) ?_
      exact jc_CaseLayoutModel_sight_28 C hR hr hlk a1 a2 0 x9 _ hf hk
    · have hf := (if_pos h10).symm.trans hf
      exact jc_CaseLayoutModel_sight_23 C hR hr hlk a1 a2  x9 _ hf hk

def j_CaseLayoutModel_escape_27 (v1 : Int32) (v2 : Int32) (w0 : Int32) (w1 : Int32) (x : gx_S) : Option (Int32 × gx_S) :=
  gx_bd (f_CaseLayoutModel_throwing w1 w0 0 x) (fun r4 x4 => if r4 = 0 then (gx_bd (f_CaseLayoutModel_layBest  x4) (fun r6 x6 => gx_bd (f_CaseLayoutModel_measure  x6) (fun r7 x7 => gx_bd (f_CaseLayoutModel_stepsFrom v1 v2 x7) (fun r8 x8 => if 1000 ≤ r8 then (some ((-1), x8)) else (gx_bd (f_CaseLayoutModel_isFree v1 v2 x8) (fun r10 x10 => if r10 = 0 then (some ((-1), x10)) else (gx_bd (f_CaseLayoutModel_stepsFrom v1 v2 x10) (fun r12 x12 => some (r12, x12))))))))) else (some (0, x4)))
def j_CaseLayoutModel_escape_15 (v1 : Int32) (v2 : Int32) (w0 : Int32) (x : gx_S) : Option (Int32 × gx_S) :=
  if (gx_gI x 18) = 0 then (j_CaseLayoutModel_escape_27 v1 v2 1 w0 x) else (j_CaseLayoutModel_escape_27 v1 v2 0 w0 x)
def f_CaseLayoutModel_escape (a1 : Int32) (a2 : Int32) (x : gx_S) : Option (Int32 × gx_S) :=
  gx_bd (f_CaseLayoutModel_isCell a1 a2 x) (fun r1 x1 => if r1 = 0 then (j_CaseLayoutModel_escape_15 a1 a2 1 x1) else (j_CaseLayoutModel_escape_15 a1 a2 0 x1))
abbrev rm_CaseLayoutModel_escape : Room := { frames := 4, cells := 0, slots := 0, locals := 94 }
set_option maxHeartbeats 4000000 in
set_option maxRecDepth 100000 in
theorem jc_CaseLayoutModel_escape_27 {K : gx_K} {E : gx_E} (C : gx_C K E "CaseLayoutModel" prog_10_method_42_code 3) (hR : K.R = rm_CaseLayoutModel_escape) (hr : K.meth.sig.returnType = (some .int)) (hlk : K.meth.locks = false) (v1 : Int32) (v2 : Int32) (w0 : Int32) (w1 : Int32) (x : gx_S) (o : Int32 × gx_S) (hf : j_CaseLayoutModel_escape_27 v1 v2 w0 w1 x = some o) (hk : ∀ t, MQ K.below (gx_Qi E (gx_AB true E K.s.heap.size) o.1 o.2) K.args K.s 0 0 (gx_AB true E K.s.heap.size) t → K.Q t) : gx_G K E (gx_AB true E K.s.heap.size) 0 0 x 27 [(0, .ref (gx_ad E 29)), (1, .int v1), (2, .int v2)] [.int w0, .int w1, .ref (gx_ad E 29)] := by
  unfold j_CaseLayoutModel_escape_27 at hf
  refine gx_iconst C (v := 0) d_Mod_escape_27 (by decide) ?_
  obtain ⟨r4, x4, hc4, hf⟩ := gx_bd_some hf
  refine gx_cVi (n2 := 0) (k2 := 0) C (As := [.int w1, .int w0, .int 0]) (rest := []) 29 3 (c_CaseLayoutModel_throwing K.l w1 w0 0 x _ hc4) (Or.inl rfl) rfl (gx_goodV gw_774 gw_776 gs_17 gw_10 gw_777) (by decide +kernel) (gx_w29 E _) rfl (by rw [hR]; decide) rfl rfl (Nat.le_of_ble_eq_true rfl) d_Mod_escape_28 (by rw [hR]; decide) rfl rfl ?_
  refine gx_if_eq (tgt := 36) C d_Mod_escape_31 (by decide) (fun h5 => ?_) (fun h5 => ?_)
  · have hf := (if_pos h5).symm.trans hf
    refine gx_aload_n C 0 d_Mod_escape_36 rfl rfl ?_
    obtain ⟨r6, x6, hc6, hf⟩ := gx_bd_some hf
    refine gx_cVv (n2 := 0) (k2 := 0) C (As := []) (rest := []) 29 0 (c_CaseLayoutModel_layBest K.l  x4 _ hc6) (Or.inl rfl) rfl (gx_goodV gw_907 gw_909 gs_35 gw_10 gw_910) (by decide +kernel) (gx_w29 E _) rfl (by rw [hR]; decide) rfl rfl (Nat.le_of_ble_eq_true rfl) d_Mod_escape_37 (by rw [hR]; decide) rfl rfl ?_
    refine gx_aload_n C 0 d_Mod_escape_40 rfl rfl ?_
    obtain ⟨r7, x7, hc7, hf⟩ := gx_bd_some hf
    refine gx_cVv (n2 := 0) (k2 := 0) C (As := []) (rest := []) 29 0 (c_CaseLayoutModel_measure K.l  x6 _ hc7) (Or.inl rfl) rfl (gx_goodV gw_852 gw_854 gs_26 gw_10 gw_855) (by decide +kernel) (gx_w29 E _) rfl (by rw [hR]; decide) rfl rfl (Nat.le_of_ble_eq_true rfl) d_Mod_escape_41 (by rw [hR]; decide) rfl rfl ?_
    refine gx_aload_n C 0 d_Mod_escape_44 rfl rfl ?_
    refine gx_iload_n C 1 d_Mod_escape_45 rfl rfl ?_
    refine gx_iload_n C 2 d_Mod_escape_46 rfl rfl ?_
    obtain ⟨r8, x8, hc8, hf⟩ := gx_bd_some hf
    refine gx_cVi (n2 := 0) (k2 := 0) C (As := [.int v1, .int v2]) (rest := []) 29 2 (c_CaseLayoutModel_stepsFrom K.l v1 v2 x7 _ hc8) (Or.inl rfl) rfl (gx_goodV gw_860 gw_862 gs_28 gw_10 gw_863) (by decide +kernel) (gx_w29 E _) rfl (by rw [hR]; decide) rfl rfl (Nat.le_of_ble_eq_true rfl) d_Mod_escape_47 (by rw [hR]; decide) rfl rfl ?_
    refine gx_sipush C (v := 1000) d_Mod_escape_50 (by decide) ?_
    refine gx_icmp_ge (tgt := 74) C d_Mod_escape_53 (by decide) (fun h9 => ?_) (fun h9 => ?_)
    · have hf := (if_pos h9).symm.trans hf
      refine gx_iconst C (v := (-1)) d_Mod_escape_74 (by decide) ?_
      cases hf
      exact gx_iret C hr hlk hk d_Mod_escape_75
    · have hf := (if_neg h9).symm.trans hf
      refine gx_aload_n C 0 d_Mod_escape_56 rfl rfl ?_
      refine gx_iload_n C 1 d_Mod_escape_57 rfl rfl ?_
      refine gx_iload_n C 2 d_Mod_escape_58 rfl rfl ?_
      obtain ⟨r10, x10, hc10, hf⟩ := gx_bd_some hf
      refine gx_cVi (n2 := 0) (k2 := 0) C (As := [.int v1, .int v2]) (rest := []) 29 2 (c_CaseLayoutModel_isFree K.l v1 v2 x8 _ hc10) (Or.inl rfl) rfl (gx_goodV gw_856 gw_858 gs_27 gw_10 gw_859) (by decide +kernel) (gx_w29 E _) rfl (by rw [hR]; decide) rfl rfl (Nat.le_of_ble_eq_true rfl) d_Mod_escape_59 (by rw [hR]; decide) rfl rfl ?_
      refine gx_if_eq (tgt := 74) C d_Mod_escape_62 (by decide) (fun h11 => ?_) (fun h11 => ?_)
      · have hf := (if_pos h11).symm.trans hf
        refine gx_iconst C (v := (-1)) d_Mod_escape_74 (by decide) ?_
        cases hf
        exact gx_iret C hr hlk hk d_Mod_escape_75
      · have hf := (if_neg h11).symm.trans hf
        refine gx_aload_n C 0 d_Mod_escape_65 rfl rfl ?_
        refine gx_iload_n C 1 d_Mod_escape_66 rfl rfl ?_
        refine gx_iload_n C 2 d_Mod_escape_67 rfl rfl ?_
        obtain ⟨r12, x12, hc12, hf⟩ := gx_bd_some hf
        refine gx_cVi (n2 := 0) (k2 := 0) C (As := [.int v1, .int v2]) (rest := []) 29 2 (c_CaseLayoutModel_stepsFrom K.l v1 v2 x10 _ hc12) (Or.inl rfl) rfl (gx_goodV gw_860 gw_862 gs_28 gw_10 gw_863) (by decide +kernel) (gx_w29 E _) rfl (by rw [hR]; decide) rfl rfl (Nat.le_of_ble_eq_true rfl) d_Mod_escape_68 (by rw [hR]; decide) rfl rfl ?_
        refine gx_goto (tgt := 75) C d_Mod_escape_71 (by decide) ?_
        cases hf
        exact gx_iret C hr hlk hk d_Mod_escape_75
  · have hf := (if_neg h5).symm.trans hf
    refine gx_iconst C (v := 0) d_Mod_escape_34 (by decide) ?_
    cases hf
    exact gx_iret C hr hlk hk d_Mod_escape_35
set_option maxHeartbeats 4000000 in
set_option maxRecDepth 100000 in
theorem jc_CaseLayoutModel_escape_15 {K : gx_K} {E : gx_E} (C : gx_C K E "CaseLayoutModel" prog_10_method_42_code 3) (hR : K.R = rm_CaseLayoutModel_escape) (hr : K.meth.sig.returnType = (some .int)) (hlk : K.meth.locks = false) (v1 : Int32) (v2 : Int32) (w0 : Int32) (x : gx_S) (o : Int32 × gx_S) (hf : j_CaseLayoutModel_escape_15 v1 v2 w0 x = some o) (hk : ∀ t, MQ K.below (gx_Qi E (gx_AB true E K.s.heap.size) o.1 o.2) K.args K.s 0 0 (gx_AB true E K.s.heap.size) t → K.Q t) : gx_G K E (gx_AB true E K.s.heap.size) 0 0 x 15 [(0, .ref (gx_ad E 29)), (1, .int v1), (2, .int v2)] [.int w0, .ref (gx_ad E 29)] := by
  unfold j_CaseLayoutModel_escape_15 at hf
  refine gx_aload_n C 0 d_Mod_escape_15 rfl rfl ?_
  refine gx_get C iw_Mod 29 (gx_w29 E _) rfl 24 (by decide) gw_698 rfl rfl d_Mod_escape_16 ?_
  refine gx_if_ne (tgt := 26) C d_Mod_escape_19 (by decide) (fun h3 => ?_) (fun h3 => ?_)
  · have hf := (if_neg h3).symm.trans hf
    refine gx_iconst C (v := 0) d_Mod_escape_26 (by decide) ?_
    exact jc_CaseLayoutModel_escape_27 C hR hr hlk v1 v2 0 w0 x _ hf hk
  · have hf := (if_pos h3).symm.trans hf
    refine gx_iconst C (v := 1) d_Mod_escape_22 (by decide) ?_
    refine gx_goto (tgt := 27) C d_Mod_escape_23 (by decide) ?_
    exact jc_CaseLayoutModel_escape_27 C hR hr hlk v1 v2 1 w0 x _ hf hk
set_option maxHeartbeats 4000000 in
set_option maxRecDepth 100000 in
theorem c_CaseLayoutModel_escape (l : Launch) (a1 : Int32) (a2 : Int32) (x : gx_S) (o : Int32 × gx_S) (hf : f_CaseLayoutModel_escape a1 a2 x = some o) : gx_Mi true l y_Mod_escape prog_10_method_42_code 3 (some .int) rm_CaseLayoutModel_escape (fun E => [.ref (gx_ad E 29), .int a1, .int a2]) x o.1 o.2 := by
  refine gx_meti (own := "CaseLayoutModel") (by decide) rfl (fun E => Nat.le_of_ble_eq_true rfl) (fun K E hl0 hR hr hlk hk C => ?_)
  subst hl0
  unfold f_CaseLayoutModel_escape at hf
  show gx_G K E _ 0 0 x 0 [(0, .ref (gx_ad E 29)), (1, .int a1), (2, .int a2)] []
  refine gx_aload_n C 0 d_Mod_escape_0 rfl rfl ?_
  refine gx_aload_n C 0 d_Mod_escape_1 rfl rfl ?_
  refine gx_iload_n C 1 d_Mod_escape_2 rfl rfl ?_
  refine gx_iload_n C 2 d_Mod_escape_3 rfl rfl ?_
  obtain ⟨r1, x1, hc1, hf⟩ := gx_bd_some hf
  refine gx_cVi (n2 := 0) (k2 := 0) C (As := [.int a1, .int a2]) (rest := [.ref (gx_ad E 29)]) 29 2 (c_CaseLayoutModel_isCell K.l a1 a2 x _ hc1) (Or.inl rfl) rfl (gx_goodV gw_767 gw_769 gs_16 gw_10 gw_770) (by decide +kernel) (gx_w29 E _) rfl (by rw [hR]; decide) rfl rfl (Nat.le_of_ble_eq_true rfl) d_Mod_escape_4 (by rw [hR]; decide) rfl rfl ?_
  refine gx_if_ne (tgt := 14) C d_Mod_escape_7 (by decide) (fun h2 => ?_) (fun h2 => ?_)
  · have hf := (if_neg h2).symm.trans hf
    refine gx_iconst C (v := 0) d_Mod_escape_14 (by decide) ?_
    exact jc_CaseLayoutModel_escape_15 C hR hr hlk a1 a2 0 x1 _ hf hk
  · have hf := (if_pos h2).symm.trans hf
    refine gx_iconst C (v := 1) d_Mod_escape_10 (by decide) ?_
    refine gx_goto (tgt := 15) C d_Mod_escape_11 (by decide) ?_
    exact jc_CaseLayoutModel_escape_15 C hR hr hlk a1 a2 1 x1 _ hf hk

def s_CaseLayoutModel_wallCount_4  (a : Int32 × Int32 × gx_S) : Option ((Int32 × Int32 × gx_S) ⊕ (Nat × Int32 × Int32 × gx_S)) :=
  if 81 ≤ a.2.1 then (some (.inr (0, a.1, a.2.1, a.2.2))) else (gx_ck a.2.1 81 (if (gx_gA a.2.2 20 (a.2.1 : Int32).toNatClampNeg) = 0 then (some (.inl (a.1 + 0, a.2.1 + 1, a.2.2))) else (some (.inl (a.1 + 1, a.2.1 + 1, a.2.2)))))
def f_CaseLayoutModel_wallCount  (x : gx_S) : Option (Int32 × gx_S) :=
  gx_bl (gx_it (s_CaseLayoutModel_wallCount_4 ) gx_fuel (0, 0, x)) (fun e4 => some (e4.2.1, e4.2.2.2))
abbrev rm_CaseLayoutModel_wallCount : Room := { frames := 0, cells := 0, slots := 0, locals := 0 }
def pp_CaseLayoutModel_wallCount_4 (K : gx_K) (E : gx_E)  (a : Int32 × Int32 × gx_S) : Prop := gx_G K E (gx_AB false E K.s.heap.size) 0 0 (a.2.2) 4 [(0, .ref (gx_ad E 29)), (1, .int a.1), (2, .int a.2.1)] []
def pq_CaseLayoutModel_wallCount_4 (K : gx_K) (E : gx_E)  (b : Nat × Int32 × Int32 × gx_S) : Prop := gx_G K E (gx_AB false E K.s.heap.size) 0 0 (b.2.2.2) 33 [(1, .int b.2.1)] []
set_option maxHeartbeats 4000000 in
set_option maxRecDepth 100000 in
theorem sc_CaseLayoutModel_wallCount_4 {K : gx_K} {E : gx_E} (C : gx_C K E "CaseLayoutModel" prog_10_method_43_code 3) (hR : K.R = rm_CaseLayoutModel_wallCount) (hr : K.meth.sig.returnType = (some .int)) (hlk : K.meth.locks = false)  (a : Int32 × Int32 × gx_S) (o : (Int32 × Int32 × gx_S) ⊕ (Nat × Int32 × Int32 × gx_S)) (hf : s_CaseLayoutModel_wallCount_4  a = some o) (hk : gx_or (pp_CaseLayoutModel_wallCount_4 K E ) (pq_CaseLayoutModel_wallCount_4 K E ) o) : pp_CaseLayoutModel_wallCount_4 K E  a := by
  unfold s_CaseLayoutModel_wallCount_4 at hf
  unfold pp_CaseLayoutModel_wallCount_4
  refine gx_iload_n C 2 d_Mod_wallCount_4 rfl rfl ?_
  refine gx_bipush C (v := 81) d_Mod_wallCount_5 (by decide) ?_
  refine gx_icmp_ge (tgt := 33) C d_Mod_wallCount_7 (by decide) (fun h1 => ?_) (fun h1 => ?_)
  · have hf := (if_pos h1).symm.trans hf
    cases hf
    have hk : pq_CaseLayoutModel_wallCount_4 K E  _ := hk
    unfold pq_CaseLayoutModel_wallCount_4 at hk
    refine gx_lv (lv' := [(1, .int a.1)]) [1] rfl ?_
    exact hk
  · have hf := (if_neg h1).symm.trans hf
    refine gx_iload_n C 1 d_Mod_wallCount_10 rfl rfl ?_
    refine gx_aload_n C 0 d_Mod_wallCount_11 rfl rfl ?_
    refine gx_get C iw_Mod 29 (gx_w29 E _) rfl 3 (by decide) gw_677 rfl rfl d_Mod_wallCount_12 ?_
    refine gx_iload_n C 2 d_Mod_wallCount_15 rfl rfl ?_
    obtain ⟨hi2, hf⟩ := gx_ck_some hf
    refine gx_zald C 30 1 (gx_w30 E _) rfl hi2 d_Mod_wallCount_16 ?_
    refine gx_if_eq (tgt := 24) C d_Mod_wallCount_17 (by decide) (fun h3 => ?_) (fun h3 => ?_)
    · have hf := (if_pos h3).symm.trans hf
      refine gx_iconst C (v := 0) d_Mod_wallCount_24 (by decide) ?_
      refine gx_iadd C d_Mod_wallCount_25 ?_
      refine gx_istore_n C (lv' := [(1, .int (a.1 + 0)), (0, .ref (gx_ad E 29)), (2, .int a.2.1)]) d_Mod_wallCount_26 rfl (by decide) rfl ?_
      refine gx_iinc C (v := a.2.1 + 1) (lv' := [(2, .int (a.2.1 + 1)), (1, .int (a.1 + 0)), (0, .ref (gx_ad E 29))]) 2 d_Mod_wallCount_27 rfl rfl (by decide) rfl ?_
      refine gx_goto (tgt := 4) C d_Mod_wallCount_30 (by decide) ?_
      cases hf
      refine gx_lv (lv' := [(0, .ref (gx_ad E 29)), (1, .int (a.1 + 0)), (2, .int (a.2.1 + 1))]) [2, 1, 0] rfl ?_
      exact hk
    · have hf := (if_neg h3).symm.trans hf
      refine gx_iconst C (v := 1) d_Mod_wallCount_20 (by decide) ?_
      refine gx_goto (tgt := 25) C d_Mod_wallCount_21 (by decide) ?_
      refine gx_iadd C d_Mod_wallCount_25 ?_
      refine gx_istore_n C (lv' := [(1, .int (a.1 + 1)), (0, .ref (gx_ad E 29)), (2, .int a.2.1)]) d_Mod_wallCount_26 rfl (by decide) rfl ?_
      refine gx_iinc C (v := a.2.1 + 1) (lv' := [(2, .int (a.2.1 + 1)), (1, .int (a.1 + 1)), (0, .ref (gx_ad E 29))]) 2 d_Mod_wallCount_27 rfl rfl (by decide) rfl ?_
      refine gx_goto (tgt := 4) C d_Mod_wallCount_30 (by decide) ?_
      cases hf
      refine gx_lv (lv' := [(0, .ref (gx_ad E 29)), (1, .int (a.1 + 1)), (2, .int (a.2.1 + 1))]) [2, 1, 0] rfl ?_
      exact hk
set_option maxHeartbeats 4000000 in
set_option maxRecDepth 100000 in
theorem c_CaseLayoutModel_wallCount (l : Launch)  (x : gx_S) (o : Int32 × gx_S) (hf : f_CaseLayoutModel_wallCount  x = some o) : gx_Mi false l y_Mod_wallCount prog_10_method_43_code 3 (some .int) rm_CaseLayoutModel_wallCount (fun E => [.ref (gx_ad E 29)]) x o.1 o.2 := by
  refine gx_meti (own := "CaseLayoutModel") (by decide) rfl (fun E => Nat.le_of_ble_eq_true rfl) (fun K E hl0 hR hr hlk hk C => ?_)
  subst hl0
  unfold f_CaseLayoutModel_wallCount at hf
  show gx_G K E _ 0 0 x 0 [(0, .ref (gx_ad E 29))] []
  refine gx_iconst C (v := 0) d_Mod_wallCount_0 (by decide) ?_
  refine gx_istore_n C (lv' := [(1, .int 0), (0, .ref (gx_ad E 29))]) d_Mod_wallCount_1 rfl (by decide) rfl ?_
  refine gx_iconst C (v := 0) d_Mod_wallCount_2 (by decide) ?_
  refine gx_istore_n C (lv' := [(2, .int 0), (1, .int 0), (0, .ref (gx_ad E 29))]) d_Mod_wallCount_3 rfl (by decide) rfl ?_
  refine gx_lv (lv' := [(0, .ref (gx_ad E 29)), (1, .int 0), (2, .int 0)]) [2, 1, 0] rfl ?_
  obtain ⟨e4, he4, hf⟩ := gx_bl_some hf
  refine (gx_loop (P := pp_CaseLayoutModel_wallCount_4 K E ) (Q := pq_CaseLayoutModel_wallCount_4 K E ) (fun a9 o9 h1 h2 => sc_CaseLayoutModel_wallCount_4 C hR hr hlk  a9 o9 h1 h2) gx_fuel (0, 0, x) e4 he4 ?_ : pp_CaseLayoutModel_wallCount_4 K E  (0, 0, x))
  unfold pq_CaseLayoutModel_wallCount_4
  refine gx_iload_n C 0 d_Mod_wallCount_33 rfl rfl ?_
  cases hf
  exact gx_iret C hr hlk hk d_Mod_wallCount_34

def j_CaseLayoutModel_count_15 (v1 : Int32) (w0 : Int32) (x : gx_S) : Option (Int32 × gx_S) :=
  gx_bd (f_CaseLayoutModel_throwing w0 0 0 x) (fun r3 x3 => if r3 = 0 then (if v1 = 0 then (some (gx_gI x3 14, x3)) else (if v1 = 1 then (some (gx_gI x3 15, x3)) else (if v1 = 2 then (some (gx_gI x3 16, x3)) else (gx_bd (f_CaseLayoutModel_wallCount  x3) (fun r8 x8 => some (r8, x8)))))) else (some (0, x3)))
def f_CaseLayoutModel_count (a1 : Int32) (x : gx_S) : Option (Int32 × gx_S) :=
  gx_bd (f_CaseLayoutModel_in a1 0 3 x) (fun r1 x1 => if r1 = 0 then (j_CaseLayoutModel_count_15 a1 1 x1) else (j_CaseLayoutModel_count_15 a1 0 x1))
abbrev rm_CaseLayoutModel_count : Room := { frames := 1, cells := 0, slots := 0, locals := 23 }
set_option maxHeartbeats 4000000 in
set_option maxRecDepth 100000 in
theorem jc_CaseLayoutModel_count_15 {K : gx_K} {E : gx_E} (C : gx_C K E "CaseLayoutModel" prog_10_method_44_code 2) (hR : K.R = rm_CaseLayoutModel_count) (hr : K.meth.sig.returnType = (some .int)) (hlk : K.meth.locks = false) (v1 : Int32) (w0 : Int32) (x : gx_S) (o : Int32 × gx_S) (hf : j_CaseLayoutModel_count_15 v1 w0 x = some o) (hk : ∀ t, MQ K.below (gx_Qi E (gx_AB true E K.s.heap.size) o.1 o.2) K.args K.s 0 0 (gx_AB true E K.s.heap.size) t → K.Q t) : gx_G K E (gx_AB true E K.s.heap.size) 0 0 x 15 [(0, .ref (gx_ad E 29)), (1, .int v1)] [.int w0, .ref (gx_ad E 29)] := by
  unfold j_CaseLayoutModel_count_15 at hf
  refine gx_iconst C (v := 0) d_Mod_count_15 (by decide) ?_
  refine gx_iconst C (v := 0) d_Mod_count_16 (by decide) ?_
  obtain ⟨r3, x3, hc3, hf⟩ := gx_bd_some hf
  refine gx_cVi (n2 := 0) (k2 := 0) C (As := [.int w0, .int 0, .int 0]) (rest := []) 29 3 (c_CaseLayoutModel_throwing K.l w0 0 0 x _ hc3) (Or.inl rfl) rfl (gx_goodV gw_774 gw_776 gs_17 gw_10 gw_777) (by decide +kernel) (gx_w29 E _) rfl (by rw [hR]; decide) rfl rfl (Nat.le_of_ble_eq_true rfl) d_Mod_count_17 (by rw [hR]; decide) rfl rfl ?_
  refine gx_if_eq (tgt := 25) C d_Mod_count_20 (by decide) (fun h4 => ?_) (fun h4 => ?_)
  · have hf := (if_pos h4).symm.trans hf
    refine gx_iload_n C 1 d_Mod_count_25 rfl rfl ?_
    refine gx_if_ne (tgt := 36) C d_Mod_count_26 (by decide) (fun h5 => ?_) (fun h5 => ?_)
    · have hf := (if_neg h5).symm.trans hf
      refine gx_iload_n C 1 d_Mod_count_36 rfl rfl ?_
      refine gx_iconst C (v := 1) d_Mod_count_37 (by decide) ?_
      refine gx_icmp_ne (tgt := 48) C d_Mod_count_38 (by decide) (fun h6 => ?_) (fun h6 => ?_)
      · have hf := (if_neg h6).symm.trans hf
        refine gx_iload_n C 1 d_Mod_count_48 rfl rfl ?_
        refine gx_iconst C (v := 2) d_Mod_count_49 (by decide) ?_
        refine gx_icmp_ne (tgt := 60) C d_Mod_count_50 (by decide) (fun h7 => ?_) (fun h7 => ?_)
        · have hf := (if_neg h7).symm.trans hf
          refine gx_aload_n C 0 d_Mod_count_60 rfl rfl ?_
          obtain ⟨r8, x8, hc8, hf⟩ := gx_bd_some hf
          refine gx_cVi (n2 := 0) (k2 := 0) C (As := []) (rest := []) 29 0 (c_CaseLayoutModel_wallCount K.l  x3 _ hc8) (Or.inl rfl) rfl (gx_goodV gw_919 gw_921 gs_36 gw_10 gw_922) (by decide +kernel) (gx_w29 E _) rfl (by rw [hR]; decide) rfl rfl (Nat.le_of_ble_eq_true rfl) d_Mod_count_61 (by rw [hR]; decide) rfl rfl ?_
          cases hf
          exact gx_iret C hr hlk hk d_Mod_count_64
        · have hf := (if_pos h7).symm.trans hf
          refine gx_aload_n C 0 d_Mod_count_53 rfl rfl ?_
          refine gx_get C iw_Mod 29 (gx_w29 E _) rfl 15 (by decide) gw_689 rfl rfl d_Mod_count_54 ?_
          refine gx_goto (tgt := 64) C d_Mod_count_57 (by decide) ?_
          cases hf
          exact gx_iret C hr hlk hk d_Mod_count_64
      · have hf := (if_pos h6).symm.trans hf
        refine gx_aload_n C 0 d_Mod_count_41 rfl rfl ?_
        refine gx_get C iw_Mod 29 (gx_w29 E _) rfl 11 (by decide) gw_685 rfl rfl d_Mod_count_42 ?_
        refine gx_goto (tgt := 64) C d_Mod_count_45 (by decide) ?_
        cases hf
        exact gx_iret C hr hlk hk d_Mod_count_64
    · have hf := (if_pos h5).symm.trans hf
      refine gx_aload_n C 0 d_Mod_count_29 rfl rfl ?_
      refine gx_get C iw_Mod 29 (gx_w29 E _) rfl 5 (by decide) gw_679 rfl rfl d_Mod_count_30 ?_
      refine gx_goto (tgt := 64) C d_Mod_count_33 (by decide) ?_
      cases hf
      exact gx_iret C hr hlk hk d_Mod_count_64
  · have hf := (if_neg h4).symm.trans hf
    refine gx_iconst C (v := 0) d_Mod_count_23 (by decide) ?_
    cases hf
    exact gx_iret C hr hlk hk d_Mod_count_24
set_option maxHeartbeats 4000000 in
set_option maxRecDepth 100000 in
theorem c_CaseLayoutModel_count (l : Launch) (a1 : Int32) (x : gx_S) (o : Int32 × gx_S) (hf : f_CaseLayoutModel_count a1 x = some o) : gx_Mi true l y_Mod_count prog_10_method_44_code 2 (some .int) rm_CaseLayoutModel_count (fun E => [.ref (gx_ad E 29), .int a1]) x o.1 o.2 := by
  refine gx_meti (own := "CaseLayoutModel") (by decide) rfl (fun E => Nat.le_of_ble_eq_true rfl) (fun K E hl0 hR hr hlk hk C => ?_)
  subst hl0
  unfold f_CaseLayoutModel_count at hf
  show gx_G K E _ 0 0 x 0 [(0, .ref (gx_ad E 29)), (1, .int a1)] []
  refine gx_aload_n C 0 d_Mod_count_0 rfl rfl ?_
  refine gx_iload_n C 1 d_Mod_count_1 rfl rfl ?_
  refine gx_iconst C (v := 0) d_Mod_count_2 (by decide) ?_
  refine gx_iconst C (v := 3) d_Mod_count_3 (by decide) ?_
  obtain ⟨r1, x1, hc1, hf⟩ := gx_bd_some hf
  refine gx_cSi (n2 := 0) (k2 := 0) C (As := [.int a1, .int 0, .int 3]) (rest := [.ref (gx_ad E 29)]) 3 (c_CaseLayoutModel_in K.l a1 0 3 x _ hc1) (Or.inl rfl) rfl (gx_goodS gw_771 gw_772 gw_10 gw_773) (by decide +kernel) (by rw [hR]; decide) rfl rfl (Nat.le_of_ble_eq_true rfl) d_Mod_count_4 (by rw [hR]; decide) rfl rfl ?_
  refine gx_if_ne (tgt := 14) C d_Mod_count_7 (by decide) (fun h2 => ?_) (fun h2 => ?_)
  · have hf := (if_neg h2).symm.trans hf
    refine gx_iconst C (v := 0) d_Mod_count_14 (by decide) ?_
    exact jc_CaseLayoutModel_count_15 C hR hr hlk a1 0 x1 _ hf hk
  · have hf := (if_pos h2).symm.trans hf
    refine gx_iconst C (v := 1) d_Mod_count_10 (by decide) ?_
    refine gx_goto (tgt := 15) C d_Mod_count_11 (by decide) ?_
    exact jc_CaseLayoutModel_count_15 C hR hr hlk a1 1 x1 _ hf hk

def f_CaseLayoutModel_thrown  (x : gx_S) : Option (Int32 × gx_S) :=
  some (gx_gI x 11, x)
abbrev rm_CaseLayoutModel_thrown : Room := { frames := 0, cells := 0, slots := 0, locals := 0 }
set_option maxHeartbeats 4000000 in
set_option maxRecDepth 100000 in
theorem c_CaseLayoutModel_thrown (l : Launch)  (x : gx_S) (o : Int32 × gx_S) (hf : f_CaseLayoutModel_thrown  x = some o) : gx_Mi false l y_Mod_thrown prog_10_method_3_code 1 (some .int) rm_CaseLayoutModel_thrown (fun E => [.ref (gx_ad E 29)]) x o.1 o.2 := by
  refine gx_meti (own := "CaseLayoutModel") (by decide) rfl (fun E => Nat.le_of_ble_eq_true rfl) (fun K E hl0 hR hr hlk hk C => ?_)
  subst hl0
  unfold f_CaseLayoutModel_thrown at hf
  show gx_G K E _ 0 0 x 0 [(0, .ref (gx_ad E 29))] []
  refine gx_aload_n C 0 d_Mod_thrown_0 rfl rfl ?_
  refine gx_get C iw_Mod 29 (gx_w29 E _) rfl 0 (by decide) gw_674 rfl rfl d_Mod_thrown_1 ?_
  cases hf
  exact gx_iret C hr hlk hk d_Mod_thrown_4
