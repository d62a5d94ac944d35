def j_CaseLayoutModel_apart_41 (v1 : Int32) (v2 : Int32) (v3 : Int32) (w0 : Int32) (w1 : Int32) (x : gx_S) : Option (Int32 × gx_S) :=
  gx_bd (f_CaseLayoutModel_throwing w1 w0 0 x) (fun r4 x4 => if r4 = 0 then (gx_ck ((7 * v1) + v2) 49 (gx_ck ((7 * v1) + v2) 49 (gx_ck ((7 * v2) + v1) 49 (gx_bd (f_CaseLayoutModel_forget  (gx_sA (gx_sA x4 25 ((7 * v1) + v2 : Int32).toNatClampNeg v3) 25 ((7 * v2) + v1 : Int32).toNatClampNeg v3)) (fun r9 x9 => some (gx_gA x4 25 ((7 * v1) + v2 : Int32).toNatClampNeg, x9)))))) else (some (0, x4)))
def j_CaseLayoutModel_apart_36 (v1 : Int32) (v2 : Int32) (v3 : Int32) (w0 : Int32) (x : gx_S) : Option (Int32 × gx_S) :=
  j_CaseLayoutModel_apart_41 v1 v2 v3 1 w0 x
def j_CaseLayoutModel_apart_22 (v1 : Int32) (v2 : Int32) (v3 : Int32) (w0 : Int32) (x : gx_S) : Option (Int32 × gx_S) :=
  if v1 = v2 then (j_CaseLayoutModel_apart_36 v1 v2 v3 w0 x) else (gx_bd (f_CaseLayoutModel_in v3 0 5 x) (fun r10 x10 => if r10 = 0 then (j_CaseLayoutModel_apart_36 v1 v2 v3 w0 x10) else (j_CaseLayoutModel_apart_41 v1 v2 v3 0 w0 x10)))
def j_CaseLayoutModel_apart_17 (v1 : Int32) (v2 : Int32) (v3 : Int32) (x : gx_S) : Option (Int32 × gx_S) :=
  j_CaseLayoutModel_apart_22 v1 v2 v3 1 x
def f_CaseLayoutModel_apart (a1 : Int32) (a2 : Int32) (a3 : Int32) (x : gx_S) : Option (Int32 × gx_S) :=
  gx_bd (f_CaseLayoutModel_isThing a1 x) (fun r1 x1 => if r1 = 0 then (j_CaseLayoutModel_apart_17 a1 a2 a3  x1) else (gx_bd (f_CaseLayoutModel_isThing a2 x1) (fun r12 x12 => if r12 = 0 then (j_CaseLayoutModel_apart_17 a1 a2 a3  x12) else (j_CaseLayoutModel_apart_22 a1 a2 a3 0 x12))))
abbrev rm_CaseLayoutModel_apart : Room := { frames := 2, cells := 0, slots := 0, locals := 43 }
set_option maxHeartbeats 4000000 in
set_option maxRecDepth 100000 in
theorem jc_CaseLayoutModel_apart_41 {K : gx_K} {E : gx_E} (C : gx_C K E "CaseLayoutModel" prog_10_method_14_code 5) (hR : K.R = rm_CaseLayoutModel_apart) (hr : K.meth.sig.returnType = (some .int)) (hlk : K.meth.locks = false) (v1 : Int32) (v2 : Int32) (v3 : Int32) (w0 : Int32) (w1 : Int32) (x : gx_S) (o : Int32 × gx_S) (hf : j_CaseLayoutModel_apart_41 v1 v2 v3 w0 w1 x = some o) (hk : ∀ t, MQ K.below (gx_Qi E (gx_AB true E K.s.heap.size) o.1 o.2) K.args K.s 0 0 (gx_AB true E K.s.heap.size) t → K.Q t) : gx_G K E (gx_AB true E K.s.heap.size) 0 0 x 41 [(0, .ref (gx_ad E 29)), (1, .int v1), (2, .int v2), (3, .int v3)] [.int w0, .int w1, .ref (gx_ad E 29)] := by
  unfold j_CaseLayoutModel_apart_41 at hf
  refine gx_iconst C (v := 0) d_Mod_apart_41 (by decide) ?_
  obtain ⟨r4, x4, hc4, hf⟩ := gx_bd_some hf
  refine gx_cVi (n2 := 0) (k2 := 0) C (As := [.int w1, .int w0, .int 0]) (rest := []) 29 3 (c_CaseLayoutModel_throwing K.l w1 w0 0 x _ hc4) (Or.inl rfl) rfl (gx_goodV gw_774 gw_776 gs_17 gw_10 gw_777) (by decide +kernel) (gx_w29 E _) rfl (by rw [hR]; decide) rfl rfl (Nat.le_of_ble_eq_true rfl) d_Mod_apart_42 (by rw [hR]; decide) rfl rfl ?_
  refine gx_if_eq (tgt := 50) C d_Mod_apart_45 (by decide) (fun h5 => ?_) (fun h5 => ?_)
  · have hf := (if_pos h5).symm.trans hf
    refine gx_aload_n C 0 d_Mod_apart_50 rfl rfl ?_
    refine gx_get C iw_Mod 29 (gx_w29 E _) rfl 9 (by decide) gw_683 rfl rfl d_Mod_apart_51 ?_
    refine gx_bipush C (v := 7) d_Mod_apart_54 (by decide) ?_
    refine gx_iload_n C 1 d_Mod_apart_56 rfl rfl ?_
    refine gx_imul C d_Mod_apart_57 ?_
    refine gx_iload_n C 2 d_Mod_apart_58 rfl rfl ?_
    refine gx_iadd C d_Mod_apart_59 ?_
    obtain ⟨hi6, hf⟩ := gx_ck_some hf
    refine gx_iald C 35 0 (gx_w35 E _) rfl hi6 d_Mod_apart_60 ?_
    refine gx_istore C (lv' := [(4, .int (gx_gA x4 25 ((7 * v1) + v2 : Int32).toNatClampNeg)), (0, .ref (gx_ad E 29)), (1, .int v1), (2, .int v2), (3, .int v3)]) d_Mod_apart_61 (by decide) rfl ?_
    refine gx_aload_n C 1 d_Mod_apart_63 rfl rfl ?_
    refine gx_get C iw_Mod 29 (gx_w29 E _) rfl 9 (by decide) gw_683 rfl rfl d_Mod_apart_64 ?_
    refine gx_bipush C (v := 7) d_Mod_apart_67 (by decide) ?_
    refine gx_iload_n C 2 d_Mod_apart_69 rfl rfl ?_
    refine gx_imul C d_Mod_apart_70 ?_
    refine gx_iload_n C 3 d_Mod_apart_71 rfl rfl ?_
    refine gx_iadd C d_Mod_apart_72 ?_
    refine gx_iload_n C 4 d_Mod_apart_73 rfl rfl ?_
    obtain ⟨hi7, hf⟩ := gx_ck_some hf
    refine gx_iast C (x' := gx_sA x4 25 ((7 * v1) + v2 : Int32).toNatClampNeg v3) 35 0 (gx_w35 E _) rfl hi7 (gx_q35 E _ _ _) d_Mod_apart_74 ?_
    refine gx_aload_n C 1 d_Mod_apart_75 rfl rfl ?_
    refine gx_get C iw_Mod 29 (gx_w29 E _) rfl 9 (by decide) gw_683 rfl rfl d_Mod_apart_76 ?_
    refine gx_bipush C (v := 7) d_Mod_apart_79 (by decide) ?_
    refine gx_iload_n C 3 d_Mod_apart_81 rfl rfl ?_
    refine gx_imul C d_Mod_apart_82 ?_
    refine gx_iload_n C 2 d_Mod_apart_83 rfl rfl ?_
    refine gx_iadd C d_Mod_apart_84 ?_
    refine gx_iload_n C 4 d_Mod_apart_85 rfl rfl ?_
    obtain ⟨hi8, hf⟩ := gx_ck_some hf
    refine gx_iast C (x' := gx_sA (gx_sA x4 25 ((7 * v1) + v2 : Int32).toNatClampNeg v3) 25 ((7 * v2) + v1 : Int32).toNatClampNeg v3) 35 0 (gx_w35 E _) rfl hi8 (gx_q35 E _ _ _) d_Mod_apart_86 ?_
    refine gx_aload_n C 1 d_Mod_apart_87 rfl rfl ?_
    obtain ⟨r9, x9, hc9, hf⟩ := gx_bd_some hf
    refine gx_cVv (n2 := 0) (k2 := 0) C (As := []) (rest := []) 29 0 (c_CaseLayoutModel_forget K.l  (gx_sA (gx_sA x4 25 ((7 * v1) + v2 : Int32).toNatClampNeg v3) 25 ((7 * v2) + v1 : Int32).toNatClampNeg v3) _ hc9) (Or.inl rfl) rfl (gx_goodV gw_786 gw_788 gs_20 gw_10 gw_789) (by decide +kernel) (gx_w29 E _) rfl (by rw [hR]; decide) rfl rfl (Nat.le_of_ble_eq_true rfl) d_Mod_apart_88 (by rw [hR]; decide) rfl rfl ?_
    refine gx_iload C 0 d_Mod_apart_91 rfl ?_
    cases hf
    exact gx_iret C hr hlk hk d_Mod_apart_93
  · have hf := (if_neg h5).symm.trans hf
    refine gx_iconst C (v := 0) d_Mod_apart_48 (by decide) ?_
    cases hf
    exact gx_iret C hr hlk hk d_Mod_apart_49
set_option maxHeartbeats 4000000 in
set_option maxRecDepth 100000 in
theorem jc_CaseLayoutModel_apart_36 {K : gx_K} {E : gx_E} (C : gx_C K E "CaseLayoutModel" prog_10_method_14_code 5) (hR : K.R = rm_CaseLayoutModel_apart) (hr : K.meth.sig.returnType = (some .int)) (hlk : K.meth.locks = false) (v1 : Int32) (v2 : Int32) (v3 : Int32) (w0 : Int32) (x : gx_S) (o : Int32 × gx_S) (hf : j_CaseLayoutModel_apart_36 v1 v2 v3 w0 x = some o) (hk : ∀ t, MQ K.below (gx_Qi E (gx_AB true E K.s.heap.size) o.1 o.2) K.args K.s 0 0 (gx_AB true E K.s.heap.size) t → K.Q t) : gx_G K E (gx_AB true E K.s.heap.size) 0 0 x 36 [(0, .ref (gx_ad E 29)), (1, .int v1), (2, .int v2), (3, .int v3)] [.int w0, .ref (gx_ad E 29)] := by
  unfold j_CaseLayoutModel_apart_36 at hf
  refine gx_iconst C (v := 1) d_Mod_apart_36 (by decide) ?_
  refine gx_goto (tgt := 41) C d_Mod_apart_37 (by decide) ?_
  exact jc_CaseLayoutModel_apart_41 C hR hr hlk v1 v2 v3 1 w0 x _ hf hk
set_option maxHeartbeats 4000000 in
set_option maxRecDepth 100000 in
theorem jc_CaseLayoutModel_apart_22 {K : gx_K} {E : gx_E} (C : gx_C K E "CaseLayoutModel" prog_10_method_14_code 5) (hR : K.R = rm_CaseLayoutModel_apart) (hr : K.meth.sig.returnType = (some .int)) (hlk : K.meth.locks = false) (v1 : Int32) (v2 : Int32) (v3 : Int32) (w0 : Int32) (x : gx_S) (o : Int32 × gx_S) (hf : j_CaseLayoutModel_apart_22 v1 v2 v3 w0 x = some o) (hk : ∀ t, MQ K.below (gx_Qi E (gx_AB true E K.s.heap.size) o.1 o.2) K.args K.s 0 0 (gx_AB true E K.s.heap.size) t → K.Q t) : gx_G K E (gx_AB true E K.s.heap.size) 0 0 x 22 [(0, .ref (gx_ad E 29)), (1, .int v1), (2, .int v2), (3, .int v3)] [.int w0, .ref (gx_ad E 29)] := by
  unfold j_CaseLayoutModel_apart_22 at hf
  refine gx_iload_n C 1 d_Mod_apart_22 rfl rfl ?_
  refine gx_iload_n C 2 d_Mod_apart_23 rfl rfl ?_
  refine gx_icmp_eq (tgt := 36) C d_Mod_apart_24 (by decide) (fun h3 => ?_) (fun h3 => ?_)
  · have hf := (if_pos h3).symm.trans hf
    exact jc_CaseLayoutModel_apart_36 C hR hr hlk v1 v2 v3 w0 x _ hf hk
  · have hf := (if_neg h3).symm.trans hf
    refine gx_iload_n C 3 d_Mod_apart_27 rfl rfl ?_
    refine gx_iconst C (v := 0) d_Mod_apart_28 (by decide) ?_
    refine gx_iconst C (v := 5) d_Mod_apart_29 (by decide) ?_
    obtain ⟨r10, x10, hc10, hf⟩ := gx_bd_some hf
    refine gx_cSi (n2 := 0) (k2 := 0) C (As := [.int v3, .int 0, .int 5]) (rest := [.int w0, .ref (gx_ad E 29)]) 3 (c_CaseLayoutModel_in K.l v3 0 5 x _ hc10) (Or.inl rfl) rfl (gx_goodS gw_771 gw_772 gw_10 gw_773) (by decide +kernel) (by rw [hR]; decide) rfl rfl (Nat.le_of_ble_eq_true rfl) d_Mod_apart_30 (by rw [hR]; decide) rfl rfl ?_
    refine gx_if_ne (tgt := 40) C d_Mod_apart_33 (by decide) (fun h11 => ?_) (fun h11 => ?_)
    · have hf := (if_neg h11).symm.trans hf
      refine gx_iconst C (v := 0) d_Mod_apart_40 (by decide) ?_
      exact jc_CaseLayoutModel_apart_41 C hR hr hlk v1 v2 v3 0 w0 x10 _ hf hk
    · have hf := (if_pos h11).symm.trans hf
      exact jc_CaseLayoutModel_apart_36 C hR hr hlk v1 v2 v3 w0 x10 _ hf hk
set_option maxHeartbeats 4000000 in
set_option maxRecDepth 100000 in
theorem jc_CaseLayoutModel_apart_17 {K : gx_K} {E : gx_E} (C : gx_C K E "CaseLayoutModel" prog_10_method_14_code 5) (hR : K.R = rm_CaseLayoutModel_apart) (hr : K.meth.sig.returnType = (some .int)) (hlk : K.meth.locks = false) (v1 : Int32) (v2 : Int32) (v3 : Int32) (x : gx_S) (o : Int32 × gx_S) (hf : j_CaseLayoutModel_apart_17 v1 v2 v3 x = some o) (hk : ∀ t, MQ K.below (gx_Qi E (gx_AB true E K.s.heap.size) o.1 o.2) K.args K.s 0 0 (gx_AB true E K.s.heap.size) t → K.Q t) : gx_G K E (gx_AB true E K.s.heap.size) 0 0 x 17 [(0, .ref (gx_ad E 29)), (1, .int v1), (2, .int v2), (3, .int v3)] [.ref (gx_ad E 29)] := by
  unfold j_CaseLayoutModel_apart_17 at hf
  refine gx_iconst C (v := 1) d_Mod_apart_17 (by decide) ?_
  refine gx_goto (tgt := 22) C d_Mod_apart_18 (by decide) ?_
  exact jc_CaseLayoutModel_apart_22 C hR hr hlk v1 v2 v3 1 x _ hf hk
set_option maxHeartbeats 4000000 in
set_option maxRecDepth 100000 in
theorem c_CaseLayoutModel_apart (l : Launch) (a1 : Int32) (a2 : Int32) (a3 : Int32) (x : gx_S) (o : Int32 × gx_S) (hf : f_CaseLayoutModel_apart a1 a2 a3 x = some o) : gx_Mi true l y_Mod_apart prog_10_method_14_code 5 (some .int) rm_CaseLayoutModel_apart (fun E => [.ref (gx_ad E 29), .int a1, .int a2, .int a3]) x o.1 o.2 := by
  refine gx_meti (own := "CaseLayoutModel") (by decide) rfl (fun E => Nat.le_of_ble_eq_true rfl) (fun K E hl0 hR hr hlk hk C => ?_)
  subst hl0
  unfold f_CaseLayoutModel_apart at hf
  show gx_G K E _ 0 0 x 0 [(0, .ref (gx_ad E 29)), (1, .int a1), (2, .int a2), (3, .int a3)] []
  refine gx_aload_n C 0 d_Mod_apart_0 rfl rfl ?_
  refine gx_aload_n C 0 d_Mod_apart_1 rfl rfl ?_
  refine gx_iload_n C 1 d_Mod_apart_2 rfl rfl ?_
  obtain ⟨r1, x1, hc1, hf⟩ := gx_bd_some hf
  refine gx_cVi (n2 := 0) (k2 := 0) C (As := [.int a1]) (rest := [.ref (gx_ad E 29)]) 29 1 (c_CaseLayoutModel_isThing K.l a1 x _ hc1) (Or.inl rfl) rfl (gx_goodV gw_802 gw_804 gs_21 gw_10 gw_805) (by decide +kernel) (gx_w29 E _) rfl (by rw [hR]; decide) rfl rfl (Nat.le_of_ble_eq_true rfl) d_Mod_apart_3 (by rw [hR]; decide) rfl rfl ?_
  refine gx_if_eq (tgt := 17) C d_Mod_apart_6 (by decide) (fun h2 => ?_) (fun h2 => ?_)
  · have hf := (if_pos h2).symm.trans hf
    exact jc_CaseLayoutModel_apart_17 C hR hr hlk a1 a2 a3  x1 _ hf hk
  · have hf := (if_neg h2).symm.trans hf
    refine gx_aload_n C 0 d_Mod_apart_9 rfl rfl ?_
    refine gx_iload_n C 2 d_Mod_apart_10 rfl rfl ?_
    obtain ⟨r12, x12, hc12, hf⟩ := gx_bd_some hf
    refine gx_cVi (n2 := 0) (k2 := 0) C (As := [.int a2]) (rest := [.ref (gx_ad E 29)]) 29 1 (c_CaseLayoutModel_isThing K.l a2 x1 _ hc12) (Or.inl rfl) rfl (gx_goodV gw_802 gw_804 gs_21 gw_10 gw_805) (by decide +kernel) (gx_w29 E _) rfl (by rw [hR]; decide) rfl rfl (Nat.le_of_ble_eq_true rfl) d_Mod_apart_11 (by rw [hR]; decide) rfl rfl ?_
    refine gx_if_ne (tgt := 21) C d_Mod_apart_14 (by decide) (fun h13 => ?_) (fun h13 => ?_)
    · have hf := (if_neg h13).symm.trans hf
      refine gx_iconst C (v := 0) d_Mod_apart_21 (by decide) ?_
      exact jc_CaseLayoutModel_apart_22 C hR hr hlk a1 a2 a3 0 x12 _ hf hk
    · have hf := (if_pos h13).symm.trans hf
      exact jc_CaseLayoutModel_apart_17 C hR hr hlk a1 a2 a3  x12 _ hf hk

def j_CaseLayoutModel_wish_42 (v1 : Int32) (v2 : Int32) (v3 : Int32) (w0 : Int32) (w1 : Int32) (x : gx_S) : Option (Int32 × gx_S) :=
  gx_bd (f_CaseLayoutModel_throwing w1 w0 0 x) (fun r4 x4 => if r4 = 0 then (gx_ck ((7 * v1) + v2) 49 (gx_ck ((7 * v1) + v2) 49 (gx_ck ((7 * v2) + v1) 49 (gx_bd (f_CaseLayoutModel_forget  (gx_sA (gx_sA x4 26 ((7 * v1) + v2 : Int32).toNatClampNeg v3) 26 ((7 * v2) + v1 : Int32).toNatClampNeg v3)) (fun r9 x9 => some (gx_gA x4 26 ((7 * v1) + v2 : Int32).toNatClampNeg, x9)))))) else (some (0, x4)))
def j_CaseLayoutModel_wish_37 (v1 : Int32) (v2 : Int32) (v3 : Int32) (w0 : Int32) (x : gx_S) : Option (Int32 × gx_S) :=
  j_CaseLayoutModel_wish_42 v1 v2 v3 1 w0 x
def j_CaseLayoutModel_wish_22 (v1 : Int32) (v2 : Int32) (v3 : Int32) (w0 : Int32) (x : gx_S) : Option (Int32 × gx_S) :=
  if v1 = v2 then (j_CaseLayoutModel_wish_37 v1 v2 v3 w0 x) else (gx_bd (f_CaseLayoutModel_in v3 0 99 x) (fun r10 x10 => if r10 = 0 then (j_CaseLayoutModel_wish_37 v1 v2 v3 w0 x10) else (j_CaseLayoutModel_wish_42 v1 v2 v3 0 w0 x10)))
def j_CaseLayoutModel_wish_17 (v1 : Int32) (v2 : Int32) (v3 : Int32) (x : gx_S) : Option (Int32 × gx_S) :=
  j_CaseLayoutModel_wish_22 v1 v2 v3 1 x
def f_CaseLayoutModel_wish (a1 : Int32) (a2 : Int32) (a3 : Int32) (x : gx_S) : Option (Int32 × gx_S) :=
  gx_bd (f_CaseLayoutModel_isThing a1 x) (fun r1 x1 => if r1 = 0 then (j_CaseLayoutModel_wish_17 a1 a2 a3  x1) else (gx_bd (f_CaseLayoutModel_isThing a2 x1) (fun r12 x12 => if r12 = 0 then (j_CaseLayoutModel_wish_17 a1 a2 a3  x12) else (j_CaseLayoutModel_wish_22 a1 a2 a3 0 x12))))
abbrev rm_CaseLayoutModel_wish : Room := { frames := 2, cells := 0, slots := 0, locals := 43 }
set_option maxHeartbeats 4000000 in
set_option maxRecDepth 100000 in
theorem jc_CaseLayoutModel_wish_42 {K : gx_K} {E : gx_E} (C : gx_C K E "CaseLayoutModel" prog_10_method_15_code 5) (hR : K.R = rm_CaseLayoutModel_wish) (hr : K.meth.sig.returnType = (some .int)) (hlk : K.meth.locks = false) (v1 : Int32) (v2 : Int32) (v3 : Int32) (w0 : Int32) (w1 : Int32) (x : gx_S) (o : Int32 × gx_S) (hf : j_CaseLayoutModel_wish_42 v1 v2 v3 w0 w1 x = some o) (hk : ∀ t, MQ K.below (gx_Qi E (gx_AB true E K.s.heap.size) o.1 o.2) K.args K.s 0 0 (gx_AB true E K.s.heap.size) t → K.Q t) : gx_G K E (gx_AB true E K.s.heap.size) 0 0 x 42 [(0, .ref (gx_ad E 29)), (1, .int v1), (2, .int v2), (3, .int v3)] [.int w0, .int w1, .ref (gx_ad E 29)] := by
  unfold j_CaseLayoutModel_wish_42 at hf
  refine gx_iconst C (v := 0) d_Mod_wish_42 (by decide) ?_
  obtain ⟨r4, x4, hc4, hf⟩ := gx_bd_some hf
  refine gx_cVi (n2 := 0) (k2 := 0) C (As := [.int w1, .int w0, .int 0]) (rest := []) 29 3 (c_CaseLayoutModel_throwing K.l w1 w0 0 x _ hc4) (Or.inl rfl) rfl (gx_goodV gw_774 gw_776 gs_17 gw_10 gw_777) (by decide +kernel) (gx_w29 E _) rfl (by rw [hR]; decide) rfl rfl (Nat.le_of_ble_eq_true rfl) d_Mod_wish_43 (by rw [hR]; decide) rfl rfl ?_
  refine gx_if_eq (tgt := 51) C d_Mod_wish_46 (by decide) (fun h5 => ?_) (fun h5 => ?_)
  · have hf := (if_pos h5).symm.trans hf
    refine gx_aload_n C 0 d_Mod_wish_51 rfl rfl ?_
    refine gx_get C iw_Mod 29 (gx_w29 E _) rfl 10 (by decide) gw_684 rfl rfl d_Mod_wish_52 ?_
    refine gx_bipush C (v := 7) d_Mod_wish_55 (by decide) ?_
    refine gx_iload_n C 1 d_Mod_wish_57 rfl rfl ?_
    refine gx_imul C d_Mod_wish_58 ?_
    refine gx_iload_n C 2 d_Mod_wish_59 rfl rfl ?_
    refine gx_iadd C d_Mod_wish_60 ?_
    obtain ⟨hi6, hf⟩ := gx_ck_some hf
    refine gx_iald C 36 0 (gx_w36 E _) rfl hi6 d_Mod_wish_61 ?_
    refine gx_istore C (lv' := [(4, .int (gx_gA x4 26 ((7 * v1) + v2 : Int32).toNatClampNeg)), (0, .ref (gx_ad E 29)), (1, .int v1), (2, .int v2), (3, .int v3)]) d_Mod_wish_62 (by decide) rfl ?_
    refine gx_aload_n C 1 d_Mod_wish_64 rfl rfl ?_
    refine gx_get C iw_Mod 29 (gx_w29 E _) rfl 10 (by decide) gw_684 rfl rfl d_Mod_wish_65 ?_
    refine gx_bipush C (v := 7) d_Mod_wish_68 (by decide) ?_
    refine gx_iload_n C 2 d_Mod_wish_70 rfl rfl ?_
    refine gx_imul C d_Mod_wish_71 ?_
    refine gx_iload_n C 3 d_Mod_wish_72 rfl rfl ?_
    refine gx_iadd C d_Mod_wish_73 ?_
    refine gx_iload_n C 4 d_Mod_wish_74 rfl rfl ?_
    obtain ⟨hi7, hf⟩ := gx_ck_some hf
    refine gx_iast C (x' := gx_sA x4 26 ((7 * v1) + v2 : Int32).toNatClampNeg v3) 36 0 (gx_w36 E _) rfl hi7 (gx_q36 E _ _ _) d_Mod_wish_75 ?_
    refine gx_aload_n C 1 d_Mod_wish_76 rfl rfl ?_
    refine gx_get C iw_Mod 29 (gx_w29 E _) rfl 10 (by decide) gw_684 rfl rfl d_Mod_wish_77 ?_
    refine gx_bipush C (v := 7) d_Mod_wish_80 (by decide) ?_
    refine gx_iload_n C 3 d_Mod_wish_82 rfl rfl ?_
    refine gx_imul C d_Mod_wish_83 ?_
    refine gx_iload_n C 2 d_Mod_wish_84 rfl rfl ?_
    refine gx_iadd C d_Mod_wish_85 ?_
    refine gx_iload_n C 4 d_Mod_wish_86 rfl rfl ?_
    obtain ⟨hi8, hf⟩ := gx_ck_some hf
    refine gx_iast C (x' := gx_sA (gx_sA x4 26 ((7 * v1) + v2 : Int32).toNatClampNeg v3) 26 ((7 * v2) + v1 : Int32).toNatClampNeg v3) 36 0 (gx_w36 E _) rfl hi8 (gx_q36 E _ _ _) d_Mod_wish_87 ?_
    refine gx_aload_n C 1 d_Mod_wish_88 rfl rfl ?_
    obtain ⟨r9, x9, hc9, hf⟩ := gx_bd_some hf
    refine gx_cVv (n2 := 0) (k2 := 0) C (As := []) (rest := []) 29 0 (c_CaseLayoutModel_forget K.l  (gx_sA (gx_sA x4 26 ((7 * v1) + v2 : Int32).toNatClampNeg v3) 26 ((7 * v2) + v1 : Int32).toNatClampNeg v3) _ hc9) (Or.inl rfl) rfl (gx_goodV gw_786 gw_788 gs_20 gw_10 gw_789) (by decide +kernel) (gx_w29 E _) rfl (by rw [hR]; decide) rfl rfl (Nat.le_of_ble_eq_true rfl) d_Mod_wish_89 (by rw [hR]; decide) rfl rfl ?_
    refine gx_iload C 0 d_Mod_wish_92 rfl ?_
    cases hf
    exact gx_iret C hr hlk hk d_Mod_wish_94
  · have hf := (if_neg h5).symm.trans hf
    refine gx_iconst C (v := 0) d_Mod_wish_49 (by decide) ?_
    cases hf
    exact gx_iret C hr hlk hk d_Mod_wish_50
set_option maxHeartbeats 4000000 in
set_option maxRecDepth 100000 in
theorem jc_CaseLayoutModel_wish_37 {K : gx_K} {E : gx_E} (C : gx_C K E "CaseLayoutModel" prog_10_method_15_code 5) (hR : K.R = rm_CaseLayoutModel_wish) (hr : K.meth.sig.returnType = (some .int)) (hlk : K.meth.locks = false) (v1 : Int32) (v2 : Int32) (v3 : Int32) (w0 : Int32) (x : gx_S) (o : Int32 × gx_S) (hf : j_CaseLayoutModel_wish_37 v1 v2 v3 w0 x = some o) (hk : ∀ t, MQ K.below (gx_Qi E (gx_AB true E K.s.heap.size) o.1 o.2) K.args K.s 0 0 (gx_AB true E K.s.heap.size) t → K.Q t) : gx_G K E (gx_AB true E K.s.heap.size) 0 0 x 37 [(0, .ref (gx_ad E 29)), (1, .int v1), (2, .int v2), (3, .int v3)] [.int w0, .ref (gx_ad E 29)] := by
  unfold j_CaseLayoutModel_wish_37 at hf
  refine gx_iconst C (v := 1) d_Mod_wish_37 (by decide) ?_
  refine gx_goto (tgt := 42) C d_Mod_wish_38 (by decide) ?_
  exact jc_CaseLayoutModel_wish_42 C hR hr hlk v1 v2 v3 1 w0 x _ hf hk
set_option maxHeartbeats 4000000 in
set_option maxRecDepth 100000 in
theorem jc_CaseLayoutModel_wish_22 {K : gx_K} {E : gx_E} (C : gx_C K E "CaseLayoutModel" prog_10_method_15_code 5) (hR : K.R = rm_CaseLayoutModel_wish) (hr : K.meth.sig.returnType = (some .int)) (hlk : K.meth.locks = false) (v1 : Int32) (v2 : Int32) (v3 : Int32) (w0 : Int32) (x : gx_S) (o : Int32 × gx_S) (hf : j_CaseLayoutModel_wish_22 v1 v2 v3 w0 x = some o) (hk : ∀ t, MQ K.below (gx_Qi E (gx_AB true E K.s.heap.size) o.1 o.2) K.args K.s 0 0 (gx_AB true E K.s.heap.size) t → K.Q t) : gx_G K E (gx_AB true E K.s.heap.size) 0 0 x 22 [(0, .ref (gx_ad E 29)), (1, .int v1), (2, .int v2), (3, .int v3)] [.int w0, .ref (gx_ad E 29)] := by
  unfold j_CaseLayoutModel_wish_22 at hf
  refine gx_iload_n C 1 d_Mod_wish_22 rfl rfl ?_
  refine gx_iload_n C 2 d_Mod_wish_23 rfl rfl ?_
  refine gx_icmp_eq (tgt := 37) C d_Mod_wish_24 (by decide) (fun h3 => ?_) (fun h3 => ?_)
  · have hf := (if_pos h3).symm.trans hf
    exact jc_CaseLayoutModel_wish_37 C hR hr hlk v1 v2 v3 w0 x _ hf hk
  · have hf := (if_neg h3).symm.trans hf
    refine gx_iload_n C 3 d_Mod_wish_27 rfl rfl ?_
    refine gx_iconst C (v := 0) d_Mod_wish_28 (by decide) ?_
    refine gx_bipush C (v := 99) d_Mod_wish_29 (by decide) ?_
    obtain ⟨r10, x10, hc10, hf⟩ := gx_bd_some hf
    refine gx_cSi (n2 := 0) (k2 := 0) C (As := [.int v3, .int 0, .int 99]) (rest := [.int w0, .ref (gx_ad E 29)]) 3 (c_CaseLayoutModel_in K.l v3 0 99 x _ hc10) (Or.inl rfl) rfl (gx_goodS gw_771 gw_772 gw_10 gw_773) (by decide +kernel) (by rw [hR]; decide) rfl rfl (Nat.le_of_ble_eq_true rfl) d_Mod_wish_31 (by rw [hR]; decide) rfl rfl ?_
    refine gx_if_ne (tgt := 41) C d_Mod_wish_34 (by decide) (fun h11 => ?_) (fun h11 => ?_)
    · have hf := (if_neg h11).symm.trans hf
      refine gx_iconst C (v := 0) d_Mod_wish_41 (by decide) ?_
      exact jc_CaseLayoutModel_wish_42 C hR hr hlk v1 v2 v3 0 w0 x10 _ hf hk
    · have hf := (if_pos h11).symm.trans hf
      exact jc_CaseLayoutModel_wish_37 C hR hr hlk v1 v2 v3 w0 x10 _ hf hk
set_option maxHeartbeats 4000000 in
set_option maxRecDepth 100000 in
theorem jc_CaseLayoutModel_wish_17 {K : gx_K} {E : gx_E} (C : gx_C K E "CaseLayoutModel" prog_10_method_15_code 5) (hR : K.R = rm_CaseLayoutModel_wish) (hr : K.meth.sig.returnType = (some .int)) (hlk : K.meth.locks = false) (v1 : Int32) (v2 : Int32) (v3 : Int32) (x : gx_S) (o : Int32 × gx_S) (hf : j_CaseLayoutModel_wish_17 v1 v2 v3 x = some o) (hk : ∀ t, MQ K.below (gx_Qi E (gx_AB true E K.s.heap.size) o.1 o.2) K.args K.s 0 0 (gx_AB true E K.s.heap.size) t → K.Q t) : gx_G K E (gx_AB true E K.s.heap.size) 0 0 x 17 [(0, .ref (gx_ad E 29)), (1, .int v1), (2, .int v2), (3, .int v3)] [.ref (gx_ad E 29)] := by
  unfold j_CaseLayoutModel_wish_17 at hf
  refine gx_iconst C (v := 1) d_Mod_wish_17 (by decide) ?_
  refine gx_goto (tgt := 22) C d_Mod_wish_18 (by decide) ?_
  exact jc_CaseLayoutModel_wish_22 C hR hr hlk v1 v2 v3 1 x _ hf hk
set_option maxHeartbeats 4000000 in
set_option maxRecDepth 100000 in
theorem c_CaseLayoutModel_wish (l : Launch) (a1 : Int32) (a2 : Int32) (a3 : Int32) (x : gx_S) (o : Int32 × gx_S) (hf : f_CaseLayoutModel_wish a1 a2 a3 x = some o) : gx_Mi true l y_Mod_wish prog_10_method_15_code 5 (some .int) rm_CaseLayoutModel_wish (fun E => [.ref (gx_ad E 29), .int a1, .int a2, .int a3]) x o.1 o.2 := by
  refine gx_meti (own := "CaseLayoutModel") (by decide) rfl (fun E => Nat.le_of_ble_eq_true rfl) (fun K E hl0 hR hr hlk hk C => ?_)
  subst hl0
  unfold f_CaseLayoutModel_wish at hf
  show gx_G K E _ 0 0 x 0 [(0, .ref (gx_ad E 29)), (1, .int a1), (2, .int a2), (3, .int a3)] []
  refine gx_aload_n C 0 d_Mod_wish_0 rfl rfl ?_
  refine gx_aload_n C 0 d_Mod_wish_1 rfl rfl ?_
  refine gx_iload_n C 1 d_Mod_wish_2 rfl rfl ?_
  obtain ⟨r1, x1, hc1, hf⟩ := gx_bd_some hf
  refine gx_cVi (n2 := 0) (k2 := 0) C (As := [.int a1]) (rest := [.ref (gx_ad E 29)]) 29 1 (c_CaseLayoutModel_isThing K.l a1 x _ hc1) (Or.inl rfl) rfl (gx_goodV gw_802 gw_804 gs_21 gw_10 gw_805) (by decide +kernel) (gx_w29 E _) rfl (by rw [hR]; decide) rfl rfl (Nat.le_of_ble_eq_true rfl) d_Mod_wish_3 (by rw [hR]; decide) rfl rfl ?_
  refine gx_if_eq (tgt := 17) C d_Mod_wish_6 (by decide) (fun h2 => ?_) (fun h2 => ?_)
  · have hf := (if_pos h2).symm.trans hf
    exact jc_CaseLayoutModel_wish_17 C hR hr hlk a1 a2 a3  x1 _ hf hk
  · have hf := (if_neg h2).symm.trans hf
    refine gx_aload_n C 0 d_Mod_wish_9 rfl rfl ?_
    refine gx_iload_n C 2 d_Mod_wish_10 rfl rfl ?_
    obtain ⟨r12, x12, hc12, hf⟩ := gx_bd_some hf
    refine gx_cVi (n2 := 0) (k2 := 0) C (As := [.int a2]) (rest := [.ref (gx_ad E 29)]) 29 1 (c_CaseLayoutModel_isThing K.l a2 x1 _ hc12) (Or.inl rfl) rfl (gx_goodV gw_802 gw_804 gs_21 gw_10 gw_805) (by decide +kernel) (gx_w29 E _) rfl (by rw [hR]; decide) rfl rfl (Nat.le_of_ble_eq_true rfl) d_Mod_wish_11 (by rw [hR]; decide) rfl rfl ?_
    refine gx_if_ne (tgt := 21) C d_Mod_wish_14 (by decide) (fun h13 => ?_) (fun h13 => ?_)
    · have hf := (if_neg h13).symm.trans hf
      refine gx_iconst C (v := 0) d_Mod_wish_21 (by decide) ?_
      exact jc_CaseLayoutModel_wish_22 C hR hr hlk a1 a2 a3 0 x12 _ hf hk
    · have hf := (if_pos h13).symm.trans hf
      exact jc_CaseLayoutModel_wish_17 C hR hr hlk a1 a2 a3  x12 _ hf hk

def j_CaseLayoutModel_place_54 (v1 : Int32) (v2 : Int32) (w0 : Int32) (w1 : Int32) (w2 : Int32) (x : gx_S) : Option (Int32 × gx_S) :=
  gx_bd (f_CaseLayoutModel_throwing w2 w1 w0 x) (fun r5 x5 => if r5 = 0 then (gx_ck (gx_gI x5 15) 8 (gx_ck (gx_gI (gx_sA x5 27 (gx_gI x5 15 : Int32).toNatClampNeg v1) 15) 8 (some ((gx_gI (gx_sI (gx_sA (gx_sA x5 27 (gx_gI x5 15 : Int32).toNatClampNeg v1) 28 (gx_gI (gx_sA x5 27 (gx_gI x5 15 : Int32).toNatClampNeg v1) 15 : Int32).toNatClampNeg v2) 15 ((gx_gI (gx_sA (gx_sA x5 27 (gx_gI x5 15 : Int32).toNatClampNeg v1) 28 (gx_gI (gx_sA x5 27 (gx_gI x5 15 : Int32).toNatClampNeg v1) 15 : Int32).toNatClampNeg v2) 15) + 1)) 15) - 1, gx_sI (gx_sA (gx_sA x5 27 (gx_gI x5 15 : Int32).toNatClampNeg v1) 28 (gx_gI (gx_sA x5 27 (gx_gI x5 15 : Int32).toNatClampNeg v1) 15 : Int32).toNatClampNeg v2) 15 ((gx_gI (gx_sA (gx_sA x5 27 (gx_gI x5 15 : Int32).toNatClampNeg v1) 28 (gx_gI (gx_sA x5 27 (gx_gI x5 15 : Int32).toNatClampNeg v1) 15 : Int32).toNatClampNeg v2) 15) + 1))))) else (some (0, x5)))
def j_CaseLayoutModel_place_53 (v1 : Int32) (v2 : Int32) (w0 : Int32) (w1 : Int32) (x : gx_S) : Option (Int32 × gx_S) :=
  j_CaseLayoutModel_place_54 v1 v2 0 w0 w1 x
def j_CaseLayoutModel_place_31 (v1 : Int32) (v2 : Int32) (v3 : Int32) (w0 : Int32) (w1 : Int32) (x : gx_S) : Option (Int32 × gx_S) :=
  if v3 = 0 then (gx_ck ((9 * v2) + v1) 81 (if (gx_gA x 20 ((9 * v2) + v1 : Int32).toNatClampNeg) = 0 then (j_CaseLayoutModel_place_53 v1 v2 w0 w1 x) else (j_CaseLayoutModel_place_54 v1 v2 1 w0 w1 x))) else (j_CaseLayoutModel_place_53 v1 v2 w0 w1 x)
def j_CaseLayoutModel_place_14 (v1 : Int32) (v2 : Int32) (w0 : Int32) (x : gx_S) : Option (Int32 × gx_S) :=
  if (gx_gI x 15) = 8 then (j_CaseLayoutModel_place_31 v1 v2 w0 1 w0 x) else (j_CaseLayoutModel_place_31 v1 v2 w0 0 w0 x)
def f_CaseLayoutModel_place (a1 : Int32) (a2 : Int32) (x : gx_S) : Option (Int32 × gx_S) :=
  gx_bd (f_CaseLayoutModel_isCell a1 a2 x) (fun r1 x1 => if r1 = 0 then (j_CaseLayoutModel_place_14 a1 a2 1 x1) else (j_CaseLayoutModel_place_14 a1 a2 0 x1))
abbrev rm_CaseLayoutModel_place : Room := { frames := 2, cells := 0, slots := 0, locals := 44 }
set_option maxHeartbeats 4000000 in
set_option maxRecDepth 100000 in
theorem jc_CaseLayoutModel_place_54 {K : gx_K} {E : gx_E} (C : gx_C K E "CaseLayoutModel" prog_10_method_16_code 4) (hR : K.R = rm_CaseLayoutModel_place) (hr : K.meth.sig.returnType = (some .int)) (hlk : K.meth.locks = false) (v1 : Int32) (v2 : Int32) (w0 : Int32) (w1 : Int32) (w2 : Int32) (x : gx_S) (o : Int32 × gx_S) (hf : j_CaseLayoutModel_place_54 v1 v2 w0 w1 w2 x = some o) (hk : ∀ t, MQ K.below (gx_Qi E (gx_AB true E K.s.heap.size) o.1 o.2) K.args K.s 0 0 (gx_AB true E K.s.heap.size) t → K.Q t) : gx_G K E (gx_AB true E K.s.heap.size) 0 0 x 54 [(0, .ref (gx_ad E 29)), (1, .int v1), (2, .int v2)] [.int w0, .int w1, .int w2, .ref (gx_ad E 29)] := by
  unfold j_CaseLayoutModel_place_54 at hf
  obtain ⟨r5, x5, hc5, hf⟩ := gx_bd_some hf
  refine gx_cVi (n2 := 0) (k2 := 0) C (As := [.int w2, .int w1, .int w0]) (rest := []) 29 3 (c_CaseLayoutModel_throwing K.l w2 w1 w0 x _ hc5) (Or.inl rfl) rfl (gx_goodV gw_774 gw_776 gs_17 gw_10 gw_777) (by decide +kernel) (gx_w29 E _) rfl (by rw [hR]; decide) rfl rfl (Nat.le_of_ble_eq_true rfl) d_Mod_place_54 (by rw [hR]; decide) rfl rfl ?_
  refine gx_if_eq (tgt := 62) C d_Mod_place_57 (by decide) (fun h6 => ?_) (fun h6 => ?_)
  · have hf := (if_pos h6).symm.trans hf
    refine gx_aload_n C 0 d_Mod_place_62 rfl rfl ?_
    refine gx_get C iw_Mod 29 (gx_w29 E _) rfl 12 (by decide) gw_686 rfl rfl d_Mod_place_63 ?_
    refine gx_aload_n C 0 d_Mod_place_66 rfl rfl ?_
    refine gx_get C iw_Mod 29 (gx_w29 E _) rfl 11 (by decide) gw_685 rfl rfl d_Mod_place_67 ?_
    refine gx_iload_n C 1 d_Mod_place_70 rfl rfl ?_
    obtain ⟨hi7, hf⟩ := gx_ck_some hf
    refine gx_iast C (x' := gx_sA x5 27 (gx_gI x5 15 : Int32).toNatClampNeg v1) 37 0 (gx_w37 E _) rfl hi7 (gx_q37 E _ _ _) d_Mod_place_71 ?_
    refine gx_aload_n C 0 d_Mod_place_72 rfl rfl ?_
    refine gx_get C iw_Mod 29 (gx_w29 E _) rfl 13 (by decide) gw_687 rfl rfl d_Mod_place_73 ?_
    refine gx_aload_n C 0 d_Mod_place_76 rfl rfl ?_
    refine gx_get C iw_Mod 29 (gx_w29 E _) rfl 11 (by decide) gw_685 rfl rfl d_Mod_place_77 ?_
    refine gx_iload_n C 2 d_Mod_place_80 rfl rfl ?_
    obtain ⟨hi8, hf⟩ := gx_ck_some hf
    refine gx_iast C (x' := gx_sA (gx_sA x5 27 (gx_gI x5 15 : Int32).toNatClampNeg v1) 28 (gx_gI (gx_sA x5 27 (gx_gI x5 15 : Int32).toNatClampNeg v1) 15 : Int32).toNatClampNeg v2) 38 0 (gx_w38 E _) rfl hi8 (gx_q38 E _ _ _) d_Mod_place_81 ?_
    refine gx_aload_n C 0 d_Mod_place_82 rfl rfl ?_
    refine gx_dup C d_Mod_place_83 rfl ?_
    refine gx_get C iw_Mod 29 (gx_w29 E _) rfl 11 (by decide) gw_685 rfl rfl d_Mod_place_84 ?_
    refine gx_iconst C (v := 1) d_Mod_place_87 (by decide) ?_
    refine gx_iadd C d_Mod_place_88 ?_
    refine gx_put C (ty := .int) (x' := gx_sI (gx_sA (gx_sA x5 27 (gx_gI x5 15 : Int32).toNatClampNeg v1) 28 (gx_gI (gx_sA x5 27 (gx_gI x5 15 : Int32).toNatClampNeg v1) 15 : Int32).toNatClampNeg v2) 15 ((gx_gI (gx_sA (gx_sA x5 27 (gx_gI x5 15 : Int32).toNatClampNeg v1) 28 (gx_gI (gx_sA x5 27 (gx_gI x5 15 : Int32).toNatClampNeg v1) 15 : Int32).toNatClampNeg v2) 15) + 1)) iw_Mod ty_Mod tk_Mod tn_Mod 29 (gx_w29 E _) rfl 11 (by decide) gw_685 rfl rfl (by decide +kernel) rfl rfl (Nat.le_of_ble_eq_true rfl) (gx_p29_11 E _ _) d_Mod_place_89 ?_
    refine gx_aload_n C 0 d_Mod_place_92 rfl rfl ?_
    refine gx_get C iw_Mod 29 (gx_w29 E _) rfl 11 (by decide) gw_685 rfl rfl d_Mod_place_93 ?_
    refine gx_iconst C (v := 1) d_Mod_place_96 (by decide) ?_
    refine gx_isub C d_Mod_place_97 ?_
    cases hf
    exact gx_iret C hr hlk hk d_Mod_place_98
  · have hf := (if_neg h6).symm.trans hf
    refine gx_iconst C (v := 0) d_Mod_place_60 (by decide) ?_
    cases hf
    exact gx_iret C hr hlk hk d_Mod_place_61
set_option maxHeartbeats 4000000 in
set_option maxRecDepth 100000 in
theorem jc_CaseLayoutModel_place_53 {K : gx_K} {E : gx_E} (C : gx_C K E "CaseLayoutModel" prog_10_method_16_code 4) (hR : K.R = rm_CaseLayoutModel_place) (hr : K.meth.sig.returnType = (some .int)) (hlk : K.meth.locks = false) (v1 : Int32) (v2 : Int32) (w0 : Int32) (w1 : Int32) (x : gx_S) (o : Int32 × gx_S) (hf : j_CaseLayoutModel_place_53 v1 v2 w0 w1 x = some o) (hk : ∀ t, MQ K.below (gx_Qi E (gx_AB true E K.s.heap.size) o.1 o.2) K.args K.s 0 0 (gx_AB true E K.s.heap.size) t → K.Q t) : gx_G K E (gx_AB true E K.s.heap.size) 0 0 x 53 [(0, .ref (gx_ad E 29)), (1, .int v1), (2, .int v2)] [.int w0, .int w1, .ref (gx_ad E 29)] := by
  unfold j_CaseLayoutModel_place_53 at hf
  refine gx_iconst C (v := 0) d_Mod_place_53 (by decide) ?_
  exact jc_CaseLayoutModel_place_54 C hR hr hlk v1 v2 0 w0 w1 x _ hf hk
set_option maxHeartbeats 4000000 in
set_option maxRecDepth 100000 in
theorem jc_CaseLayoutModel_place_31 {K : gx_K} {E : gx_E} (C : gx_C K E "CaseLayoutModel" prog_10_method_16_code 4) (hR : K.R = rm_CaseLayoutModel_place) (hr : K.meth.sig.returnType = (some .int)) (hlk : K.meth.locks = false) (v1 : Int32) (v2 : Int32) (v3 : Int32) (w0 : Int32) (w1 : Int32) (x : gx_S) (o : Int32 × gx_S) (hf : j_CaseLayoutModel_place_31 v1 v2 v3 w0 w1 x = some o) (hk : ∀ t, MQ K.below (gx_Qi E (gx_AB true E K.s.heap.size) o.1 o.2) K.args K.s 0 0 (gx_AB true E K.s.heap.size) t → K.Q t) : gx_G K E (gx_AB true E K.s.heap.size) 0 0 x 31 [(0, .ref (gx_ad E 29)), (1, .int v1), (2, .int v2), (3, .int v3)] [.int w0, .int w1, .ref (gx_ad E 29)] := by
  unfold j_CaseLayoutModel_place_31 at hf
  refine gx_iload_n C 3 d_Mod_place_31 rfl rfl ?_
  refine gx_if_ne (tgt := 53) C d_Mod_place_32 (by decide) (fun h4 => ?_) (fun h4 => ?_)
  · have hf := (if_neg h4).symm.trans hf
    refine gx_lv (lv' := [(0, .ref (gx_ad E 29)), (1, .int v1), (2, .int v2)]) [0, 1, 2] rfl ?_
    exact jc_CaseLayoutModel_place_53 C hR hr hlk v1 v2 w0 w1 x _ hf hk
  · have hf := (if_pos h4).symm.trans hf
    refine gx_aload_n C 0 d_Mod_place_35 rfl rfl ?_
    refine gx_get C iw_Mod 29 (gx_w29 E _) rfl 3 (by decide) gw_677 rfl rfl d_Mod_place_36 ?_
    refine gx_bipush C (v := 9) d_Mod_place_39 (by decide) ?_
    refine gx_iload_n C 2 d_Mod_place_41 rfl rfl ?_
    refine gx_imul C d_Mod_place_42 ?_
    refine gx_iload_n C 1 d_Mod_place_43 rfl rfl ?_
    refine gx_iadd C d_Mod_place_44 ?_
    obtain ⟨hi9, hf⟩ := gx_ck_some hf
    refine gx_zald C 30 1 (gx_w30 E _) rfl hi9 d_Mod_place_45 ?_
    refine gx_if_eq (tgt := 53) C d_Mod_place_46 (by decide) (fun h10 => ?_) (fun h10 => ?_)
    · have hf := (if_pos h10).symm.trans hf
      refine gx_lv (lv' := [(0, .ref (gx_ad E 29)), (1, .int v1), (2, .int v2)]) [0, 1, 2] rfl ?_
      exact jc_CaseLayoutModel_place_53 C hR hr hlk v1 v2 w0 w1 x _ hf hk
    · have hf := (if_neg h10).symm.trans hf
      refine gx_iconst C (v := 1) d_Mod_place_49 (by decide) ?_
      refine gx_goto (tgt := 54) C d_Mod_place_50 (by decide) ?_
      refine gx_lv (lv' := [(0, .ref (gx_ad E 29)), (1, .int v1), (2, .int v2)]) [0, 1, 2] rfl ?_
      exact jc_CaseLayoutModel_place_54 C hR hr hlk v1 v2 1 w0 w1 x _ hf hk
set_option maxHeartbeats 4000000 in
set_option maxRecDepth 100000 in
theorem jc_CaseLayoutModel_place_14 {K : gx_K} {E : gx_E} (C : gx_C K E "CaseLayoutModel" prog_10_method_16_code 4) (hR : K.R = rm_CaseLayoutModel_place) (hr : K.meth.sig.returnType = (some .int)) (hlk : K.meth.locks = false) (v1 : Int32) (v2 : Int32) (w0 : Int32) (x : gx_S) (o : Int32 × gx_S) (hf : j_CaseLayoutModel_place_14 v1 v2 w0 x = some o) (hk : ∀ t, MQ K.below (gx_Qi E (gx_AB true E K.s.heap.size) o.1 o.2) K.args K.s 0 0 (gx_AB true E K.s.heap.size) t → K.Q t) : gx_G K E (gx_AB true E K.s.heap.size) 0 0 x 14 [(0, .ref (gx_ad E 29)), (1, .int v1), (2, .int v2)] [.int w0] := by
  unfold j_CaseLayoutModel_place_14 at hf
  refine gx_istore_n C (lv' := [(3, .int w0), (0, .ref (gx_ad E 29)), (1, .int v1), (2, .int v2)]) d_Mod_place_14 rfl (by decide) rfl ?_
  refine gx_aload_n C 1 d_Mod_place_15 rfl rfl ?_
  refine gx_iload_n C 0 d_Mod_place_16 rfl rfl ?_
  refine gx_aload_n C 1 d_Mod_place_17 rfl rfl ?_
  refine gx_get C iw_Mod 29 (gx_w29 E _) rfl 11 (by decide) gw_685 rfl rfl d_Mod_place_18 ?_
  refine gx_bipush C (v := 8) d_Mod_place_21 (by decide) ?_
  refine gx_icmp_ne (tgt := 30) C d_Mod_place_23 (by decide) (fun h3 => ?_) (fun h3 => ?_)
  · have hf := (if_neg h3).symm.trans hf
    refine gx_iconst C (v := 0) d_Mod_place_30 (by decide) ?_
    refine gx_lv (lv' := [(0, .ref (gx_ad E 29)), (1, .int v1), (2, .int v2), (3, .int w0)]) [1, 2, 3, 0] rfl ?_
    exact jc_CaseLayoutModel_place_31 C hR hr hlk v1 v2 w0 0 w0 x _ hf hk
  · have hf := (if_pos h3).symm.trans hf
    refine gx_iconst C (v := 1) d_Mod_place_26 (by decide) ?_
    refine gx_goto (tgt := 31) C d_Mod_place_27 (by decide) ?_
    refine gx_lv (lv' := [(0, .ref (gx_ad E 29)), (1, .int v1), (2, .int v2), (3, .int w0)]) [1, 2, 3, 0] rfl ?_
    exact jc_CaseLayoutModel_place_31 C hR hr hlk v1 v2 w0 1 w0 x _ hf hk
set_option maxHeartbeats 4000000 in
set_option maxRecDepth 100000 in
theorem c_CaseLayoutModel_place (l : Launch) (a1 : Int32) (a2 : Int32) (x : gx_S) (o : Int32 × gx_S) (hf : f_CaseLayoutModel_place a1 a2 x = some o) : gx_Mi true l y_Mod_place prog_10_method_16_code 4 (some .int) rm_CaseLayoutModel_place (fun E => [.ref (gx_ad E 29), .int a1, .int a2]) x o.1 o.2 := by
  refine gx_meti (own := "CaseLayoutModel") (by decide) rfl (fun E => Nat.le_of_ble_eq_true rfl) (fun K E hl0 hR hr hlk hk C => ?_)
  subst hl0
  unfold f_CaseLayoutModel_place at hf
  show gx_G K E _ 0 0 x 0 [(0, .ref (gx_ad E 29)), (1, .int a1), (2, .int a2)] []
  refine gx_aload_n C 0 d_Mod_place_0 rfl rfl ?_
  refine gx_iload_n C 1 d_Mod_place_1 rfl rfl ?_
  refine gx_iload_n C 2 d_Mod_place_2 rfl rfl ?_
  obtain ⟨r1, x1, hc1, hf⟩ := gx_bd_some hf
  refine gx_cVi (n2 := 0) (k2 := 0) C (As := [.int a1, .int a2]) (rest := []) 29 2 (c_CaseLayoutModel_isCell K.l a1 a2 x _ hc1) (Or.inl rfl) rfl (gx_goodV gw_767 gw_769 gs_16 gw_10 gw_770) (by decide +kernel) (gx_w29 E _) rfl (by rw [hR]; decide) rfl rfl (Nat.le_of_ble_eq_true rfl) d_Mod_place_3 (by rw [hR]; decide) rfl rfl ?_
  refine gx_if_ne (tgt := 13) C d_Mod_place_6 (by decide) (fun h2 => ?_) (fun h2 => ?_)
  · have hf := (if_neg h2).symm.trans hf
    refine gx_iconst C (v := 0) d_Mod_place_13 (by decide) ?_
    exact jc_CaseLayoutModel_place_14 C hR hr hlk a1 a2 0 x1 _ hf hk
  · have hf := (if_pos h2).symm.trans hf
    refine gx_iconst C (v := 1) d_Mod_place_9 (by decide) ?_
    refine gx_goto (tgt := 14) C d_Mod_place_10 (by decide) ?_
    exact jc_CaseLayoutModel_place_14 C hR hr hlk a1 a2 1 x1 _ hf hk

def j_CaseLayoutModel_sees_28 (v1 : Int32) (v2 : Int32) (v3 : Int32) (w0 : Int32) (x : gx_S) : Option (Int32 × gx_S) :=
  gx_bd (f_CaseLayoutModel_throwing w0 0 0 x) (fun r3 x3 => if r3 = 0 then (gx_ck ((7 * v1) + v2) 56 (gx_ck ((7 * v1) + v2) 56 (gx_bd (f_CaseLayoutModel_forget  (gx_sA x3 29 ((7 * v1) + v2 : Int32).toNatClampNeg (vp_nar .boolean v3))) (fun r7 x7 => if (gx_gA x3 29 ((7 * v1) + v2 : Int32).toNatClampNeg) = v3 then (some (0, x7)) else (some (1, x7)))))) else (some (0, x3)))
def j_CaseLayoutModel_sees_23 (v1 : Int32) (v2 : Int32) (v3 : Int32) (x : gx_S) : Option (Int32 × gx_S) :=
  j_CaseLayoutModel_sees_28 v1 v2 v3 1 x
def f_CaseLayoutModel_sees (a1 : Int32) (a2 : Int32) (a3 : Int32) (x : gx_S) : Option (Int32 × gx_S) :=
  gx_bd (f_CaseLayoutModel_in a1 0 ((gx_gI x 15) - 1) x) (fun r1 x1 => if r1 = 0 then (j_CaseLayoutModel_sees_23 a1 a2 a3  x1) else (gx_bd (f_CaseLayoutModel_isThing a2 x1) (fun r9 x9 => if r9 = 0 then (j_CaseLayoutModel_sees_23 a1 a2 a3  x9) else (j_CaseLayoutModel_sees_28 a1 a2 a3 0 x9))))
abbrev rm_CaseLayoutModel_sees : Room := { frames := 2, cells := 0, slots := 0, locals := 43 }
set_option maxHeartbeats 4000000 in
set_option maxRecDepth 100000 in
theorem jc_CaseLayoutModel_sees_28 {K : gx_K} {E : gx_E} (C : gx_C K E "CaseLayoutModel" prog_10_method_17_code 5) (hR : K.R = rm_CaseLayoutModel_sees) (hr : K.meth.sig.returnType = (some .boolean)) (hlk : K.meth.locks = false) (v1 : Int32) (v2 : Int32) (v3 : Int32) (w0 : Int32) (x : gx_S) (o : Int32 × gx_S) (hf : j_CaseLayoutModel_sees_28 v1 v2 v3 w0 x = some o) (hk : ∀ t, MQ K.below (gx_Qi E (gx_AB true E K.s.heap.size) o.1 o.2) K.args K.s 0 0 (gx_AB true E K.s.heap.size) t → K.Q t) : gx_G K E (gx_AB true E K.s.heap.size) 0 0 x 28 [(0, .ref (gx_ad E 29)), (1, .int v1), (2, .int v2), (3, .int v3)] [.int w0, .ref (gx_ad E 29)] := by
  unfold j_CaseLayoutModel_sees_28 at hf
  refine gx_iconst C (v := 0) d_Mod_sees_28 (by decide) ?_
  refine gx_iconst C (v := 0) d_Mod_sees_29 (by decide) ?_
  obtain ⟨r3, x3, hc3, hf⟩ := gx_bd_some hf
  refine gx_cVi (n2 := 0) (k2 := 0) C (As := [.int w0, .int 0, .int 0]) (rest := []) 29 3 (c_CaseLayoutModel_throwing K.l w0 0 0 x _ hc3) (Or.inl rfl) rfl (gx_goodV gw_774 gw_776 gs_17 gw_10 gw_777) (by decide +kernel) (gx_w29 E _) rfl (by rw [hR]; decide) rfl rfl (Nat.le_of_ble_eq_true rfl) d_Mod_sees_30 (by rw [hR]; decide) rfl rfl ?_
  refine gx_if_eq (tgt := 38) C d_Mod_sees_33 (by decide) (fun h4 => ?_) (fun h4 => ?_)
  · have hf := (if_pos h4).symm.trans hf
    refine gx_aload_n C 0 d_Mod_sees_38 rfl rfl ?_
    refine gx_get C iw_Mod 29 (gx_w29 E _) rfl 14 (by decide) gw_688 rfl rfl d_Mod_sees_39 ?_
    refine gx_bipush C (v := 7) d_Mod_sees_42 (by decide) ?_
    refine gx_iload_n C 1 d_Mod_sees_44 rfl rfl ?_
    refine gx_imul C d_Mod_sees_45 ?_
    refine gx_iload_n C 2 d_Mod_sees_46 rfl rfl ?_
    refine gx_iadd C d_Mod_sees_47 ?_
    obtain ⟨hi5, hf⟩ := gx_ck_some hf
    refine gx_zald C 39 1 (gx_w39 E _) rfl hi5 d_Mod_sees_48 ?_
    refine gx_istore C (lv' := [(4, .int (gx_gA x3 29 ((7 * v1) + v2 : Int32).toNatClampNeg)), (0, .ref (gx_ad E 29)), (1, .int v1), (2, .int v2), (3, .int v3)]) d_Mod_sees_49 (by decide) rfl ?_
    refine gx_aload_n C 1 d_Mod_sees_51 rfl rfl ?_
    refine gx_get C iw_Mod 29 (gx_w29 E _) rfl 14 (by decide) gw_688 rfl rfl d_Mod_sees_52 ?_
    refine gx_bipush C (v := 7) d_Mod_sees_55 (by decide) ?_
    refine gx_iload_n C 2 d_Mod_sees_57 rfl rfl ?_
    refine gx_imul C d_Mod_sees_58 ?_
    refine gx_iload_n C 3 d_Mod_sees_59 rfl rfl ?_
    refine gx_iadd C d_Mod_sees_60 ?_
    refine gx_iload_n C 4 d_Mod_sees_61 rfl rfl ?_
    obtain ⟨hi6, hf⟩ := gx_ck_some hf
    refine gx_zast C (x' := gx_sA x3 29 ((7 * v1) + v2 : Int32).toNatClampNeg (vp_nar .boolean v3)) 39 1 (gx_w39 E _) rfl hi6 (gx_q39 E _ _ _) d_Mod_sees_62 ?_
    refine gx_aload_n C 1 d_Mod_sees_63 rfl rfl ?_
    obtain ⟨r7, x7, hc7, hf⟩ := gx_bd_some hf
    refine gx_cVv (n2 := 0) (k2 := 0) C (As := []) (rest := []) 29 0 (c_CaseLayoutModel_forget K.l  (gx_sA x3 29 ((7 * v1) + v2 : Int32).toNatClampNeg (vp_nar .boolean v3)) _ hc7) (Or.inl rfl) rfl (gx_goodV gw_786 gw_788 gs_20 gw_10 gw_789) (by decide +kernel) (gx_w29 E _) rfl (by rw [hR]; decide) rfl rfl (Nat.le_of_ble_eq_true rfl) d_Mod_sees_64 (by rw [hR]; decide) rfl rfl ?_
    refine gx_iload C 0 d_Mod_sees_67 rfl ?_
    refine gx_iload_n C 4 d_Mod_sees_69 rfl rfl ?_
    refine gx_icmp_eq (tgt := 77) C d_Mod_sees_70 (by decide) (fun h8 => ?_) (fun h8 => ?_)
    · have hf := (if_pos h8).symm.trans hf
      refine gx_iconst C (v := 0) d_Mod_sees_77 (by decide) ?_
      cases hf
      exact gx_zret C hr hlk hk (by decide) d_Mod_sees_78
    · have hf := (if_neg h8).symm.trans hf
      refine gx_iconst C (v := 1) d_Mod_sees_73 (by decide) ?_
      refine gx_goto (tgt := 78) C d_Mod_sees_74 (by decide) ?_
      cases hf
      exact gx_zret C hr hlk hk (by decide) d_Mod_sees_78
  · have hf := (if_neg h4).symm.trans hf
    refine gx_iconst C (v := 0) d_Mod_sees_36 (by decide) ?_
    cases hf
    exact gx_zret C hr hlk hk (by decide) d_Mod_sees_37
set_option maxHeartbeats 4000000 in
set_option maxRecDepth 100000 in
theorem jc_CaseLayoutModel_sees_23 {K : gx_K} {E : gx_E} (C : gx_C K E "CaseLayoutModel" prog_10_method_17_code 5) (hR : K.R = rm_CaseLayoutModel_sees) (hr : K.meth.sig.returnType = (some .boolean)) (hlk : K.meth.locks = false) (v1 : Int32) (v2 : Int32) (v3 : Int32) (x : gx_S) (o : Int32 × gx_S) (hf : j_CaseLayoutModel_sees_23 v1 v2 v3 x = some o) (hk : ∀ t, MQ K.below (gx_Qi E (gx_AB true E K.s.heap.size) o.1 o.2) K.args K.s 0 0 (gx_AB true E K.s.heap.size) t → K.Q t) : gx_G K E (gx_AB true E K.s.heap.size) 0 0 x 23 [(0, .ref (gx_ad E 29)), (1, .int v1), (2, .int v2), (3, .int v3)] [.ref (gx_ad E 29)] := by
  unfold j_CaseLayoutModel_sees_23 at hf
  refine gx_iconst C (v := 1) d_Mod_sees_23 (by decide) ?_
  refine gx_goto (tgt := 28) C d_Mod_sees_24 (by decide) ?_
  exact jc_CaseLayoutModel_sees_28 C hR hr hlk v1 v2 v3 1 x _ hf hk
set_option maxHeartbeats 4000000 in
set_option maxRecDepth 100000 in
theorem c_CaseLayoutModel_sees (l : Launch) (a1 : Int32) (a2 : Int32) (a3 : Int32) (x : gx_S) (o : Int32 × gx_S) (hf : f_CaseLayoutModel_sees a1 a2 a3 x = some o) : gx_Mi true l y_Mod_sees prog_10_method_17_code 5 (some .boolean) rm_CaseLayoutModel_sees (fun E => [.ref (gx_ad E 29), .int a1, .int a2, .int a3]) x o.1 o.2 := by
  refine gx_meti (own := "CaseLayoutModel") (by decide) rfl (fun E => Nat.le_of_ble_eq_true rfl) (fun K E hl0 hR hr hlk hk C => ?_)
  subst hl0
  unfold f_CaseLayoutModel_sees at hf
  show gx_G K E _ 0 0 x 0 [(0, .ref (gx_ad E 29)), (1, .int a1), (2, .int a2), (3, .int a3)] []
  refine gx_aload_n C 0 d_Mod_sees_0 rfl rfl ?_
  refine gx_iload_n C 1 d_Mod_sees_1 rfl rfl ?_
  refine gx_iconst C (v := 0) d_Mod_sees_2 (by decide) ?_
  refine gx_aload_n C 0 d_Mod_sees_3 rfl rfl ?_
  refine gx_get C iw_Mod 29 (gx_w29 E _) rfl 11 (by decide) gw_685 rfl rfl d_Mod_sees_4 ?_
  refine gx_iconst C (v := 1) d_Mod_sees_7 (by decide) ?_
  refine gx_isub C d_Mod_sees_8 ?_
  obtain ⟨r1, x1, hc1, hf⟩ := gx_bd_some hf
  refine gx_cSi (n2 := 0) (k2 := 0) C (As := [.int a1, .int 0, .int ((gx_gI x 15) - 1)]) (rest := [.ref (gx_ad E 29)]) 3 (c_CaseLayoutModel_in K.l a1 0 ((gx_gI x 15) - 1) x _ hc1) (Or.inl rfl) rfl (gx_goodS gw_771 gw_772 gw_10 gw_773) (by decide +kernel) (by rw [hR]; decide) rfl rfl (Nat.le_of_ble_eq_true rfl) d_Mod_sees_9 (by rw [hR]; decide) rfl rfl ?_
  refine gx_if_eq (tgt := 23) C d_Mod_sees_12 (by decide) (fun h2 => ?_) (fun h2 => ?_)
  · have hf := (if_pos h2).symm.trans hf
    exact jc_CaseLayoutModel_sees_23 C hR hr hlk a1 a2 a3  x1 _ hf hk
  · have hf := (if_neg h2).symm.trans hf
    refine gx_aload_n C 0 d_Mod_sees_15 rfl rfl ?_
    refine gx_iload_n C 2 d_Mod_sees_16 rfl rfl ?_
    obtain ⟨r9, x9, hc9, hf⟩ := gx_bd_some hf
    refine gx_cVi (n2 := 0) (k2 := 0) C (As := [.int a2]) (rest := [.ref (gx_ad E 29)]) 29 1 (c_CaseLayoutModel_isThing K.l a2 x1 _ hc9) (Or.inl rfl) rfl (gx_goodV gw_802 gw_804 gs_21 gw_10 gw_805) (by decide +kernel) (gx_w29 E _) rfl (by rw [hR]; decide) rfl rfl (Nat.le_of_ble_eq_true rfl) d_Mod_sees_17 (by rw [hR]; decide) rfl rfl ?_
    refine gx_if_ne (tgt := 27) C d_Mod_sees_20 (by decide) (fun h10 => ?_) (fun h10 => ?_)
    · have hf := (if_neg h10).symm.trans hf
      refine gx_iconst C (v := 0) d_Mod_sees_27 (by decide) ?_
      exact jc_CaseLayoutModel_sees_28 C hR hr hlk a1 a2 a3 0 x9 _ hf hk
    · have hf := (if_pos h10).symm.trans hf
      exact jc_CaseLayoutModel_sees_23 C hR hr hlk a1 a2 a3  x9 _ hf hk

def j_CaseLayoutModel_exit_63 (v1 : Int32) (v2 : Int32) (w0 : Int32) (w1 : Int32) (w2 : Int32) (x : gx_S) : Option (Int32 × gx_S) :=
  gx_bd (f_CaseLayoutModel_throwing w2 w1 w0 x) (fun r5 x5 => if r5 = 0 then (gx_ck (gx_gI x5 16) 6 (gx_ck (gx_gI (gx_sA x5 30 (gx_gI x5 16 : Int32).toNatClampNeg v1) 16) 6 (gx_bd (f_CaseLayoutModel_forget  (gx_sI (gx_sA (gx_sA x5 30 (gx_gI x5 16 : Int32).toNatClampNeg v1) 31 (gx_gI (gx_sA x5 30 (gx_gI x5 16 : Int32).toNatClampNeg v1) 16 : Int32).toNatClampNeg v2) 16 ((gx_gI (gx_sA (gx_sA x5 30 (gx_gI x5 16 : Int32).toNatClampNeg v1) 31 (gx_gI (gx_sA x5 30 (gx_gI x5 16 : Int32).toNatClampNeg v1) 16 : Int32).toNatClampNeg v2) 16) + 1))) (fun r9 x9 => some (gx_gI x9 16, x9))))) else (some (0, x5)))
def j_CaseLayoutModel_exit_62 (v1 : Int32) (v2 : Int32) (w0 : Int32) (w1 : Int32) (x : gx_S) : Option (Int32 × gx_S) :=
  j_CaseLayoutModel_exit_63 v1 v2 0 w0 w1 x
def j_CaseLayoutModel_exit_58 (v1 : Int32) (v2 : Int32) (w0 : Int32) (w1 : Int32) (x : gx_S) : Option (Int32 × gx_S) :=
  j_CaseLayoutModel_exit_63 v1 v2 1 w0 w1 x
def j_CaseLayoutModel_exit_31 (v1 : Int32) (v2 : Int32) (v3 : Int32) (w0 : Int32) (w1 : Int32) (x : gx_S) : Option (Int32 × gx_S) :=
  if v3 = 0 then (gx_ck ((9 * v2) + v1) 81 (if (gx_gA x 20 ((9 * v2) + v1 : Int32).toNatClampNeg) = 0 then (gx_bd (f_CaseLayoutModel_isExit v1 v2 x) (fun r12 x12 => if r12 = 0 then (j_CaseLayoutModel_exit_62 v1 v2 w0 w1 x12) else (j_CaseLayoutModel_exit_58 v1 v2 w0 w1 x12))) else (j_CaseLayoutModel_exit_58 v1 v2 w0 w1 x))) else (j_CaseLayoutModel_exit_62 v1 v2 w0 w1 x)
def j_CaseLayoutModel_exit_14 (v1 : Int32) (v2 : Int32) (w0 : Int32) (x : gx_S) : Option (Int32 × gx_S) :=
  if (gx_gI x 16) = 6 then (j_CaseLayoutModel_exit_31 v1 v2 w0 1 w0 x) else (j_CaseLayoutModel_exit_31 v1 v2 w0 0 w0 x)
def f_CaseLayoutModel_exit (a1 : Int32) (a2 : Int32) (x : gx_S) : Option (Int32 × gx_S) :=
  gx_bd (f_CaseLayoutModel_isCell a1 a2 x) (fun r1 x1 => if r1 = 0 then (j_CaseLayoutModel_exit_14 a1 a2 1 x1) else (j_CaseLayoutModel_exit_14 a1 a2 0 x1))
abbrev rm_CaseLayoutModel_exit : Room := { frames := 2, cells := 0, slots := 0, locals := 44 }
set_option maxHeartbeats 4000000 in
set_option maxRecDepth 100000 in
theorem jc_CaseLayoutModel_exit_63 {K : gx_K} {E : gx_E} (C : gx_C K E "CaseLayoutModel" prog_10_method_18_code 4) (hR : K.R = rm_CaseLayoutModel_exit) (hr : K.meth.sig.returnType = (some .int)) (hlk : K.meth.locks = false) (v1 : Int32) (v2 : Int32) (w0 : Int32) (w1 : Int32) (w2 : Int32) (x : gx_S) (o : Int32 × gx_S) (hf : j_CaseLayoutModel_exit_63 v1 v2 w0 w1 w2 x = some o) (hk : ∀ t, MQ K.below (gx_Qi E (gx_AB true E K.s.heap.size) o.1 o.2) K.args K.s 0 0 (gx_AB true E K.s.heap.size) t → K.Q t) : gx_G K E (gx_AB true E K.s.heap.size) 0 0 x 63 [(0, .ref (gx_ad E 29)), (1, .int v1), (2, .int v2)] [.int w0, .int w1, .int w2, .ref (gx_ad E 29)] := by
  unfold j_CaseLayoutModel_exit_63 at hf
  obtain ⟨r5, x5, hc5, hf⟩ := gx_bd_some hf
  refine gx_cVi (n2 := 0) (k2 := 0) C (As := [.int w2, .int w1, .int w0]) (rest := []) 29 3 (c_CaseLayoutModel_throwing K.l w2 w1 w0 x _ hc5) (Or.inl rfl) rfl (gx_goodV gw_774 gw_776 gs_17 gw_10 gw_777) (by decide +kernel) (gx_w29 E _) rfl (by rw [hR]; decide) rfl rfl (Nat.le_of_ble_eq_true rfl) d_Mod_exit_63 (by rw [hR]; decide) rfl rfl ?_
  refine gx_if_eq (tgt := 71) C d_Mod_exit_66 (by decide) (fun h6 => ?_) (fun h6 => ?_)
  · have hf := (if_pos h6).symm.trans hf
    refine gx_aload_n C 0 d_Mod_exit_71 rfl rfl ?_
    refine gx_get C iw_Mod 29 (gx_w29 E _) rfl 16 (by decide) gw_690 rfl rfl d_Mod_exit_72 ?_
    refine gx_aload_n C 0 d_Mod_exit_75 rfl rfl ?_
    refine gx_get C iw_Mod 29 (gx_w29 E _) rfl 15 (by decide) gw_689 rfl rfl d_Mod_exit_76 ?_
    refine gx_iload_n C 1 d_Mod_exit_79 rfl rfl ?_
    obtain ⟨hi7, hf⟩ := gx_ck_some hf
    refine gx_iast C (x' := gx_sA x5 30 (gx_gI x5 16 : Int32).toNatClampNeg v1) 40 0 (gx_w40 E _) rfl hi7 (gx_q40 E _ _ _) d_Mod_exit_80 ?_
    refine gx_aload_n C 0 d_Mod_exit_81 rfl rfl ?_
    refine gx_get C iw_Mod 29 (gx_w29 E _) rfl 17 (by decide) gw_691 rfl rfl d_Mod_exit_82 ?_
    refine gx_aload_n C 0 d_Mod_exit_85 rfl rfl ?_
    refine gx_get C iw_Mod 29 (gx_w29 E _) rfl 15 (by decide) gw_689 rfl rfl d_Mod_exit_86 ?_
    refine gx_iload_n C 2 d_Mod_exit_89 rfl rfl ?_
    obtain ⟨hi8, hf⟩ := gx_ck_some hf
    refine gx_iast C (x' := gx_sA (gx_sA x5 30 (gx_gI x5 16 : Int32).toNatClampNeg v1) 31 (gx_gI (gx_sA x5 30 (gx_gI x5 16 : Int32).toNatClampNeg v1) 16 : Int32).toNatClampNeg v2) 41 0 (gx_w41 E _) rfl hi8 (gx_q41 E _ _ _) d_Mod_exit_90 ?_
    refine gx_aload_n C 0 d_Mod_exit_91 rfl rfl ?_
    refine gx_dup C d_Mod_exit_92 rfl ?_
    refine gx_get C iw_Mod 29 (gx_w29 E _) rfl 15 (by decide) gw_689 rfl rfl d_Mod_exit_93 ?_
    refine gx_iconst C (v := 1) d_Mod_exit_96 (by decide) ?_
    refine gx_iadd C d_Mod_exit_97 ?_
    refine gx_put C (ty := .int) (x' := gx_sI (gx_sA (gx_sA x5 30 (gx_gI x5 16 : Int32).toNatClampNeg v1) 31 (gx_gI (gx_sA x5 30 (gx_gI x5 16 : Int32).toNatClampNeg v1) 16 : Int32).toNatClampNeg v2) 16 ((gx_gI (gx_sA (gx_sA x5 30 (gx_gI x5 16 : Int32).toNatClampNeg v1) 31 (gx_gI (gx_sA x5 30 (gx_gI x5 16 : Int32).toNatClampNeg v1) 16 : Int32).toNatClampNeg v2) 16) + 1)) iw_Mod ty_Mod tk_Mod tn_Mod 29 (gx_w29 E _) rfl 15 (by decide) gw_689 rfl rfl (by decide +kernel) rfl rfl (Nat.le_of_ble_eq_true rfl) (gx_p29_15 E _ _) d_Mod_exit_98 ?_
    refine gx_aload_n C 0 d_Mod_exit_101 rfl rfl ?_
    obtain ⟨r9, x9, hc9, hf⟩ := gx_bd_some hf
    refine gx_cVv (n2 := 0) (k2 := 0) C (As := []) (rest := []) 29 0 (c_CaseLayoutModel_forget K.l  (gx_sI (gx_sA (gx_sA x5 30 (gx_gI x5 16 : Int32).toNatClampNeg v1) 31 (gx_gI (gx_sA x5 30 (gx_gI x5 16 : Int32).toNatClampNeg v1) 16 : Int32).toNatClampNeg v2) 16 ((gx_gI (gx_sA (gx_sA x5 30 (gx_gI x5 16 : Int32).toNatClampNeg v1) 31 (gx_gI (gx_sA x5 30 (gx_gI x5 16 : Int32).toNatClampNeg v1) 16 : Int32).toNatClampNeg v2) 16) + 1)) _ hc9) (Or.inl rfl) rfl (gx_goodV gw_786 gw_788 gs_20 gw_10 gw_789) (by decide +kernel) (gx_w29 E _) rfl (by rw [hR]; decide) rfl rfl (Nat.le_of_ble_eq_true rfl) d_Mod_exit_102 (by rw [hR]; decide) rfl rfl ?_
    refine gx_aload_n C 0 d_Mod_exit_105 rfl rfl ?_
    refine gx_get C iw_Mod 29 (gx_w29 E _) rfl 15 (by decide) gw_689 rfl rfl d_Mod_exit_106 ?_
    cases hf
    exact gx_iret C hr hlk hk d_Mod_exit_109
  · have hf := (if_neg h6).symm.trans hf
    refine gx_iconst C (v := 0) d_Mod_exit_69 (by decide) ?_
    cases hf
    exact gx_iret C hr hlk hk d_Mod_exit_70
set_option maxHeartbeats 4000000 in
set_option maxRecDepth 100000 in
theorem jc_CaseLayoutModel_exit_62 {K : gx_K} {E : gx_E} (C : gx_C K E "CaseLayoutModel" prog_10_method_18_code 4) (hR : K.R = rm_CaseLayoutModel_exit) (hr : K.meth.sig.returnType = (some .int)) (hlk : K.meth.locks = false) (v1 : Int32) (v2 : Int32) (w0 : Int32) (w1 : Int32) (x : gx_S) (o : Int32 × gx_S) (hf : j_CaseLayoutModel_exit_62 v1 v2 w0 w1 x = some o) (hk : ∀ t, MQ K.below (gx_Qi E (gx_AB true E K.s.heap.size) o.1 o.2) K.args K.s 0 0 (gx_AB true E K.s.heap.size) t → K.Q t) : gx_G K E (gx_AB true E K.s.heap.size) 0 0 x 62 [(0, .ref (gx_ad E 29)), (1, .int v1), (2, .int v2)] [.int w0, .int w1, .ref (gx_ad E 29)] := by
  unfold j_CaseLayoutModel_exit_62 at hf
  refine gx_iconst C (v := 0) d_Mod_exit_62 (by decide) ?_
  exact jc_CaseLayoutModel_exit_63 C hR hr hlk v1 v2 0 w0 w1 x _ hf hk
set_option maxHeartbeats 4000000 in
set_option maxRecDepth 100000 in
theorem jc_CaseLayoutModel_exit_58 {K : gx_K} {E : gx_E} (C : gx_C K E "CaseLayoutModel" prog_10_method_18_code 4) (hR : K.R = rm_CaseLayoutModel_exit) (hr : K.meth.sig.returnType = (some .int)) (hlk : K.meth.locks = false) (v1 : Int32) (v2 : Int32) (w0 : Int32) (w1 : Int32) (x : gx_S) (o : Int32 × gx_S) (hf : j_CaseLayoutModel_exit_58 v1 v2 w0 w1 x = some o) (hk : ∀ t, MQ K.below (gx_Qi E (gx_AB true E K.s.heap.size) o.1 o.2) K.args K.s 0 0 (gx_AB true E K.s.heap.size) t → K.Q t) : gx_G K E (gx_AB true E K.s.heap.size) 0 0 x 58 [(0, .ref (gx_ad E 29)), (1, .int v1), (2, .int v2)] [.int w0, .int w1, .ref (gx_ad E 29)] := by
  unfold j_CaseLayoutModel_exit_58 at hf
  refine gx_iconst C (v := 1) d_Mod_exit_58 (by decide) ?_
  refine gx_goto (tgt := 63) C d_Mod_exit_59 (by decide) ?_
  exact jc_CaseLayoutModel_exit_63 C hR hr hlk v1 v2 1 w0 w1 x _ hf hk
set_option maxHeartbeats 4000000 in
set_option maxRecDepth 100000 in
theorem jc_CaseLayoutModel_exit_31 {K : gx_K} {E : gx_E} (C : gx_C K E "CaseLayoutModel" prog_10_method_18_code 4) (hR : K.R = rm_CaseLayoutModel_exit) (hr : K.meth.sig.returnType = (some .int)) (hlk : K.meth.locks = false) (v1 : Int32) (v2 : Int32) (v3 : Int32) (w0 : Int32) (w1 : Int32) (x : gx_S) (o : Int32 × gx_S) (hf : j_CaseLayoutModel_exit_31 v1 v2 v3 w0 w1 x = some o) (hk : ∀ t, MQ K.below (gx_Qi E (gx_AB true E K.s.heap.size) o.1 o.2) K.args K.s 0 0 (gx_AB true E K.s.heap.size) t → K.Q t) : gx_G K E (gx_AB true E K.s.heap.size) 0 0 x 31 [(0, .ref (gx_ad E 29)), (1, .int v1), (2, .int v2), (3, .int v3)] [.int w0, .int w1, .ref (gx_ad E 29)] := by
  unfold j_CaseLayoutModel_exit_31 at hf
  refine gx_iload_n C 3 d_Mod_exit_31 rfl rfl ?_
  refine gx_if_ne (tgt := 62) C d_Mod_exit_32 (by decide) (fun h4 => ?_) (fun h4 => ?_)
  · have hf := (if_neg h4).symm.trans hf
    refine gx_lv (lv' := [(0, .ref (gx_ad E 29)), (1, .int v1), (2, .int v2)]) [0, 1, 2] rfl ?_
    exact jc_CaseLayoutModel_exit_62 C hR hr hlk v1 v2 w0 w1 x _ hf hk
  · have hf := (if_pos h4).symm.trans hf
    refine gx_aload_n C 0 d_Mod_exit_35 rfl rfl ?_
    refine gx_get C iw_Mod 29 (gx_w29 E _) rfl 3 (by decide) gw_677 rfl rfl d_Mod_exit_36 ?_
    refine gx_bipush C (v := 9) d_Mod_exit_39 (by decide) ?_
    refine gx_iload_n C 2 d_Mod_exit_41 rfl rfl ?_
    refine gx_imul C d_Mod_exit_42 ?_
    refine gx_iload_n C 1 d_Mod_exit_43 rfl rfl ?_
    refine gx_iadd C d_Mod_exit_44 ?_
    obtain ⟨hi10, hf⟩ := gx_ck_some hf
    refine gx_zald C 30 1 (gx_w30 E _) rfl hi10 d_Mod_exit_45 ?_
    refine gx_if_ne (tgt := 58) C d_Mod_exit_46 (by decide) (fun h11 => ?_) (fun h11 => ?_)
    · have hf := (if_neg h11).symm.trans hf
      refine gx_lv (lv' := [(0, .ref (gx_ad E 29)), (1, .int v1), (2, .int v2)]) [0, 1, 2] rfl ?_
      exact jc_CaseLayoutModel_exit_58 C hR hr hlk v1 v2 w0 w1 x _ hf hk
    · have hf := (if_pos h11).symm.trans hf
      refine gx_aload_n C 0 d_Mod_exit_49 rfl rfl ?_
      refine gx_iload_n C 1 d_Mod_exit_50 rfl rfl ?_
      refine gx_iload_n C 2 d_Mod_exit_51 rfl rfl ?_
      obtain ⟨r12, x12, hc12, hf⟩ := gx_bd_some hf
      refine gx_cVi (n2 := 0) (k2 := 0) C (As := [.int v1, .int v2]) (rest := [.int w0, .int w1, .ref (gx_ad E 29)]) 29 2 (c_CaseLayoutModel_isExit K.l v1 v2 x _ hc12) (Or.inl rfl) rfl (gx_goodV gw_778 gw_780 gs_18 gw_10 gw_781) (by decide +kernel) (gx_w29 E _) rfl (by rw [hR]; decide) rfl rfl (Nat.le_of_ble_eq_true rfl) d_Mod_exit_52 (by rw [hR]; decide) rfl rfl ?_
      refine gx_if_eq (tgt := 62) C d_Mod_exit_55 (by decide) (fun h13 => ?_) (fun h13 => ?_)
      · have hf := (if_pos h13).symm.trans hf
        refine gx_lv (lv' := [(0, .ref (gx_ad E 29)), (1, .int v1), (2, .int v2)]) [0, 1, 2] rfl ?_
        exact jc_CaseLayoutModel_exit_62 C hR hr hlk v1 v2 w0 w1 x12 _ hf hk
      · have hf := (if_neg h13).symm.trans hf
        refine gx_lv (lv' := [(0, .ref (gx_ad E 29)), (1, .int v1), (2, .int v2)]) [0, 1, 2] rfl ?_
        exact jc_CaseLayoutModel_exit_58 C hR hr hlk v1 v2 w0 w1 x12 _ hf hk
set_option maxHeartbeats 4000000 in
set_option maxRecDepth 100000 in
theorem jc_CaseLayoutModel_exit_14 {K : gx_K} {E : gx_E} (C : gx_C K E "CaseLayoutModel" prog_10_method_18_code 4) (hR : K.R = rm_CaseLayoutModel_exit) (hr : K.meth.sig.returnType = (some .int)) (hlk : K.meth.locks = false) (v1 : Int32) (v2 : Int32) (w0 : Int32) (x : gx_S) (o : Int32 × gx_S) (hf : j_CaseLayoutModel_exit_14 v1 v2 w0 x = some o) (hk : ∀ t, MQ K.below (gx_Qi E (gx_AB true E K.s.heap.size) o.1 o.2) K.args K.s 0 0 (gx_AB true E K.s.heap.size) t → K.Q t) : gx_G K E (gx_AB true E K.s.heap.size) 0 0 x 14 [(0, .ref (gx_ad E 29)), (1, .int v1), (2, .int v2)] [.int w0] := by
  unfold j_CaseLayoutModel_exit_14 at hf
  refine gx_istore_n C (lv' := [(3, .int w0), (0, .ref (gx_ad E 29)), (1, .int v1), (2, .int v2)]) d_Mod_exit_14 rfl (by decide) rfl ?_
  refine gx_aload_n C 1 d_Mod_exit_15 rfl rfl ?_
  refine gx_iload_n C 0 d_Mod_exit_16 rfl rfl ?_
  refine gx_aload_n C 1 d_Mod_exit_17 rfl rfl ?_
  refine gx_get C iw_Mod 29 (gx_w29 E _) rfl 15 (by decide) gw_689 rfl rfl d_Mod_exit_18 ?_
  refine gx_bipush C (v := 6) d_Mod_exit_21 (by decide) ?_
  refine gx_icmp_ne (tgt := 30) C d_Mod_exit_23 (by decide) (fun h3 => ?_) (fun h3 => ?_)
  · have hf := (if_neg h3).symm.trans hf
    refine gx_iconst C (v := 0) d_Mod_exit_30 (by decide) ?_
    refine gx_lv (lv' := [(0, .ref (gx_ad E 29)), (1, .int v1), (2, .int v2), (3, .int w0)]) [1, 2, 3, 0] rfl ?_
    exact jc_CaseLayoutModel_exit_31 C hR hr hlk v1 v2 w0 0 w0 x _ hf hk
  · have hf := (if_pos h3).symm.trans hf
    refine gx_iconst C (v := 1) d_Mod_exit_26 (by decide) ?_
    refine gx_goto (tgt := 31) C d_Mod_exit_27 (by decide) ?_
    refine gx_lv (lv' := [(0, .ref (gx_ad E 29)), (1, .int v1), (2, .int v2), (3, .int w0)]) [1, 2, 3, 0] rfl ?_
    exact jc_CaseLayoutModel_exit_31 C hR hr hlk v1 v2 w0 1 w0 x _ hf hk
set_option maxHeartbeats 4000000 in
set_option maxRecDepth 100000 in
theorem c_CaseLayoutModel_exit (l : Launch) (a1 : Int32) (a2 : Int32) (x : gx_S) (o : Int32 × gx_S) (hf : f_CaseLayoutModel_exit a1 a2 x = some o) : gx_Mi true l y_Mod_exit prog_10_method_18_code 4 (some .int) rm_CaseLayoutModel_exit (fun E => [.ref (gx_ad E 29), .int a1, .int a2]) x o.1 o.2 := by
  refine gx_meti (own := "CaseLayoutModel") (by decide) rfl (fun E => Nat.le_of_ble_eq_true rfl) (fun K E hl0 hR hr hlk hk C => ?_)
  subst hl0
  unfold f_CaseLayoutModel_exit at hf
  show gx_G K E _ 0 0 x 0 [(0, .ref (gx_ad E 29)), (1, .int a1), (2, .int a2)] []
  refine gx_aload_n C 0 d_Mod_exit_0 rfl rfl ?_
  refine gx_iload_n C 1 d_Mod_exit_1 rfl rfl ?_
  refine gx_iload_n C 2 d_Mod_exit_2 rfl rfl ?_
  obtain ⟨r1, x1, hc1, hf⟩ := gx_bd_some hf
  refine gx_cVi (n2 := 0) (k2 := 0) C (As := [.int a1, .int a2]) (rest := []) 29 2 (c_CaseLayoutModel_isCell K.l a1 a2 x _ hc1) (Or.inl rfl) rfl (gx_goodV gw_767 gw_769 gs_16 gw_10 gw_770) (by decide +kernel) (gx_w29 E _) rfl (by rw [hR]; decide) rfl rfl (Nat.le_of_ble_eq_true rfl) d_Mod_exit_3 (by rw [hR]; decide) rfl rfl ?_
  refine gx_if_ne (tgt := 13) C d_Mod_exit_6 (by decide) (fun h2 => ?_) (fun h2 => ?_)
  · have hf := (if_neg h2).symm.trans hf
    refine gx_iconst C (v := 0) d_Mod_exit_13 (by decide) ?_
    exact jc_CaseLayoutModel_exit_14 C hR hr hlk a1 a2 0 x1 _ hf hk
  · have hf := (if_pos h2).symm.trans hf
    refine gx_iconst C (v := 1) d_Mod_exit_9 (by decide) ?_
    refine gx_goto (tgt := 14) C d_Mod_exit_10 (by decide) ?_
    exact jc_CaseLayoutModel_exit_14 C hR hr hlk a1 a2 1 x1 _ hf hk
