def j_CaseLayoutModel_most_16 (v1 : Int32) (w0 : Int32) (x : gx_S) : Option (Int32 × gx_S) :=
  gx_bd (f_CaseLayoutModel_throwing w0 0 0 x) (fun r3 x3 => if r3 = 0 then (gx_bd (f_CaseLayoutModel_forget  (gx_sI x3 17 v1)) (fun r5 x5 => some (gx_gI x3 17, x5))) else (some (0, x3)))
def f_CaseLayoutModel_most (a1 : Int32) (x : gx_S) : Option (Int32 × gx_S) :=
  gx_bd (f_CaseLayoutModel_in a1 0 99 x) (fun r1 x1 => if r1 = 0 then (j_CaseLayoutModel_most_16 a1 1 x1) else (j_CaseLayoutModel_most_16 a1 0 x1))
abbrev rm_CaseLayoutModel_most : Room := { frames := 1, cells := 0, slots := 0, locals := 23 }
set_option maxHeartbeats 4000000 in
set_option maxRecDepth 100000 in
theorem jc_CaseLayoutModel_most_16 {K : gx_K} {E : gx_E} (C : gx_C K E "CaseLayoutModel" prog_10_method_19_code 3) (hR : K.R = rm_CaseLayoutModel_most) (hr : K.meth.sig.returnType = (some .int)) (hlk : K.meth.locks = false) (v1 : Int32) (w0 : Int32) (x : gx_S) (o : Int32 × gx_S) (hf : j_CaseLayoutModel_most_16 v1 w0 x = some o) (hk : ∀ t, MQ K.below (gx_Qi E (gx_AB true E K.s.heap.size) o.1 o.2) K.args K.s 0 0 (gx_AB true E K.s.heap.size) t → K.Q t) : gx_G K E (gx_AB true E K.s.heap.size) 0 0 x 16 [(0, .ref (gx_ad E 29)), (1, .int v1)] [.int w0, .ref (gx_ad E 29)] := by
  unfold j_CaseLayoutModel_most_16 at hf
  refine gx_iconst C (v := 0) d_Mod_most_16 (by decide) ?_
  refine gx_iconst C (v := 0) d_Mod_most_17 (by decide) ?_
  obtain ⟨r3, x3, hc3, hf⟩ := gx_bd_some hf
  refine gx_cVi (n2 := 0) (k2 := 0) C (As := [.int w0, .int 0, .int 0]) (rest := []) 29 3 (c_CaseLayoutModel_throwing K.l w0 0 0 x _ hc3) (Or.inl rfl) rfl (gx_goodV gw_774 gw_776 gs_17 gw_10 gw_777) (by decide +kernel) (gx_w29 E _) rfl (by rw [hR]; decide) rfl rfl (Nat.le_of_ble_eq_true rfl) d_Mod_most_18 (by rw [hR]; decide) rfl rfl ?_
  refine gx_if_eq (tgt := 26) C d_Mod_most_21 (by decide) (fun h4 => ?_) (fun h4 => ?_)
  · have hf := (if_pos h4).symm.trans hf
    refine gx_aload_n C 0 d_Mod_most_26 rfl rfl ?_
    refine gx_get C iw_Mod 29 (gx_w29 E _) rfl 18 (by decide) gw_692 rfl rfl d_Mod_most_27 ?_
    refine gx_istore_n C (lv' := [(2, .int (gx_gI x3 17)), (0, .ref (gx_ad E 29)), (1, .int v1)]) d_Mod_most_30 rfl (by decide) rfl ?_
    refine gx_aload_n C 1 d_Mod_most_31 rfl rfl ?_
    refine gx_iload_n C 2 d_Mod_most_32 rfl rfl ?_
    refine gx_put C (ty := .int) (x' := gx_sI x3 17 v1) iw_Mod ty_Mod tk_Mod tn_Mod 29 (gx_w29 E _) rfl 18 (by decide) gw_692 rfl rfl (by decide +kernel) rfl rfl (Nat.le_of_ble_eq_true rfl) (gx_p29_18 E _ _) d_Mod_most_33 ?_
    refine gx_aload_n C 1 d_Mod_most_36 rfl rfl ?_
    obtain ⟨r5, x5, hc5, hf⟩ := gx_bd_some hf
    refine gx_cVv (n2 := 0) (k2 := 0) C (As := []) (rest := []) 29 0 (c_CaseLayoutModel_forget K.l  (gx_sI x3 17 v1) _ hc5) (Or.inl rfl) rfl (gx_goodV gw_786 gw_788 gs_20 gw_10 gw_789) (by decide +kernel) (gx_w29 E _) rfl (by rw [hR]; decide) rfl rfl (Nat.le_of_ble_eq_true rfl) d_Mod_most_37 (by rw [hR]; decide) rfl rfl ?_
    refine gx_iload_n C 0 d_Mod_most_40 rfl rfl ?_
    cases hf
    exact gx_iret C hr hlk hk d_Mod_most_41
  · have hf := (if_neg h4).symm.trans hf
    refine gx_iconst C (v := 0) d_Mod_most_24 (by decide) ?_
    cases hf
    exact gx_iret C hr hlk hk d_Mod_most_25
set_option maxHeartbeats 4000000 in
set_option maxRecDepth 100000 in
theorem c_CaseLayoutModel_most (l : Launch) (a1 : Int32) (x : gx_S) (o : Int32 × gx_S) (hf : f_CaseLayoutModel_most a1 x = some o) : gx_Mi true l y_Mod_most prog_10_method_19_code 3 (some .int) rm_CaseLayoutModel_most (fun E => [.ref (gx_ad E 29), .int a1]) x o.1 o.2 := by
  refine gx_meti (own := "CaseLayoutModel") (by decide) rfl (fun E => Nat.le_of_ble_eq_true rfl) (fun K E hl0 hR hr hlk hk C => ?_)
  subst hl0
  unfold f_CaseLayoutModel_most at hf
  show gx_G K E _ 0 0 x 0 [(0, .ref (gx_ad E 29)), (1, .int a1)] []
  refine gx_aload_n C 0 d_Mod_most_0 rfl rfl ?_
  refine gx_iload_n C 1 d_Mod_most_1 rfl rfl ?_
  refine gx_iconst C (v := 0) d_Mod_most_2 (by decide) ?_
  refine gx_bipush C (v := 99) d_Mod_most_3 (by decide) ?_
  obtain ⟨r1, x1, hc1, hf⟩ := gx_bd_some hf
  refine gx_cSi (n2 := 0) (k2 := 0) C (As := [.int a1, .int 0, .int 99]) (rest := [.ref (gx_ad E 29)]) 3 (c_CaseLayoutModel_in K.l a1 0 99 x _ hc1) (Or.inl rfl) rfl (gx_goodS gw_771 gw_772 gw_10 gw_773) (by decide +kernel) (by rw [hR]; decide) rfl rfl (Nat.le_of_ble_eq_true rfl) d_Mod_most_5 (by rw [hR]; decide) rfl rfl ?_
  refine gx_if_ne (tgt := 15) C d_Mod_most_8 (by decide) (fun h2 => ?_) (fun h2 => ?_)
  · have hf := (if_neg h2).symm.trans hf
    refine gx_iconst C (v := 0) d_Mod_most_15 (by decide) ?_
    exact jc_CaseLayoutModel_most_16 C hR hr hlk a1 0 x1 _ hf hk
  · have hf := (if_pos h2).symm.trans hf
    refine gx_iconst C (v := 1) d_Mod_most_11 (by decide) ?_
    refine gx_goto (tgt := 16) C d_Mod_most_12 (by decide) ?_
    exact jc_CaseLayoutModel_most_16 C hR hr hlk a1 1 x1 _ hf hk

def f_CaseLayoutModel_meets (a1 : Int32) (a2 : Int32) (x : gx_S) : Option (Int32 × gx_S) :=
  gx_ck a1 7 (gx_ck a2 7 (gx_ck a2 7 (if ((gx_gA x 32 (a2 : Int32).toNatClampNeg) + (gx_gA x 22 (a2 : Int32).toNatClampNeg)) ≤ (gx_gA x 32 (a1 : Int32).toNatClampNeg) then (some (0, x)) else (gx_ck a2 7 (gx_ck a1 7 (gx_ck a1 7 (if ((gx_gA x 32 (a1 : Int32).toNatClampNeg) + (gx_gA x 22 (a1 : Int32).toNatClampNeg)) ≤ (gx_gA x 32 (a2 : Int32).toNatClampNeg) then (some (0, x)) else (gx_ck a1 7 (gx_ck a2 7 (gx_ck a2 7 (if ((gx_gA x 33 (a2 : Int32).toNatClampNeg) + (gx_gA x 23 (a2 : Int32).toNatClampNeg)) ≤ (gx_gA x 33 (a1 : Int32).toNatClampNeg) then (some (0, x)) else (gx_ck a2 7 (gx_ck a1 7 (gx_ck a1 7 (if ((gx_gA x 33 (a1 : Int32).toNatClampNeg) + (gx_gA x 23 (a1 : Int32).toNatClampNeg)) ≤ (gx_gA x 33 (a2 : Int32).toNatClampNeg) then (some (0, x)) else (some (1, x)))))))))))))))))
abbrev rm_CaseLayoutModel_meets : Room := { frames := 0, cells := 0, slots := 0, locals := 0 }
set_option maxHeartbeats 4000000 in
set_option maxRecDepth 100000 in
theorem c_CaseLayoutModel_meets (l : Launch) (a1 : Int32) (a2 : Int32) (x : gx_S) (o : Int32 × gx_S) (hf : f_CaseLayoutModel_meets a1 a2 x = some o) : gx_Mi false l y_Mod_meets prog_10_method_22_code 3 (some .boolean) rm_CaseLayoutModel_meets (fun E => [.ref (gx_ad E 29), .int a1, .int a2]) x o.1 o.2 := by
  refine gx_meti (own := "CaseLayoutModel") (by decide) rfl (fun E => Nat.le_of_ble_eq_true rfl) (fun K E hl0 hR hr hlk hk C => ?_)
  subst hl0
  unfold f_CaseLayoutModel_meets at hf
  show gx_G K E _ 0 0 x 0 [(0, .ref (gx_ad E 29)), (1, .int a1), (2, .int a2)] []
  refine gx_aload_n C 0 d_Mod_meets_0 rfl rfl ?_
  refine gx_get C iw_Mod 29 (gx_w29 E _) rfl 19 (by decide) gw_693 rfl rfl d_Mod_meets_1 ?_
  refine gx_iload_n C 1 d_Mod_meets_4 rfl rfl ?_
  obtain ⟨hi1, hf⟩ := gx_ck_some hf
  refine gx_iald C 42 0 (gx_w42 E _) rfl hi1 d_Mod_meets_5 ?_
  refine gx_aload_n C 0 d_Mod_meets_6 rfl rfl ?_
  refine gx_get C iw_Mod 29 (gx_w29 E _) rfl 19 (by decide) gw_693 rfl rfl d_Mod_meets_7 ?_
  refine gx_iload_n C 2 d_Mod_meets_10 rfl rfl ?_
  obtain ⟨hi2, hf⟩ := gx_ck_some hf
  refine gx_iald C 42 0 (gx_w42 E _) rfl hi2 d_Mod_meets_11 ?_
  refine gx_aload_n C 0 d_Mod_meets_12 rfl rfl ?_
  refine gx_get C iw_Mod 29 (gx_w29 E _) rfl 6 (by decide) gw_680 rfl rfl d_Mod_meets_13 ?_
  refine gx_iload_n C 2 d_Mod_meets_16 rfl rfl ?_
  obtain ⟨hi3, hf⟩ := gx_ck_some hf
  refine gx_iald C 32 0 (gx_w32 E _) rfl hi3 d_Mod_meets_17 ?_
  refine gx_iadd C d_Mod_meets_18 ?_
  refine gx_icmp_ge (tgt := 92) C d_Mod_meets_19 (by decide) (fun h4 => ?_) (fun h4 => ?_)
  · have hf := (if_pos h4).symm.trans hf
    refine gx_iconst C (v := 0) d_Mod_meets_92 (by decide) ?_
    cases hf
    exact gx_zret C hr hlk hk (by decide) d_Mod_meets_93
  · have hf := (if_neg h4).symm.trans hf
    refine gx_aload_n C 0 d_Mod_meets_22 rfl rfl ?_
    refine gx_get C iw_Mod 29 (gx_w29 E _) rfl 19 (by decide) gw_693 rfl rfl d_Mod_meets_23 ?_
    refine gx_iload_n C 2 d_Mod_meets_26 rfl rfl ?_
    obtain ⟨hi5, hf⟩ := gx_ck_some hf
    refine gx_iald C 42 0 (gx_w42 E _) rfl hi5 d_Mod_meets_27 ?_
    refine gx_aload_n C 0 d_Mod_meets_28 rfl rfl ?_
    refine gx_get C iw_Mod 29 (gx_w29 E _) rfl 19 (by decide) gw_693 rfl rfl d_Mod_meets_29 ?_
    refine gx_iload_n C 1 d_Mod_meets_32 rfl rfl ?_
    obtain ⟨hi6, hf⟩ := gx_ck_some hf
    refine gx_iald C 42 0 (gx_w42 E _) rfl hi6 d_Mod_meets_33 ?_
    refine gx_aload_n C 0 d_Mod_meets_34 rfl rfl ?_
    refine gx_get C iw_Mod 29 (gx_w29 E _) rfl 6 (by decide) gw_680 rfl rfl d_Mod_meets_35 ?_
    refine gx_iload_n C 1 d_Mod_meets_38 rfl rfl ?_
    obtain ⟨hi7, hf⟩ := gx_ck_some hf
    refine gx_iald C 32 0 (gx_w32 E _) rfl hi7 d_Mod_meets_39 ?_
    refine gx_iadd C d_Mod_meets_40 ?_
    refine gx_icmp_ge (tgt := 92) C d_Mod_meets_41 (by decide) (fun h8 => ?_) (fun h8 => ?_)
    · have hf := (if_pos h8).symm.trans hf
      refine gx_iconst C (v := 0) d_Mod_meets_92 (by decide) ?_
      cases hf
      exact gx_zret C hr hlk hk (by decide) d_Mod_meets_93
    · have hf := (if_neg h8).symm.trans hf
      refine gx_aload_n C 0 d_Mod_meets_44 rfl rfl ?_
      refine gx_get C iw_Mod 29 (gx_w29 E _) rfl 20 (by decide) gw_694 rfl rfl d_Mod_meets_45 ?_
      refine gx_iload_n C 1 d_Mod_meets_48 rfl rfl ?_
      obtain ⟨hi9, hf⟩ := gx_ck_some hf
      refine gx_iald C 43 0 (gx_w43 E _) rfl hi9 d_Mod_meets_49 ?_
      refine gx_aload_n C 0 d_Mod_meets_50 rfl rfl ?_
      refine gx_get C iw_Mod 29 (gx_w29 E _) rfl 20 (by decide) gw_694 rfl rfl d_Mod_meets_51 ?_
      refine gx_iload_n C 2 d_Mod_meets_54 rfl rfl ?_
      obtain ⟨hi10, hf⟩ := gx_ck_some hf
      refine gx_iald C 43 0 (gx_w43 E _) rfl hi10 d_Mod_meets_55 ?_
      refine gx_aload_n C 0 d_Mod_meets_56 rfl rfl ?_
      refine gx_get C iw_Mod 29 (gx_w29 E _) rfl 7 (by decide) gw_681 rfl rfl d_Mod_meets_57 ?_
      refine gx_iload_n C 2 d_Mod_meets_60 rfl rfl ?_
      obtain ⟨hi11, hf⟩ := gx_ck_some hf
      refine gx_iald C 33 0 (gx_w33 E _) rfl hi11 d_Mod_meets_61 ?_
      refine gx_iadd C d_Mod_meets_62 ?_
      refine gx_icmp_ge (tgt := 92) C d_Mod_meets_63 (by decide) (fun h12 => ?_) (fun h12 => ?_)
      · have hf := (if_pos h12).symm.trans hf
        refine gx_iconst C (v := 0) d_Mod_meets_92 (by decide) ?_
        cases hf
        exact gx_zret C hr hlk hk (by decide) d_Mod_meets_93
      · have hf := (if_neg h12).symm.trans hf
        refine gx_aload_n C 0 d_Mod_meets_66 rfl rfl ?_
        refine gx_get C iw_Mod 29 (gx_w29 E _) rfl 20 (by decide) gw_694 rfl rfl d_Mod_meets_67 ?_
        refine gx_iload_n C 2 d_Mod_meets_70 rfl rfl ?_
        obtain ⟨hi13, hf⟩ := gx_ck_some hf
        refine gx_iald C 43 0 (gx_w43 E _) rfl hi13 d_Mod_meets_71 ?_
        refine gx_aload_n C 0 d_Mod_meets_72 rfl rfl ?_
        refine gx_get C iw_Mod 29 (gx_w29 E _) rfl 20 (by decide) gw_694 rfl rfl d_Mod_meets_73 ?_
        refine gx_iload_n C 1 d_Mod_meets_76 rfl rfl ?_
        obtain ⟨hi14, hf⟩ := gx_ck_some hf
        refine gx_iald C 43 0 (gx_w43 E _) rfl hi14 d_Mod_meets_77 ?_
        refine gx_aload_n C 0 d_Mod_meets_78 rfl rfl ?_
        refine gx_get C iw_Mod 29 (gx_w29 E _) rfl 7 (by decide) gw_681 rfl rfl d_Mod_meets_79 ?_
        refine gx_iload_n C 1 d_Mod_meets_82 rfl rfl ?_
        obtain ⟨hi15, hf⟩ := gx_ck_some hf
        refine gx_iald C 33 0 (gx_w33 E _) rfl hi15 d_Mod_meets_83 ?_
        refine gx_iadd C d_Mod_meets_84 ?_
        refine gx_icmp_ge (tgt := 92) C d_Mod_meets_85 (by decide) (fun h16 => ?_) (fun h16 => ?_)
        · have hf := (if_pos h16).symm.trans hf
          refine gx_iconst C (v := 0) d_Mod_meets_92 (by decide) ?_
          cases hf
          exact gx_zret C hr hlk hk (by decide) d_Mod_meets_93
        · have hf := (if_neg h16).symm.trans hf
          refine gx_iconst C (v := 1) d_Mod_meets_88 (by decide) ?_
          refine gx_goto (tgt := 93) C d_Mod_meets_89 (by decide) ?_
          cases hf
          exact gx_zret C hr hlk hk (by decide) d_Mod_meets_93

def f_CaseLayoutModel_between (a0 : Int32) (a1 : Int32) (a2 : Int32) (a3 : Int32) (x : gx_S) : Option (Int32 × gx_S) :=
  if a2 < (a0 + a1) then (if a0 < (a2 + a3) then (some (0, x)) else (some ((a0 - a2) - a3, x))) else (some ((a2 - a0) - a1, x))
abbrev rm_CaseLayoutModel_between : Room := { frames := 0, cells := 0, slots := 0, locals := 0 }
set_option maxHeartbeats 4000000 in
set_option maxRecDepth 100000 in
theorem c_CaseLayoutModel_between (l : Launch) (a0 : Int32) (a1 : Int32) (a2 : Int32) (a3 : Int32) (x : gx_S) (o : Int32 × gx_S) (hf : f_CaseLayoutModel_between a0 a1 a2 a3 x = some o) : gx_Mi false l y_Mod_between prog_10_method_20_code 4 (some .int) rm_CaseLayoutModel_between (fun E => [.int a0, .int a1, .int a2, .int a3]) x o.1 o.2 := by
  refine gx_meti (own := "CaseLayoutModel") (by decide) rfl (fun E => Nat.le_of_ble_eq_true rfl) (fun K E hl0 hR hr hlk hk C => ?_)
  subst hl0
  unfold f_CaseLayoutModel_between at hf
  show gx_G K E _ 0 0 x 0 [(0, .int a0), (1, .int a1), (2, .int a2), (3, .int a3)] []
  refine gx_iload_n C 0 d_Mod_between_0 rfl rfl ?_
  refine gx_iload_n C 1 d_Mod_between_1 rfl rfl ?_
  refine gx_iadd C d_Mod_between_2 ?_
  refine gx_iload_n C 2 d_Mod_between_3 rfl rfl ?_
  refine gx_icmp_gt (tgt := 13) C d_Mod_between_4 (by decide) (fun h1 => ?_) (fun h1 => ?_)
  · have hf := (if_pos h1).symm.trans hf
    refine gx_iload_n C 2 d_Mod_between_13 rfl rfl ?_
    refine gx_iload_n C 3 d_Mod_between_14 rfl rfl ?_
    refine gx_iadd C d_Mod_between_15 ?_
    refine gx_iload_n C 0 d_Mod_between_16 rfl rfl ?_
    refine gx_icmp_gt (tgt := 28) C d_Mod_between_17 (by decide) (fun h2 => ?_) (fun h2 => ?_)
    · have hf := (if_pos h2).symm.trans hf
      refine gx_iconst C (v := 0) d_Mod_between_28 (by decide) ?_
      cases hf
      exact gx_iret C hr hlk hk d_Mod_between_29
    · have hf := (if_neg h2).symm.trans hf
      refine gx_iload_n C 0 d_Mod_between_20 rfl rfl ?_
      refine gx_iload_n C 2 d_Mod_between_21 rfl rfl ?_
      refine gx_isub C d_Mod_between_22 ?_
      refine gx_iload_n C 3 d_Mod_between_23 rfl rfl ?_
      refine gx_isub C d_Mod_between_24 ?_
      refine gx_goto (tgt := 29) C d_Mod_between_25 (by decide) ?_
      cases hf
      exact gx_iret C hr hlk hk d_Mod_between_29
  · have hf := (if_neg h1).symm.trans hf
    refine gx_iload_n C 2 d_Mod_between_7 rfl rfl ?_
    refine gx_iload_n C 0 d_Mod_between_8 rfl rfl ?_
    refine gx_isub C d_Mod_between_9 ?_
    refine gx_iload_n C 1 d_Mod_between_10 rfl rfl ?_
    refine gx_isub C d_Mod_between_11 ?_
    cases hf
    exact gx_iret C hr hlk hk d_Mod_between_12

def f_CaseLayoutModel_gap (a1 : Int32) (a2 : Int32) (x : gx_S) : Option (Int32 × gx_S) :=
  gx_ck a1 7 (gx_ck a1 7 (gx_ck a2 7 (gx_ck a2 7 (gx_bd (f_CaseLayoutModel_between (gx_gA x 32 (a1 : Int32).toNatClampNeg) (gx_gA x 22 (a1 : Int32).toNatClampNeg) (gx_gA x 32 (a2 : Int32).toNatClampNeg) (gx_gA x 22 (a2 : Int32).toNatClampNeg) x) (fun r5 x5 => gx_ck a1 7 (gx_ck a1 7 (gx_ck a2 7 (gx_ck a2 7 (gx_bd (f_CaseLayoutModel_between (gx_gA x5 33 (a1 : Int32).toNatClampNeg) (gx_gA x5 23 (a1 : Int32).toNatClampNeg) (gx_gA x5 33 (a2 : Int32).toNatClampNeg) (gx_gA x5 23 (a2 : Int32).toNatClampNeg) x5) (fun r10 x10 => if r5 ≤ r10 then (some (r10, x10)) else (some (r5, x10))))))))))))
abbrev rm_CaseLayoutModel_gap : Room := { frames := 1, cells := 0, slots := 0, locals := 23 }
set_option maxHeartbeats 4000000 in
set_option maxRecDepth 100000 in
theorem c_CaseLayoutModel_gap (l : Launch) (a1 : Int32) (a2 : Int32) (x : gx_S) (o : Int32 × gx_S) (hf : f_CaseLayoutModel_gap a1 a2 x = some o) : gx_Mi false l y_Mod_gap prog_10_method_21_code 5 (some .int) rm_CaseLayoutModel_gap (fun E => [.ref (gx_ad E 29), .int a1, .int a2]) x o.1 o.2 := by
  refine gx_meti (own := "CaseLayoutModel") (by decide) rfl (fun E => Nat.le_of_ble_eq_true rfl) (fun K E hl0 hR hr hlk hk C => ?_)
  subst hl0
  unfold f_CaseLayoutModel_gap at hf
  show gx_G K E _ 0 0 x 0 [(0, .ref (gx_ad E 29)), (1, .int a1), (2, .int a2)] []
  refine gx_aload_n C 0 d_Mod_gap_0 rfl rfl ?_
  refine gx_get C iw_Mod 29 (gx_w29 E _) rfl 19 (by decide) gw_693 rfl rfl d_Mod_gap_1 ?_
  refine gx_iload_n C 1 d_Mod_gap_4 rfl rfl ?_
  obtain ⟨hi1, hf⟩ := gx_ck_some hf
  refine gx_iald C 42 0 (gx_w42 E _) rfl hi1 d_Mod_gap_5 ?_
  refine gx_aload_n C 0 d_Mod_gap_6 rfl rfl ?_
  refine gx_get C iw_Mod 29 (gx_w29 E _) rfl 6 (by decide) gw_680 rfl rfl d_Mod_gap_7 ?_
  refine gx_iload_n C 1 d_Mod_gap_10 rfl rfl ?_
  obtain ⟨hi2, hf⟩ := gx_ck_some hf
  refine gx_iald C 32 0 (gx_w32 E _) rfl hi2 d_Mod_gap_11 ?_
  refine gx_aload_n C 0 d_Mod_gap_12 rfl rfl ?_
  refine gx_get C iw_Mod 29 (gx_w29 E _) rfl 19 (by decide) gw_693 rfl rfl d_Mod_gap_13 ?_
  refine gx_iload_n C 2 d_Mod_gap_16 rfl rfl ?_
  obtain ⟨hi3, hf⟩ := gx_ck_some hf
  refine gx_iald C 42 0 (gx_w42 E _) rfl hi3 d_Mod_gap_17 ?_
  refine gx_aload_n C 0 d_Mod_gap_18 rfl rfl ?_
  refine gx_get C iw_Mod 29 (gx_w29 E _) rfl 6 (by decide) gw_680 rfl rfl d_Mod_gap_19 ?_
  refine gx_iload_n C 2 d_Mod_gap_22 rfl rfl ?_
  obtain ⟨hi4, hf⟩ := gx_ck_some hf
  refine gx_iald C 32 0 (gx_w32 E _) rfl hi4 d_Mod_gap_23 ?_
  obtain ⟨r5, x5, hc5, hf⟩ := gx_bd_some hf
  refine gx_cSi (n2 := 0) (k2 := 0) C (As := [.int (gx_gA x 32 (a1 : Int32).toNatClampNeg), .int (gx_gA x 22 (a1 : Int32).toNatClampNeg), .int (gx_gA x 32 (a2 : Int32).toNatClampNeg), .int (gx_gA x 22 (a2 : Int32).toNatClampNeg)]) (rest := []) 4 (c_CaseLayoutModel_between K.l (gx_gA x 32 (a1 : Int32).toNatClampNeg) (gx_gA x 22 (a1 : Int32).toNatClampNeg) (gx_gA x 32 (a2 : Int32).toNatClampNeg) (gx_gA x 22 (a2 : Int32).toNatClampNeg) x _ hc5) (Or.inr rfl) rfl (gx_goodS gw_880 gw_881 gw_10 gw_882) (by decide +kernel) (by rw [hR]; decide) rfl rfl (Nat.le_of_ble_eq_true rfl) d_Mod_gap_24 (by rw [hR]; decide) rfl rfl ?_
  refine gx_istore_n C (lv' := [(3, .int r5), (0, .ref (gx_ad E 29)), (1, .int a1), (2, .int a2)]) d_Mod_gap_27 rfl (by decide) rfl ?_
  refine gx_aload_n C 1 d_Mod_gap_28 rfl rfl ?_
  refine gx_get C iw_Mod 29 (gx_w29 E _) rfl 20 (by decide) gw_694 rfl rfl d_Mod_gap_29 ?_
  refine gx_iload_n C 2 d_Mod_gap_32 rfl rfl ?_
  obtain ⟨hi6, hf⟩ := gx_ck_some hf
  refine gx_iald C 43 0 (gx_w43 E _) rfl hi6 d_Mod_gap_33 ?_
  refine gx_aload_n C 1 d_Mod_gap_34 rfl rfl ?_
  refine gx_get C iw_Mod 29 (gx_w29 E _) rfl 7 (by decide) gw_681 rfl rfl d_Mod_gap_35 ?_
  refine gx_iload_n C 2 d_Mod_gap_38 rfl rfl ?_
  obtain ⟨hi7, hf⟩ := gx_ck_some hf
  refine gx_iald C 33 0 (gx_w33 E _) rfl hi7 d_Mod_gap_39 ?_
  refine gx_aload_n C 1 d_Mod_gap_40 rfl rfl ?_
  refine gx_get C iw_Mod 29 (gx_w29 E _) rfl 20 (by decide) gw_694 rfl rfl d_Mod_gap_41 ?_
  refine gx_iload_n C 3 d_Mod_gap_44 rfl rfl ?_
  obtain ⟨hi8, hf⟩ := gx_ck_some hf
  refine gx_iald C 43 0 (gx_w43 E _) rfl hi8 d_Mod_gap_45 ?_
  refine gx_aload_n C 1 d_Mod_gap_46 rfl rfl ?_
  refine gx_get C iw_Mod 29 (gx_w29 E _) rfl 7 (by decide) gw_681 rfl rfl d_Mod_gap_47 ?_
  refine gx_iload_n C 3 d_Mod_gap_50 rfl rfl ?_
  obtain ⟨hi9, hf⟩ := gx_ck_some hf
  refine gx_iald C 33 0 (gx_w33 E _) rfl hi9 d_Mod_gap_51 ?_
  obtain ⟨r10, x10, hc10, hf⟩ := gx_bd_some hf
  refine gx_cSi (n2 := 0) (k2 := 0) C (As := [.int (gx_gA x5 33 (a1 : Int32).toNatClampNeg), .int (gx_gA x5 23 (a1 : Int32).toNatClampNeg), .int (gx_gA x5 33 (a2 : Int32).toNatClampNeg), .int (gx_gA x5 23 (a2 : Int32).toNatClampNeg)]) (rest := []) 4 (c_CaseLayoutModel_between K.l (gx_gA x5 33 (a1 : Int32).toNatClampNeg) (gx_gA x5 23 (a1 : Int32).toNatClampNeg) (gx_gA x5 33 (a2 : Int32).toNatClampNeg) (gx_gA x5 23 (a2 : Int32).toNatClampNeg) x5 _ hc10) (Or.inr rfl) rfl (gx_goodS gw_880 gw_881 gw_10 gw_882) (by decide +kernel) (by rw [hR]; decide) rfl rfl (Nat.le_of_ble_eq_true rfl) d_Mod_gap_52 (by rw [hR]; decide) rfl rfl ?_
  refine gx_istore C (lv' := [(4, .int r10), (3, .int r5), (0, .ref (gx_ad E 29)), (1, .int a1), (2, .int a2)]) d_Mod_gap_55 (by decide) rfl ?_
  refine gx_iload_n C 1 d_Mod_gap_57 rfl rfl ?_
  refine gx_iload C 0 d_Mod_gap_58 rfl ?_
  refine gx_icmp_le (tgt := 67) C d_Mod_gap_60 (by decide) (fun h11 => ?_) (fun h11 => ?_)
  · have hf := (if_pos h11).symm.trans hf
    refine gx_iload C 0 d_Mod_gap_67 rfl ?_
    cases hf
    exact gx_iret C hr hlk hk d_Mod_gap_69
  · have hf := (if_neg h11).symm.trans hf
    refine gx_iload_n C 1 d_Mod_gap_63 rfl rfl ?_
    refine gx_goto (tgt := 69) C d_Mod_gap_64 (by decide) ?_
    cases hf
    exact gx_iret C hr hlk hk d_Mod_gap_69

def s_CaseLayoutModel_lies_46 (v1 : Int32) (a : Int32 × Int32 × gx_S) : Option ((Int32 × Int32 × gx_S) ⊕ (Nat × Int32 × Int32 × gx_S)) :=
  gx_ck v1 7 (gx_ck v1 7 (if ((gx_gA a.2.2 22 (v1 : Int32).toNatClampNeg) * (gx_gA a.2.2 23 (v1 : Int32).toNatClampNeg)) ≤ a.2.1 then (some (.inr (0, a.1, a.2.1, a.2.2))) else (gx_ck v1 7 (gx_ck v1 7 (gx_nz (gx_gA a.2.2 22 (v1 : Int32).toNatClampNeg) (gx_ck v1 7 (gx_ck v1 7 (gx_nz (gx_gA a.2.2 22 (v1 : Int32).toNatClampNeg) (if a.1 = 0 then (some (.inl (0, a.2.1 + 1, a.2.2))) else (gx_ck (((9 * ((gx_gA a.2.2 33 (v1 : Int32).toNatClampNeg) + (a.2.1 / (gx_gA a.2.2 22 (v1 : Int32).toNatClampNeg)))) + (gx_gA a.2.2 32 (v1 : Int32).toNatClampNeg)) + (a.2.1 - a.2.1 / (gx_gA a.2.2 22 (v1 : Int32).toNatClampNeg) * (gx_gA a.2.2 22 (v1 : Int32).toNatClampNeg))) 81 (if (gx_gA a.2.2 20 (((9 * ((gx_gA a.2.2 33 (v1 : Int32).toNatClampNeg) + (a.2.1 / (gx_gA a.2.2 22 (v1 : Int32).toNatClampNeg)))) + (gx_gA a.2.2 32 (v1 : Int32).toNatClampNeg)) + (a.2.1 - a.2.1 / (gx_gA a.2.2 22 (v1 : Int32).toNatClampNeg) * (gx_gA a.2.2 22 (v1 : Int32).toNatClampNeg)) : Int32).toNatClampNeg) = 0 then (gx_ck v1 7 (if (gx_gA a.2.2 24 (v1 : Int32).toNatClampNeg) = 0 then (some (.inl (1, a.2.1 + 1, a.2.2))) else (gx_ck (((9 * ((gx_gA a.2.2 33 (v1 : Int32).toNatClampNeg) + (a.2.1 / (gx_gA a.2.2 22 (v1 : Int32).toNatClampNeg)))) + (gx_gA a.2.2 32 (v1 : Int32).toNatClampNeg)) + (a.2.1 - a.2.1 / (gx_gA a.2.2 22 (v1 : Int32).toNatClampNeg) * (gx_gA a.2.2 22 (v1 : Int32).toNatClampNeg))) 81 (gx_ck v1 7 (if (gx_gA a.2.2 21 (((9 * ((gx_gA a.2.2 33 (v1 : Int32).toNatClampNeg) + (a.2.1 / (gx_gA a.2.2 22 (v1 : Int32).toNatClampNeg)))) + (gx_gA a.2.2 32 (v1 : Int32).toNatClampNeg)) + (a.2.1 - a.2.1 / (gx_gA a.2.2 22 (v1 : Int32).toNatClampNeg) * (gx_gA a.2.2 22 (v1 : Int32).toNatClampNeg)) : Int32).toNatClampNeg) = (gx_gA a.2.2 24 (v1 : Int32).toNatClampNeg) then (some (.inl (1, a.2.1 + 1, a.2.2))) else (some (.inl (0, a.2.1 + 1, a.2.2)))))))) else (some (.inl (0, a.2.1 + 1, a.2.2))))))))))))))
def s_CaseLayoutModel_lies_152 (v1 : Int32) (a : Int32 × Int32 × gx_S) : Option ((Int32 × Int32 × gx_S) ⊕ (Nat × Int32 × Int32 × gx_S)) :=
  if v1 ≤ a.2.1 then (some (.inr (0, a.1, a.2.1, a.2.2))) else (if a.1 = 0 then (some (.inl (0, a.2.1 + 1, a.2.2))) else (gx_bd (f_CaseLayoutModel_meets a.2.1 v1 a.2.2) (fun r27 x27 => if r27 = 0 then (gx_bd (f_CaseLayoutModel_gap a.2.1 v1 x27) (fun r29 x29 => gx_ck ((7 * a.2.1) + v1) 49 (if r29 < (gx_gA x29 25 ((7 * a.2.1) + v1 : Int32).toNatClampNeg) then (some (.inl (0, a.2.1 + 1, x29))) else (some (.inl (1, a.2.1 + 1, x29)))))) else (some (.inl (0, a.2.1 + 1, x27))))))
def f_CaseLayoutModel_lies (a1 : Int32) (x : gx_S) : Option (Int32 × gx_S) :=
  gx_ck a1 7 (gx_ck a1 7 (if (gx_gI x 12) < ((gx_gA x 32 (a1 : Int32).toNatClampNeg) + (gx_gA x 22 (a1 : Int32).toNatClampNeg)) then (some (0, x)) else (gx_ck a1 7 (gx_ck a1 7 (if ((gx_gA x 33 (a1 : Int32).toNatClampNeg) + (gx_gA x 23 (a1 : Int32).toNatClampNeg)) ≤ (gx_gI x 13) then (gx_bl (gx_it (s_CaseLayoutModel_lies_46 a1) gx_fuel (1, 0, x)) (fun e24 => gx_bl (gx_it (s_CaseLayoutModel_lies_152 a1) gx_fuel (e24.2.1, 0, e24.2.2.2)) (fun e32 => gx_nb e32.2.1 (some (e32.2.1, e32.2.2.2))))) else (some (0, x)))))))
abbrev rm_CaseLayoutModel_lies : Room := { frames := 2, cells := 0, slots := 0, locals := 47 }
def pp_CaseLayoutModel_lies_46 (K : gx_K) (E : gx_E) (v1 : Int32) (a : Int32 × Int32 × gx_S) : Prop := gx_G K E (gx_AB false E K.s.heap.size) 0 0 (a.2.2) 46 [(0, .ref (gx_ad E 29)), (1, .int v1), (2, .int a.1), (3, .int a.2.1)] []
def pq_CaseLayoutModel_lies_46 (K : gx_K) (E : gx_E) (v1 : Int32) (b : Nat × Int32 × Int32 × gx_S) : Prop := gx_G K E (gx_AB false E K.s.heap.size) 0 0 (b.2.2.2) 150 [(0, .ref (gx_ad E 29)), (1, .int v1), (2, .int b.2.1)] []
def pp_CaseLayoutModel_lies_152 (K : gx_K) (E : gx_E) (v1 : Int32) (a : Int32 × Int32 × gx_S) : Prop := gx_G K E (gx_AB false E K.s.heap.size) 0 0 (a.2.2) 152 [(0, .ref (gx_ad E 29)), (1, .int v1), (2, .int a.1), (3, .int a.2.1)] []
def pq_CaseLayoutModel_lies_152 (K : gx_K) (E : gx_E) (v1 : Int32) (b : Nat × Int32 × Int32 × gx_S) : Prop := gx_G K E (gx_AB false E K.s.heap.size) 0 0 (b.2.2.2) 202 [(2, .int b.2.1)] []
set_option maxHeartbeats 4000000 in
set_option maxRecDepth 100000 in
theorem sc_CaseLayoutModel_lies_46 {K : gx_K} {E : gx_E} (C : gx_C K E "CaseLayoutModel" prog_10_method_24_code 5) (hR : K.R = rm_CaseLayoutModel_lies) (hr : K.meth.sig.returnType = (some .boolean)) (hlk : K.meth.locks = false) (v1 : Int32) (a : Int32 × Int32 × gx_S) (o : (Int32 × Int32 × gx_S) ⊕ (Nat × Int32 × Int32 × gx_S)) (hf : s_CaseLayoutModel_lies_46 v1 a = some o) (hk : gx_or (pp_CaseLayoutModel_lies_46 K E v1) (pq_CaseLayoutModel_lies_46 K E v1) o) : pp_CaseLayoutModel_lies_46 K E v1 a := by
  unfold s_CaseLayoutModel_lies_46 at hf
  unfold pp_CaseLayoutModel_lies_46
  refine gx_iload_n C 3 d_Mod_lies_46 rfl rfl ?_
  refine gx_aload_n C 0 d_Mod_lies_47 rfl rfl ?_
  refine gx_get C iw_Mod 29 (gx_w29 E _) rfl 6 (by decide) gw_680 rfl rfl d_Mod_lies_48 ?_
  refine gx_iload_n C 1 d_Mod_lies_51 rfl rfl ?_
  obtain ⟨hi7, hf⟩ := gx_ck_some hf
  refine gx_iald C 32 0 (gx_w32 E _) rfl hi7 d_Mod_lies_52 ?_
  refine gx_aload_n C 0 d_Mod_lies_53 rfl rfl ?_
  refine gx_get C iw_Mod 29 (gx_w29 E _) rfl 7 (by decide) gw_681 rfl rfl d_Mod_lies_54 ?_
  refine gx_iload_n C 1 d_Mod_lies_57 rfl rfl ?_
  obtain ⟨hi8, hf⟩ := gx_ck_some hf
  refine gx_iald C 33 0 (gx_w33 E _) rfl hi8 d_Mod_lies_58 ?_
  refine gx_imul C d_Mod_lies_59 ?_
  refine gx_icmp_ge (tgt := 150) C d_Mod_lies_60 (by decide) (fun h9 => ?_) (fun h9 => ?_)
  · have hf := (if_pos h9).symm.trans hf
    cases hf
    have hk : pq_CaseLayoutModel_lies_46 K E v1 _ := hk
    unfold pq_CaseLayoutModel_lies_46 at hk
    refine gx_lv (lv' := [(0, .ref (gx_ad E 29)), (1, .int v1), (2, .int a.1)]) [0, 1, 2] rfl ?_
    exact hk
  · have hf := (if_neg h9).symm.trans hf
    refine gx_bipush C (v := 9) d_Mod_lies_63 (by decide) ?_
    refine gx_aload_n C 0 d_Mod_lies_65 rfl rfl ?_
    refine gx_get C iw_Mod 29 (gx_w29 E _) rfl 20 (by decide) gw_694 rfl rfl d_Mod_lies_66 ?_
    refine gx_iload_n C 1 d_Mod_lies_69 rfl rfl ?_
    obtain ⟨hi10, hf⟩ := gx_ck_some hf
    refine gx_iald C 43 0 (gx_w43 E _) rfl hi10 d_Mod_lies_70 ?_
    refine gx_iload_n C 3 d_Mod_lies_71 rfl rfl ?_
    refine gx_aload_n C 0 d_Mod_lies_72 rfl rfl ?_
    refine gx_get C iw_Mod 29 (gx_w29 E _) rfl 6 (by decide) gw_680 rfl rfl d_Mod_lies_73 ?_
    refine gx_iload_n C 1 d_Mod_lies_76 rfl rfl ?_
    obtain ⟨hi11, hf⟩ := gx_ck_some hf
    refine gx_iald C 32 0 (gx_w32 E _) rfl hi11 d_Mod_lies_77 ?_
    obtain ⟨hz12, hf⟩ := gx_nz_some hf
    refine gx_idiv C d_Mod_lies_78 hz12 ?_
    refine gx_iadd C d_Mod_lies_79 ?_
    refine gx_imul C d_Mod_lies_80 ?_
    refine gx_aload_n C 0 d_Mod_lies_81 rfl rfl ?_
    refine gx_get C iw_Mod 29 (gx_w29 E _) rfl 19 (by decide) gw_693 rfl rfl d_Mod_lies_82 ?_
    refine gx_iload_n C 1 d_Mod_lies_85 rfl rfl ?_
    obtain ⟨hi13, hf⟩ := gx_ck_some hf
    refine gx_iald C 42 0 (gx_w42 E _) rfl hi13 d_Mod_lies_86 ?_
    refine gx_iadd C d_Mod_lies_87 ?_
    refine gx_iload_n C 3 d_Mod_lies_88 rfl rfl ?_
    refine gx_aload_n C 0 d_Mod_lies_89 rfl rfl ?_
    refine gx_get C iw_Mod 29 (gx_w29 E _) rfl 6 (by decide) gw_680 rfl rfl d_Mod_lies_90 ?_
    refine gx_iload_n C 1 d_Mod_lies_93 rfl rfl ?_
    obtain ⟨hi14, hf⟩ := gx_ck_some hf
    refine gx_iald C 32 0 (gx_w32 E _) rfl hi14 d_Mod_lies_94 ?_
    obtain ⟨hz15, hf⟩ := gx_nz_some hf
    refine gx_irem C d_Mod_lies_95 hz15 ?_
    refine gx_iadd C d_Mod_lies_96 ?_
    refine gx_istore C (lv' := [(4, .int (((9 * ((gx_gA a.2.2 33 (v1 : Int32).toNatClampNeg) + (a.2.1 / (gx_gA a.2.2 22 (v1 : Int32).toNatClampNeg)))) + (gx_gA a.2.2 32 (v1 : Int32).toNatClampNeg)) + (a.2.1 - a.2.1 / (gx_gA a.2.2 22 (v1 : Int32).toNatClampNeg) * (gx_gA a.2.2 22 (v1 : Int32).toNatClampNeg)))), (0, .ref (gx_ad E 29)), (1, .int v1), (2, .int a.1), (3, .int a.2.1)]) d_Mod_lies_97 (by decide) rfl ?_
    refine gx_iload_n C 3 d_Mod_lies_99 rfl rfl ?_
    refine gx_if_eq (tgt := 142) C d_Mod_lies_100 (by decide) (fun h16 => ?_) (fun h16 => ?_)
    · have hf := (if_pos h16).symm.trans hf
      refine gx_iconst C (v := 0) d_Mod_lies_142 (by decide) ?_
      refine gx_istore_n C (lv' := [(2, .int 0), (4, .int (((9 * ((gx_gA a.2.2 33 (v1 : Int32).toNatClampNeg) + (a.2.1 / (gx_gA a.2.2 22 (v1 : Int32).toNatClampNeg)))) + (gx_gA a.2.2 32 (v1 : Int32).toNatClampNeg)) + (a.2.1 - a.2.1 / (gx_gA a.2.2 22 (v1 : Int32).toNatClampNeg) * (gx_gA a.2.2 22 (v1 : Int32).toNatClampNeg)))), (0, .ref (gx_ad E 29)), (1, .int v1), (3, .int a.2.1)]) d_Mod_lies_143 rfl (by decide) rfl ?_
      refine gx_iinc C (v := a.2.1 + 1) (lv' := [(3, .int (a.2.1 + 1)), (2, .int 0), (4, .int (((9 * ((gx_gA a.2.2 33 (v1 : Int32).toNatClampNeg) + (a.2.1 / (gx_gA a.2.2 22 (v1 : Int32).toNatClampNeg)))) + (gx_gA a.2.2 32 (v1 : Int32).toNatClampNeg)) + (a.2.1 - a.2.1 / (gx_gA a.2.2 22 (v1 : Int32).toNatClampNeg) * (gx_gA a.2.2 22 (v1 : Int32).toNatClampNeg)))), (0, .ref (gx_ad E 29)), (1, .int v1)]) 4 d_Mod_lies_144 rfl rfl (by decide) rfl ?_
      refine gx_goto (tgt := 46) C d_Mod_lies_147 (by decide) ?_
      cases hf
      refine gx_lv (lv' := [(0, .ref (gx_ad E 29)), (1, .int v1), (2, .int 0), (3, .int (a.2.1 + 1))]) [3, 4, 1, 0] rfl ?_
      exact hk
    · have hf := (if_neg h16).symm.trans hf
      refine gx_aload_n C 1 d_Mod_lies_103 rfl rfl ?_
      refine gx_get C iw_Mod 29 (gx_w29 E _) rfl 3 (by decide) gw_677 rfl rfl d_Mod_lies_104 ?_
      refine gx_iload C 0 d_Mod_lies_107 rfl ?_
      obtain ⟨hi17, hf⟩ := gx_ck_some hf
      refine gx_zald C 30 1 (gx_w30 E _) rfl hi17 d_Mod_lies_109 ?_
      refine gx_if_ne (tgt := 142) C d_Mod_lies_110 (by decide) (fun h18 => ?_) (fun h18 => ?_)
      · have hf := (if_neg h18).symm.trans hf
        refine gx_iconst C (v := 0) d_Mod_lies_142 (by decide) ?_
        refine gx_istore_n C (lv' := [(2, .int 0), (4, .int (((9 * ((gx_gA a.2.2 33 (v1 : Int32).toNatClampNeg) + (a.2.1 / (gx_gA a.2.2 22 (v1 : Int32).toNatClampNeg)))) + (gx_gA a.2.2 32 (v1 : Int32).toNatClampNeg)) + (a.2.1 - a.2.1 / (gx_gA a.2.2 22 (v1 : Int32).toNatClampNeg) * (gx_gA a.2.2 22 (v1 : Int32).toNatClampNeg)))), (0, .ref (gx_ad E 29)), (1, .int v1), (3, .int a.2.1)]) d_Mod_lies_143 rfl (by decide) rfl ?_
        refine gx_iinc C (v := a.2.1 + 1) (lv' := [(3, .int (a.2.1 + 1)), (2, .int 0), (4, .int (((9 * ((gx_gA a.2.2 33 (v1 : Int32).toNatClampNeg) + (a.2.1 / (gx_gA a.2.2 22 (v1 : Int32).toNatClampNeg)))) + (gx_gA a.2.2 32 (v1 : Int32).toNatClampNeg)) + (a.2.1 - a.2.1 / (gx_gA a.2.2 22 (v1 : Int32).toNatClampNeg) * (gx_gA a.2.2 22 (v1 : Int32).toNatClampNeg)))), (0, .ref (gx_ad E 29)), (1, .int v1)]) 4 d_Mod_lies_144 rfl rfl (by decide) rfl ?_
        refine gx_goto (tgt := 46) C d_Mod_lies_147 (by decide) ?_
        cases hf
        refine gx_lv (lv' := [(0, .ref (gx_ad E 29)), (1, .int v1), (2, .int 0), (3, .int (a.2.1 + 1))]) [3, 4, 1, 0] rfl ?_
        exact hk
      · have hf := (if_pos h18).symm.trans hf
        refine gx_aload_n C 1 d_Mod_lies_113 rfl rfl ?_
        refine gx_get C iw_Mod 29 (gx_w29 E _) rfl 8 (by decide) gw_682 rfl rfl d_Mod_lies_114 ?_
        refine gx_iload_n C 2 d_Mod_lies_117 rfl rfl ?_
        obtain ⟨hi19, hf⟩ := gx_ck_some hf
        refine gx_iald C 34 0 (gx_w34 E _) rfl hi19 d_Mod_lies_118 ?_
        refine gx_if_eq (tgt := 138) C d_Mod_lies_119 (by decide) (fun h20 => ?_) (fun h20 => ?_)
        · have hf := (if_pos h20).symm.trans hf
          refine gx_iconst C (v := 1) d_Mod_lies_138 (by decide) ?_
          refine gx_goto (tgt := 143) C d_Mod_lies_139 (by decide) ?_
          refine gx_istore_n C (lv' := [(2, .int 1), (4, .int (((9 * ((gx_gA a.2.2 33 (v1 : Int32).toNatClampNeg) + (a.2.1 / (gx_gA a.2.2 22 (v1 : Int32).toNatClampNeg)))) + (gx_gA a.2.2 32 (v1 : Int32).toNatClampNeg)) + (a.2.1 - a.2.1 / (gx_gA a.2.2 22 (v1 : Int32).toNatClampNeg) * (gx_gA a.2.2 22 (v1 : Int32).toNatClampNeg)))), (0, .ref (gx_ad E 29)), (1, .int v1), (3, .int a.2.1)]) d_Mod_lies_143 rfl (by decide) rfl ?_
          refine gx_iinc C (v := a.2.1 + 1) (lv' := [(3, .int (a.2.1 + 1)), (2, .int 1), (4, .int (((9 * ((gx_gA a.2.2 33 (v1 : Int32).toNatClampNeg) + (a.2.1 / (gx_gA a.2.2 22 (v1 : Int32).toNatClampNeg)))) + (gx_gA a.2.2 32 (v1 : Int32).toNatClampNeg)) + (a.2.1 - a.2.1 / (gx_gA a.2.2 22 (v1 : Int32).toNatClampNeg) * (gx_gA a.2.2 22 (v1 : Int32).toNatClampNeg)))), (0, .ref (gx_ad E 29)), (1, .int v1)]) 4 d_Mod_lies_144 rfl rfl (by decide) rfl ?_
          refine gx_goto (tgt := 46) C d_Mod_lies_147 (by decide) ?_
          cases hf
          refine gx_lv (lv' := [(0, .ref (gx_ad E 29)), (1, .int v1), (2, .int 1), (3, .int (a.2.1 + 1))]) [3, 4, 1, 0] rfl ?_
          exact hk
        · have hf := (if_neg h20).symm.trans hf
          refine gx_aload_n C 1 d_Mod_lies_122 rfl rfl ?_
          refine gx_get C iw_Mod 29 (gx_w29 E _) rfl 4 (by decide) gw_678 rfl rfl d_Mod_lies_123 ?_
          refine gx_iload C 0 d_Mod_lies_126 rfl ?_
          obtain ⟨hi21, hf⟩ := gx_ck_some hf
          refine gx_iald C 31 0 (gx_w31 E _) rfl hi21 d_Mod_lies_128 ?_
          refine gx_aload_n C 1 d_Mod_lies_129 rfl rfl ?_
          refine gx_get C iw_Mod 29 (gx_w29 E _) rfl 8 (by decide) gw_682 rfl rfl d_Mod_lies_130 ?_
          refine gx_iload_n C 2 d_Mod_lies_133 rfl rfl ?_
          obtain ⟨hi22, hf⟩ := gx_ck_some hf
          refine gx_iald C 34 0 (gx_w34 E _) rfl hi22 d_Mod_lies_134 ?_
          refine gx_icmp_ne (tgt := 142) C d_Mod_lies_135 (by decide) (fun h23 => ?_) (fun h23 => ?_)
          · have hf := (if_neg h23).symm.trans hf
            refine gx_iconst C (v := 0) d_Mod_lies_142 (by decide) ?_
            refine gx_istore_n C (lv' := [(2, .int 0), (4, .int (((9 * ((gx_gA a.2.2 33 (v1 : Int32).toNatClampNeg) + (a.2.1 / (gx_gA a.2.2 22 (v1 : Int32).toNatClampNeg)))) + (gx_gA a.2.2 32 (v1 : Int32).toNatClampNeg)) + (a.2.1 - a.2.1 / (gx_gA a.2.2 22 (v1 : Int32).toNatClampNeg) * (gx_gA a.2.2 22 (v1 : Int32).toNatClampNeg)))), (0, .ref (gx_ad E 29)), (1, .int v1), (3, .int a.2.1)]) d_Mod_lies_143 rfl (by decide) rfl ?_
            refine gx_iinc C (v := a.2.1 + 1) (lv' := [(3, .int (a.2.1 + 1)), (2, .int 0), (4, .int (((9 * ((gx_gA a.2.2 33 (v1 : Int32).toNatClampNeg) + (a.2.1 / (gx_gA a.2.2 22 (v1 : Int32).toNatClampNeg)))) + (gx_gA a.2.2 32 (v1 : Int32).toNatClampNeg)) + (a.2.1 - a.2.1 / (gx_gA a.2.2 22 (v1 : Int32).toNatClampNeg) * (gx_gA a.2.2 22 (v1 : Int32).toNatClampNeg)))), (0, .ref (gx_ad E 29)), (1, .int v1)]) 4 d_Mod_lies_144 rfl rfl (by decide) rfl ?_
            refine gx_goto (tgt := 46) C d_Mod_lies_147 (by decide) ?_
            cases hf
            refine gx_lv (lv' := [(0, .ref (gx_ad E 29)), (1, .int v1), (2, .int 0), (3, .int (a.2.1 + 1))]) [3, 4, 1, 0] rfl ?_
            exact hk
          · have hf := (if_pos h23).symm.trans hf
            refine gx_iconst C (v := 1) d_Mod_lies_138 (by decide) ?_
            refine gx_goto (tgt := 143) C d_Mod_lies_139 (by decide) ?_
            refine gx_istore_n C (lv' := [(2, .int 1), (4, .int (((9 * ((gx_gA a.2.2 33 (v1 : Int32).toNatClampNeg) + (a.2.1 / (gx_gA a.2.2 22 (v1 : Int32).toNatClampNeg)))) + (gx_gA a.2.2 32 (v1 : Int32).toNatClampNeg)) + (a.2.1 - a.2.1 / (gx_gA a.2.2 22 (v1 : Int32).toNatClampNeg) * (gx_gA a.2.2 22 (v1 : Int32).toNatClampNeg)))), (0, .ref (gx_ad E 29)), (1, .int v1), (3, .int a.2.1)]) d_Mod_lies_143 rfl (by decide) rfl ?_
            refine gx_iinc C (v := a.2.1 + 1) (lv' := [(3, .int (a.2.1 + 1)), (2, .int 1), (4, .int (((9 * ((gx_gA a.2.2 33 (v1 : Int32).toNatClampNeg) + (a.2.1 / (gx_gA a.2.2 22 (v1 : Int32).toNatClampNeg)))) + (gx_gA a.2.2 32 (v1 : Int32).toNatClampNeg)) + (a.2.1 - a.2.1 / (gx_gA a.2.2 22 (v1 : Int32).toNatClampNeg) * (gx_gA a.2.2 22 (v1 : Int32).toNatClampNeg)))), (0, .ref (gx_ad E 29)), (1, .int v1)]) 4 d_Mod_lies_144 rfl rfl (by decide) rfl ?_
            refine gx_goto (tgt := 46) C d_Mod_lies_147 (by decide) ?_
            cases hf
            refine gx_lv (lv' := [(0, .ref (gx_ad E 29)), (1, .int v1), (2, .int 1), (3, .int (a.2.1 + 1))]) [3, 4, 1, 0] rfl ?_
            exact hk
set_option maxHeartbeats 4000000 in
set_option maxRecDepth 100000 in
theorem sc_CaseLayoutModel_lies_152 {K : gx_K} {E : gx_E} (C : gx_C K E "CaseLayoutModel" prog_10_method_24_code 5) (hR : K.R = rm_CaseLayoutModel_lies) (hr : K.meth.sig.returnType = (some .boolean)) (hlk : K.meth.locks = false) (v1 : Int32) (a : Int32 × Int32 × gx_S) (o : (Int32 × Int32 × gx_S) ⊕ (Nat × Int32 × Int32 × gx_S)) (hf : s_CaseLayoutModel_lies_152 v1 a = some o) (hk : gx_or (pp_CaseLayoutModel_lies_152 K E v1) (pq_CaseLayoutModel_lies_152 K E v1) o) : pp_CaseLayoutModel_lies_152 K E v1 a := by
  unfold s_CaseLayoutModel_lies_152 at hf
  unfold pp_CaseLayoutModel_lies_152
  refine gx_iload_n C 3 d_Mod_lies_152 rfl rfl ?_
  refine gx_iload_n C 1 d_Mod_lies_153 rfl rfl ?_
  refine gx_icmp_ge (tgt := 202) C d_Mod_lies_154 (by decide) (fun h25 => ?_) (fun h25 => ?_)
  · have hf := (if_pos h25).symm.trans hf
    cases hf
    have hk : pq_CaseLayoutModel_lies_152 K E v1 _ := hk
    unfold pq_CaseLayoutModel_lies_152 at hk
    refine gx_lv (lv' := [(2, .int a.1)]) [2] rfl ?_
    exact hk
  · have hf := (if_neg h25).symm.trans hf
    refine gx_iload_n C 2 d_Mod_lies_157 rfl rfl ?_
    refine gx_if_eq (tgt := 194) C d_Mod_lies_158 (by decide) (fun h26 => ?_) (fun h26 => ?_)
    · have hf := (if_pos h26).symm.trans hf
      refine gx_iconst C (v := 0) d_Mod_lies_194 (by decide) ?_
      refine gx_istore_n C (lv' := [(2, .int 0), (0, .ref (gx_ad E 29)), (1, .int v1), (3, .int a.2.1)]) d_Mod_lies_195 rfl (by decide) rfl ?_
      refine gx_iinc C (v := a.2.1 + 1) (lv' := [(3, .int (a.2.1 + 1)), (2, .int 0), (0, .ref (gx_ad E 29)), (1, .int v1)]) 3 d_Mod_lies_196 rfl rfl (by decide) rfl ?_
      refine gx_goto (tgt := 152) C d_Mod_lies_199 (by decide) ?_
      cases hf
      refine gx_lv (lv' := [(0, .ref (gx_ad E 29)), (1, .int v1), (2, .int 0), (3, .int (a.2.1 + 1))]) [2, 3, 1, 0] rfl ?_
      exact hk
    · have hf := (if_neg h26).symm.trans hf
      refine gx_aload_n C 0 d_Mod_lies_161 rfl rfl ?_
      refine gx_iload_n C 3 d_Mod_lies_162 rfl rfl ?_
      refine gx_iload_n C 1 d_Mod_lies_163 rfl rfl ?_
      obtain ⟨r27, x27, hc27, hf⟩ := gx_bd_some hf
      refine gx_cVi (n2 := 0) (k2 := 0) C (As := [.int a.2.1, .int v1]) (rest := []) 29 2 (c_CaseLayoutModel_meets K.l a.2.1 v1 a.2.2 _ hc27) (Or.inr rfl) rfl (gx_goodV gw_887 gw_889 gs_34 gw_10 gw_890) (by decide +kernel) (gx_w29 E _) rfl (by rw [hR]; decide) rfl rfl (Nat.le_of_ble_eq_true rfl) d_Mod_lies_164 (by rw [hR]; decide) rfl rfl ?_
      refine gx_if_ne (tgt := 194) C d_Mod_lies_167 (by decide) (fun h28 => ?_) (fun h28 => ?_)
      · have hf := (if_neg h28).symm.trans hf
        refine gx_iconst C (v := 0) d_Mod_lies_194 (by decide) ?_
        refine gx_istore_n C (lv' := [(2, .int 0), (0, .ref (gx_ad E 29)), (1, .int v1), (3, .int a.2.1)]) d_Mod_lies_195 rfl (by decide) rfl ?_
        refine gx_iinc C (v := a.2.1 + 1) (lv' := [(3, .int (a.2.1 + 1)), (2, .int 0), (0, .ref (gx_ad E 29)), (1, .int v1)]) 3 d_Mod_lies_196 rfl rfl (by decide) rfl ?_
        refine gx_goto (tgt := 152) C d_Mod_lies_199 (by decide) ?_
        cases hf
        refine gx_lv (lv' := [(0, .ref (gx_ad E 29)), (1, .int v1), (2, .int 0), (3, .int (a.2.1 + 1))]) [2, 3, 1, 0] rfl ?_
        exact hk
      · have hf := (if_pos h28).symm.trans hf
        refine gx_aload_n C 0 d_Mod_lies_170 rfl rfl ?_
        refine gx_iload_n C 3 d_Mod_lies_171 rfl rfl ?_
        refine gx_iload_n C 1 d_Mod_lies_172 rfl rfl ?_
        obtain ⟨r29, x29, hc29, hf⟩ := gx_bd_some hf
        refine gx_cVi (n2 := 0) (k2 := 0) C (As := [.int a.2.1, .int v1]) (rest := []) 29 2 (c_CaseLayoutModel_gap K.l a.2.1 v1 x27 _ hc29) (Or.inr rfl) rfl (gx_goodV gw_876 gw_878 gs_32 gw_10 gw_879) (by decide +kernel) (gx_w29 E _) rfl (by rw [hR]; decide) rfl rfl (Nat.le_of_ble_eq_true rfl) d_Mod_lies_173 (by rw [hR]; decide) rfl rfl ?_
        refine gx_aload_n C 0 d_Mod_lies_176 rfl rfl ?_
        refine gx_get C iw_Mod 29 (gx_w29 E _) rfl 9 (by decide) gw_683 rfl rfl d_Mod_lies_177 ?_
        refine gx_bipush C (v := 7) d_Mod_lies_180 (by decide) ?_
        refine gx_iload_n C 3 d_Mod_lies_182 rfl rfl ?_
        refine gx_imul C d_Mod_lies_183 ?_
        refine gx_iload_n C 1 d_Mod_lies_184 rfl rfl ?_
        refine gx_iadd C d_Mod_lies_185 ?_
        obtain ⟨hi30, hf⟩ := gx_ck_some hf
        refine gx_iald C 35 0 (gx_w35 E _) rfl hi30 d_Mod_lies_186 ?_
        refine gx_icmp_lt (tgt := 194) C d_Mod_lies_187 (by decide) (fun h31 => ?_) (fun h31 => ?_)
        · have hf := (if_pos h31).symm.trans hf
          refine gx_iconst C (v := 0) d_Mod_lies_194 (by decide) ?_
          refine gx_istore_n C (lv' := [(2, .int 0), (0, .ref (gx_ad E 29)), (1, .int v1), (3, .int a.2.1)]) d_Mod_lies_195 rfl (by decide) rfl ?_
          refine gx_iinc C (v := a.2.1 + 1) (lv' := [(3, .int (a.2.1 + 1)), (2, .int 0), (0, .ref (gx_ad E 29)), (1, .int v1)]) 3 d_Mod_lies_196 rfl rfl (by decide) rfl ?_
          refine gx_goto (tgt := 152) C d_Mod_lies_199 (by decide) ?_
          cases hf
          refine gx_lv (lv' := [(0, .ref (gx_ad E 29)), (1, .int v1), (2, .int 0), (3, .int (a.2.1 + 1))]) [2, 3, 1, 0] rfl ?_
          exact hk
        · have hf := (if_neg h31).symm.trans hf
          refine gx_iconst C (v := 1) d_Mod_lies_190 (by decide) ?_
          refine gx_goto (tgt := 195) C d_Mod_lies_191 (by decide) ?_
          refine gx_istore_n C (lv' := [(2, .int 1), (0, .ref (gx_ad E 29)), (1, .int v1), (3, .int a.2.1)]) d_Mod_lies_195 rfl (by decide) rfl ?_
          refine gx_iinc C (v := a.2.1 + 1) (lv' := [(3, .int (a.2.1 + 1)), (2, .int 1), (0, .ref (gx_ad E 29)), (1, .int v1)]) 3 d_Mod_lies_196 rfl rfl (by decide) rfl ?_
          refine gx_goto (tgt := 152) C d_Mod_lies_199 (by decide) ?_
          cases hf
          refine gx_lv (lv' := [(0, .ref (gx_ad E 29)), (1, .int v1), (2, .int 1), (3, .int (a.2.1 + 1))]) [2, 3, 1, 0] rfl ?_
          exact hk
set_option maxHeartbeats 4000000 in
set_option maxRecDepth 100000 in
theorem c_CaseLayoutModel_lies (l : Launch) (a1 : Int32) (x : gx_S) (o : Int32 × gx_S) (hf : f_CaseLayoutModel_lies a1 x = some o) : gx_Mi false l y_Mod_lies prog_10_method_24_code 5 (some .boolean) rm_CaseLayoutModel_lies (fun E => [.ref (gx_ad E 29), .int a1]) x o.1 o.2 := by
  refine gx_meti (own := "CaseLayoutModel") (by decide) rfl (fun E => Nat.le_of_ble_eq_true rfl) (fun K E hl0 hR hr hlk hk C => ?_)
  subst hl0
  unfold f_CaseLayoutModel_lies at hf
  show gx_G K E _ 0 0 x 0 [(0, .ref (gx_ad E 29)), (1, .int a1)] []
  refine gx_aload_n C 0 d_Mod_lies_0 rfl rfl ?_
  refine gx_get C iw_Mod 29 (gx_w29 E _) rfl 19 (by decide) gw_693 rfl rfl d_Mod_lies_1 ?_
  refine gx_iload_n C 1 d_Mod_lies_4 rfl rfl ?_
  obtain ⟨hi1, hf⟩ := gx_ck_some hf
  refine gx_iald C 42 0 (gx_w42 E _) rfl hi1 d_Mod_lies_5 ?_
  refine gx_aload_n C 0 d_Mod_lies_6 rfl rfl ?_
  refine gx_get C iw_Mod 29 (gx_w29 E _) rfl 6 (by decide) gw_680 rfl rfl d_Mod_lies_7 ?_
  refine gx_iload_n C 1 d_Mod_lies_10 rfl rfl ?_
  obtain ⟨hi2, hf⟩ := gx_ck_some hf
  refine gx_iald C 32 0 (gx_w32 E _) rfl hi2 d_Mod_lies_11 ?_
  refine gx_iadd C d_Mod_lies_12 ?_
  refine gx_aload_n C 0 d_Mod_lies_13 rfl rfl ?_
  refine gx_get C iw_Mod 29 (gx_w29 E _) rfl 1 (by decide) gw_675 rfl rfl d_Mod_lies_14 ?_
  refine gx_icmp_gt (tgt := 40) C d_Mod_lies_17 (by decide) (fun h3 => ?_) (fun h3 => ?_)
  · have hf := (if_pos h3).symm.trans hf
    refine gx_iconst C (v := 0) d_Mod_lies_40 (by decide) ?_
    cases hf
    exact gx_zret C hr hlk hk (by decide) d_Mod_lies_41
  · have hf := (if_neg h3).symm.trans hf
    refine gx_aload_n C 0 d_Mod_lies_20 rfl rfl ?_
    refine gx_get C iw_Mod 29 (gx_w29 E _) rfl 20 (by decide) gw_694 rfl rfl d_Mod_lies_21 ?_
    refine gx_iload_n C 1 d_Mod_lies_24 rfl rfl ?_
    obtain ⟨hi4, hf⟩ := gx_ck_some hf
    refine gx_iald C 43 0 (gx_w43 E _) rfl hi4 d_Mod_lies_25 ?_
    refine gx_aload_n C 0 d_Mod_lies_26 rfl rfl ?_
    refine gx_get C iw_Mod 29 (gx_w29 E _) rfl 7 (by decide) gw_681 rfl rfl d_Mod_lies_27 ?_
    refine gx_iload_n C 1 d_Mod_lies_30 rfl rfl ?_
    obtain ⟨hi5, hf⟩ := gx_ck_some hf
    refine gx_iald C 33 0 (gx_w33 E _) rfl hi5 d_Mod_lies_31 ?_
    refine gx_iadd C d_Mod_lies_32 ?_
    refine gx_aload_n C 0 d_Mod_lies_33 rfl rfl ?_
    refine gx_get C iw_Mod 29 (gx_w29 E _) rfl 2 (by decide) gw_676 rfl rfl d_Mod_lies_34 ?_
    refine gx_icmp_le (tgt := 42) C d_Mod_lies_37 (by decide) (fun h6 => ?_) (fun h6 => ?_)
    · have hf := (if_pos h6).symm.trans hf
      refine gx_iconst C (v := 1) d_Mod_lies_42 (by decide) ?_
      refine gx_istore_n C (lv' := [(2, .int 1), (0, .ref (gx_ad E 29)), (1, .int a1)]) d_Mod_lies_43 rfl (by decide) rfl ?_
      refine gx_iconst C (v := 0) d_Mod_lies_44 (by decide) ?_
      refine gx_istore_n C (lv' := [(3, .int 0), (2, .int 1), (0, .ref (gx_ad E 29)), (1, .int a1)]) d_Mod_lies_45 rfl (by decide) rfl ?_
      refine gx_lv (lv' := [(0, .ref (gx_ad E 29)), (1, .int a1), (2, .int 1), (3, .int 0)]) [2, 3, 1, 0] rfl ?_
      obtain ⟨e24, he24, hf⟩ := gx_bl_some hf
      refine (gx_loop (P := pp_CaseLayoutModel_lies_46 K E a1) (Q := pq_CaseLayoutModel_lies_46 K E a1) (fun a9 o9 h1 h2 => sc_CaseLayoutModel_lies_46 C hR hr hlk a1 a9 o9 h1 h2) gx_fuel (1, 0, x) e24 he24 ?_ : pp_CaseLayoutModel_lies_46 K E a1 (1, 0, x))
      unfold pq_CaseLayoutModel_lies_46
      refine gx_iconst C (v := 0) d_Mod_lies_150 (by decide) ?_
      refine gx_istore_n C (lv' := [(3, .int 0), (0, .ref (gx_ad E 29)), (1, .int a1), (2, .int e24.2.1)]) d_Mod_lies_151 rfl (by decide) rfl ?_
      refine gx_lv (lv' := [(0, .ref (gx_ad E 29)), (1, .int a1), (2, .int e24.2.1), (3, .int 0)]) [1, 2, 3, 0] rfl ?_
      obtain ⟨e32, he32, hf⟩ := gx_bl_some hf
      refine (gx_loop (P := pp_CaseLayoutModel_lies_152 K E a1) (Q := pq_CaseLayoutModel_lies_152 K E a1) (fun a9 o9 h1 h2 => sc_CaseLayoutModel_lies_152 C hR hr hlk a1 a9 o9 h1 h2) gx_fuel (e24.2.1, 0, e24.2.2.2) e32 he32 ?_ : pp_CaseLayoutModel_lies_152 K E a1 (e24.2.1, 0, e24.2.2.2))
      unfold pq_CaseLayoutModel_lies_152
      refine gx_iload_n C 0 d_Mod_lies_202 rfl rfl ?_
      obtain ⟨hn33, hf⟩ := gx_nb_some hf
      cases hf
      exact gx_zret C hr hlk hk hn33 d_Mod_lies_203
    · have hf := (if_neg h6).symm.trans hf
      refine gx_iconst C (v := 0) d_Mod_lies_40 (by decide) ?_
      cases hf
      exact gx_zret C hr hlk hk (by decide) d_Mod_lies_41

def f_CaseLayoutModel_covers (a1 : Int32) (a2 : Int32) (a3 : Int32) (x : gx_S) : Option (Int32 × gx_S) :=
  gx_ck a1 7 (gx_ck a1 7 (gx_bd (f_CaseLayoutModel_in (a2 - (gx_gA x 32 (a1 : Int32).toNatClampNeg)) 0 ((gx_gA x 22 (a1 : Int32).toNatClampNeg) - 1) x) (fun r3 x3 => if r3 = 0 then (some (0, x3)) else (gx_ck a1 7 (gx_ck a1 7 (gx_bd (f_CaseLayoutModel_in (a3 - (gx_gA x3 33 (a1 : Int32).toNatClampNeg)) 0 ((gx_gA x3 23 (a1 : Int32).toNatClampNeg) - 1) x3) (fun r7 x7 => if r7 = 0 then (some (0, x7)) else (some (1, x7)))))))))
abbrev rm_CaseLayoutModel_covers : Room := { frames := 1, cells := 0, slots := 0, locals := 22 }
set_option maxHeartbeats 4000000 in
set_option maxRecDepth 100000 in
theorem c_CaseLayoutModel_covers (l : Launch) (a1 : Int32) (a2 : Int32) (a3 : Int32) (x : gx_S) (o : Int32 × gx_S) (hf : f_CaseLayoutModel_covers a1 a2 a3 x = some o) : gx_Mi false l y_Mod_covers prog_10_method_23_code 4 (some .boolean) rm_CaseLayoutModel_covers (fun E => [.ref (gx_ad E 29), .int a1, .int a2, .int a3]) x o.1 o.2 := by
  refine gx_meti (own := "CaseLayoutModel") (by decide) rfl (fun E => Nat.le_of_ble_eq_true rfl) (fun K E hl0 hR hr hlk hk C => ?_)
  subst hl0
  unfold f_CaseLayoutModel_covers at hf
  show gx_G K E _ 0 0 x 0 [(0, .ref (gx_ad E 29)), (1, .int a1), (2, .int a2), (3, .int a3)] []
  refine gx_iload_n C 2 d_Mod_covers_0 rfl rfl ?_
  refine gx_aload_n C 0 d_Mod_covers_1 rfl rfl ?_
  refine gx_get C iw_Mod 29 (gx_w29 E _) rfl 19 (by decide) gw_693 rfl rfl d_Mod_covers_2 ?_
  refine gx_iload_n C 1 d_Mod_covers_5 rfl rfl ?_
  obtain ⟨hi1, hf⟩ := gx_ck_some hf
  refine gx_iald C 42 0 (gx_w42 E _) rfl hi1 d_Mod_covers_6 ?_
  refine gx_isub C d_Mod_covers_7 ?_
  refine gx_iconst C (v := 0) d_Mod_covers_8 (by decide) ?_
  refine gx_aload_n C 0 d_Mod_covers_9 rfl rfl ?_
  refine gx_get C iw_Mod 29 (gx_w29 E _) rfl 6 (by decide) gw_680 rfl rfl d_Mod_covers_10 ?_
  refine gx_iload_n C 1 d_Mod_covers_13 rfl rfl ?_
  obtain ⟨hi2, hf⟩ := gx_ck_some hf
  refine gx_iald C 32 0 (gx_w32 E _) rfl hi2 d_Mod_covers_14 ?_
  refine gx_iconst C (v := 1) d_Mod_covers_15 (by decide) ?_
  refine gx_isub C d_Mod_covers_16 ?_
  obtain ⟨r3, x3, hc3, hf⟩ := gx_bd_some hf
  refine gx_cSi (n2 := 0) (k2 := 0) C (As := [.int (a2 - (gx_gA x 32 (a1 : Int32).toNatClampNeg)), .int 0, .int ((gx_gA x 22 (a1 : Int32).toNatClampNeg) - 1)]) (rest := []) 3 (c_CaseLayoutModel_in K.l (a2 - (gx_gA x 32 (a1 : Int32).toNatClampNeg)) 0 ((gx_gA x 22 (a1 : Int32).toNatClampNeg) - 1) x _ hc3) (Or.inr rfl) rfl (gx_goodS gw_771 gw_772 gw_10 gw_773) (by decide +kernel) (by rw [hR]; decide) rfl rfl (Nat.le_of_ble_eq_true rfl) d_Mod_covers_17 (by rw [hR]; decide) rfl rfl ?_
  refine gx_if_eq (tgt := 50) C d_Mod_covers_20 (by decide) (fun h4 => ?_) (fun h4 => ?_)
  · have hf := (if_pos h4).symm.trans hf
    refine gx_iconst C (v := 0) d_Mod_covers_50 (by decide) ?_
    cases hf
    exact gx_zret C hr hlk hk (by decide) d_Mod_covers_51
  · have hf := (if_neg h4).symm.trans hf
    refine gx_iload_n C 3 d_Mod_covers_23 rfl rfl ?_
    refine gx_aload_n C 0 d_Mod_covers_24 rfl rfl ?_
    refine gx_get C iw_Mod 29 (gx_w29 E _) rfl 20 (by decide) gw_694 rfl rfl d_Mod_covers_25 ?_
    refine gx_iload_n C 1 d_Mod_covers_28 rfl rfl ?_
    obtain ⟨hi5, hf⟩ := gx_ck_some hf
    refine gx_iald C 43 0 (gx_w43 E _) rfl hi5 d_Mod_covers_29 ?_
    refine gx_isub C d_Mod_covers_30 ?_
    refine gx_iconst C (v := 0) d_Mod_covers_31 (by decide) ?_
    refine gx_aload_n C 0 d_Mod_covers_32 rfl rfl ?_
    refine gx_get C iw_Mod 29 (gx_w29 E _) rfl 7 (by decide) gw_681 rfl rfl d_Mod_covers_33 ?_
    refine gx_iload_n C 1 d_Mod_covers_36 rfl rfl ?_
    obtain ⟨hi6, hf⟩ := gx_ck_some hf
    refine gx_iald C 33 0 (gx_w33 E _) rfl hi6 d_Mod_covers_37 ?_
    refine gx_iconst C (v := 1) d_Mod_covers_38 (by decide) ?_
    refine gx_isub C d_Mod_covers_39 ?_
    obtain ⟨r7, x7, hc7, hf⟩ := gx_bd_some hf
    refine gx_cSi (n2 := 0) (k2 := 0) C (As := [.int (a3 - (gx_gA x3 33 (a1 : Int32).toNatClampNeg)), .int 0, .int ((gx_gA x3 23 (a1 : Int32).toNatClampNeg) - 1)]) (rest := []) 3 (c_CaseLayoutModel_in K.l (a3 - (gx_gA x3 33 (a1 : Int32).toNatClampNeg)) 0 ((gx_gA x3 23 (a1 : Int32).toNatClampNeg) - 1) x3 _ hc7) (Or.inr rfl) rfl (gx_goodS gw_771 gw_772 gw_10 gw_773) (by decide +kernel) (by rw [hR]; decide) rfl rfl (Nat.le_of_ble_eq_true rfl) d_Mod_covers_40 (by rw [hR]; decide) rfl rfl ?_
    refine gx_if_eq (tgt := 50) C d_Mod_covers_43 (by decide) (fun h8 => ?_) (fun h8 => ?_)
    · have hf := (if_pos h8).symm.trans hf
      refine gx_iconst C (v := 0) d_Mod_covers_50 (by decide) ?_
      cases hf
      exact gx_zret C hr hlk hk (by decide) d_Mod_covers_51
    · have hf := (if_neg h8).symm.trans hf
      refine gx_iconst C (v := 1) d_Mod_covers_46 (by decide) ?_
      refine gx_goto (tgt := 51) C d_Mod_covers_47 (by decide) ?_
      cases hf
      exact gx_zret C hr hlk hk (by decide) d_Mod_covers_51

def f_CaseLayoutModel_cross (a0 : Int32) (a1 : Int32) (a2 : Int32) (a3 : Int32) (x : gx_S) : Option (Int32 × gx_S) :=
  some ((a0 * a3) - (a1 * a2), x)
abbrev rm_CaseLayoutModel_cross : Room := { frames := 0, cells := 0, slots := 0, locals := 0 }
set_option maxHeartbeats 4000000 in
set_option maxRecDepth 100000 in
theorem c_CaseLayoutModel_cross (l : Launch) (a0 : Int32) (a1 : Int32) (a2 : Int32) (a3 : Int32) (x : gx_S) (o : Int32 × gx_S) (hf : f_CaseLayoutModel_cross a0 a1 a2 a3 x = some o) : gx_Mi false l y_Mod_cross prog_10_method_25_code 4 (some .int) rm_CaseLayoutModel_cross (fun E => [.int a0, .int a1, .int a2, .int a3]) x o.1 o.2 := by
  refine gx_meti (own := "CaseLayoutModel") (by decide) rfl (fun E => Nat.le_of_ble_eq_true rfl) (fun K E hl0 hR hr hlk hk C => ?_)
  subst hl0
  unfold f_CaseLayoutModel_cross at hf
  show gx_G K E _ 0 0 x 0 [(0, .int a0), (1, .int a1), (2, .int a2), (3, .int a3)] []
  refine gx_iload_n C 0 d_Mod_cross_0 rfl rfl ?_
  refine gx_iload_n C 3 d_Mod_cross_1 rfl rfl ?_
  refine gx_imul C d_Mod_cross_2 ?_
  refine gx_iload_n C 1 d_Mod_cross_3 rfl rfl ?_
  refine gx_iload_n C 2 d_Mod_cross_4 rfl rfl ?_
  refine gx_imul C d_Mod_cross_5 ?_
  refine gx_isub C d_Mod_cross_6 ?_
  cases hf
  exact gx_iret C hr hlk hk d_Mod_cross_7

def j_CaseLayoutModel_goesThrough_169L111 (v0 : Int32) (v1 : Int32) (v2 : Int32) (v3 : Int32) (v4 : Int32) (v5 : Int32) (v11 : Int32) (v12 : Int32) (v13 : Int32) (w0 : Int32) (x : gx_S) : Option ((Int32 × Int32 × Int32 × gx_S) ⊕ (Nat × Int32 × Int32 × Int32 × gx_S)) :=
  if v11 = 0 then (if 0 ≤ v13 then (some (.inl (w0, 0, v12 + 1, x))) else (some (.inl (w0, 1, v12 + 1, x)))) else (some (.inl (w0, 1, v12 + 1, x)))
def j_CaseLayoutModel_goesThrough_164L111 (v0 : Int32) (v1 : Int32) (v2 : Int32) (v3 : Int32) (v4 : Int32) (v5 : Int32) (v11 : Int32) (v12 : Int32) (v13 : Int32) (x : gx_S) : Option ((Int32 × Int32 × Int32 × gx_S) ⊕ (Nat × Int32 × Int32 × Int32 × gx_S)) :=
  j_CaseLayoutModel_goesThrough_169L111 v0 v1 v2 v3 v4 v5 v11 v12 v13 1 x
def s_CaseLayoutModel_goesThrough_111 (v0 : Int32) (v1 : Int32) (v2 : Int32) (v3 : Int32) (v4 : Int32) (v5 : Int32) (a : Int32 × Int32 × Int32 × gx_S) : Option ((Int32 × Int32 × Int32 × gx_S) ⊕ (Nat × Int32 × Int32 × Int32 × gx_S)) :=
  if 4 ≤ a.2.2.1 then (some (.inr (0, a.1, a.2.1, a.2.2.1, a.2.2.2))) else (gx_bd (f_CaseLayoutModel_cross (v2 - v0) (v3 - v1) (((2 * v4) + (2 * (a.2.2.1 - a.2.2.1 / 2 * 2))) - v0) (((2 * v5) + (2 * (a.2.2.1 / 2))) - v1) a.2.2.2) (fun r11 x11 => if a.1 = 0 then (if r11 ≤ 0 then (j_CaseLayoutModel_goesThrough_169L111 v0 v1 v2 v3 v4 v5 a.2.1 a.2.2.1 r11 0 x11) else (j_CaseLayoutModel_goesThrough_164L111 v0 v1 v2 v3 v4 v5 a.2.1 a.2.2.1 r11  x11)) else (j_CaseLayoutModel_goesThrough_164L111 v0 v1 v2 v3 v4 v5 a.2.1 a.2.2.1 r11  x11)))
def j_CaseLayoutModel_goesThrough_102 (v0 : Int32) (v1 : Int32) (v2 : Int32) (v3 : Int32) (v4 : Int32) (v5 : Int32) (x : gx_S) : Option (Int32 × gx_S) :=
  gx_bl (gx_it (s_CaseLayoutModel_goesThrough_111 v0 v1 v2 v3 v4 v5) gx_fuel (0, 0, 0, x)) (fun e16 => if e16.2.1 = 0 then (some (0, e16.2.2.2.2)) else (if e16.2.2.1 = 0 then (some (0, e16.2.2.2.2)) else (some (1, e16.2.2.2.2))))
def j_CaseLayoutModel_goesThrough_46 (v0 : Int32) (v1 : Int32) (v2 : Int32) (v3 : Int32) (v4 : Int32) (v5 : Int32) (v6 : Int32) (v7 : Int32) (v8 : Int32) (w0 : Int32) (x : gx_S) : Option (Int32 × gx_S) :=
  if v7 ≤ (2 * v4) then (some (0, x)) else (if ((2 * v4) + 2) ≤ v6 then (some (0, x)) else (if w0 ≤ (2 * v5) then (some (0, x)) else (if v8 < ((2 * v5) + 2) then (if v0 = v2 then (if v1 = v3 then (some (1, x)) else (j_CaseLayoutModel_goesThrough_102 v0 v1 v2 v3 v4 v5  x)) else (j_CaseLayoutModel_goesThrough_102 v0 v1 v2 v3 v4 v5  x)) else (some (0, x)))))
def j_CaseLayoutModel_goesThrough_34 (v0 : Int32) (v1 : Int32) (v2 : Int32) (v3 : Int32) (v4 : Int32) (v5 : Int32) (v6 : Int32) (v7 : Int32) (w0 : Int32) (x : gx_S) : Option (Int32 × gx_S) :=
  if v3 ≤ v1 then (j_CaseLayoutModel_goesThrough_46 v0 v1 v2 v3 v4 v5 v6 v7 w0 v1 x) else (j_CaseLayoutModel_goesThrough_46 v0 v1 v2 v3 v4 v5 v6 v7 w0 v3 x)
def j_CaseLayoutModel_goesThrough_22 (v0 : Int32) (v1 : Int32) (v2 : Int32) (v3 : Int32) (v4 : Int32) (v5 : Int32) (v6 : Int32) (w0 : Int32) (x : gx_S) : Option (Int32 × gx_S) :=
  if v3 ≤ v1 then (j_CaseLayoutModel_goesThrough_34 v0 v1 v2 v3 v4 v5 v6 w0 v3 x) else (j_CaseLayoutModel_goesThrough_34 v0 v1 v2 v3 v4 v5 v6 w0 v1 x)
def j_CaseLayoutModel_goesThrough_10 (v0 : Int32) (v1 : Int32) (v2 : Int32) (v3 : Int32) (v4 : Int32) (v5 : Int32) (w0 : Int32) (x : gx_S) : Option (Int32 × gx_S) :=
  if v2 ≤ v0 then (j_CaseLayoutModel_goesThrough_22 v0 v1 v2 v3 v4 v5 w0 v0 x) else (j_CaseLayoutModel_goesThrough_22 v0 v1 v2 v3 v4 v5 w0 v2 x)
def f_CaseLayoutModel_goesThrough (a0 : Int32) (a1 : Int32) (a2 : Int32) (a3 : Int32) (a4 : Int32) (a5 : Int32) (x : gx_S) : Option (Int32 × gx_S) :=
  if a2 ≤ a0 then (j_CaseLayoutModel_goesThrough_10 a0 a1 a2 a3 a4 a5 a2 x) else (j_CaseLayoutModel_goesThrough_10 a0 a1 a2 a3 a4 a5 a0 x)
abbrev rm_CaseLayoutModel_goesThrough : Room := { frames := 1, cells := 0, slots := 0, locals := 23 }
def pp_CaseLayoutModel_goesThrough_111 (K : gx_K) (E : gx_E) (v0 : Int32) (v1 : Int32) (v2 : Int32) (v3 : Int32) (v4 : Int32) (v5 : Int32) (a : Int32 × Int32 × Int32 × gx_S) : Prop := gx_G K E (gx_AB false E K.s.heap.size) 0 0 (a.2.2.2) 111 [(0, .int v0), (1, .int v1), (2, .int v2), (3, .int v3), (4, .int v4), (5, .int v5), (10, .int a.1), (11, .int a.2.1), (12, .int a.2.2.1)] []
def pq_CaseLayoutModel_goesThrough_111 (K : gx_K) (E : gx_E) (v0 : Int32) (v1 : Int32) (v2 : Int32) (v3 : Int32) (v4 : Int32) (v5 : Int32) (b : Nat × Int32 × Int32 × Int32 × gx_S) : Prop := gx_G K E (gx_AB false E K.s.heap.size) 0 0 (b.2.2.2.2) 194 [(10, .int b.2.1), (11, .int b.2.2.1)] []
set_option maxHeartbeats 4000000 in
set_option maxRecDepth 100000 in
theorem jc_CaseLayoutModel_goesThrough_169L111 {K : gx_K} {E : gx_E} (C : gx_C K E "CaseLayoutModel" prog_10_method_26_code 14) (hR : K.R = rm_CaseLayoutModel_goesThrough) (hr : K.meth.sig.returnType = (some .boolean)) (hlk : K.meth.locks = false) (v0 : Int32) (v1 : Int32) (v2 : Int32) (v3 : Int32) (v4 : Int32) (v5 : Int32) (v11 : Int32) (v12 : Int32) (v13 : Int32) (w0 : Int32) (x : gx_S) (o : (Int32 × Int32 × Int32 × gx_S) ⊕ (Nat × Int32 × Int32 × Int32 × gx_S)) (hf : j_CaseLayoutModel_goesThrough_169L111 v0 v1 v2 v3 v4 v5 v11 v12 v13 w0 x = some o) (hk : gx_or (pp_CaseLayoutModel_goesThrough_111 K E v0 v1 v2 v3 v4 v5) (pq_CaseLayoutModel_goesThrough_111 K E v0 v1 v2 v3 v4 v5) o) : gx_G K E (gx_AB false E K.s.heap.size) 0 0 x 169 [(0, .int v0), (1, .int v1), (2, .int v2), (3, .int v3), (4, .int v4), (5, .int v5), (11, .int v11), (12, .int v12), (13, .int v13)] [.int w0] := by
  unfold j_CaseLayoutModel_goesThrough_169L111 at hf
  refine gx_istore C (lv' := [(10, .int w0), (0, .int v0), (1, .int v1), (2, .int v2), (3, .int v3), (4, .int v4), (5, .int v5), (11, .int v11), (12, .int v12), (13, .int v13)]) d_Mod_goesThrough_169 (by decide) rfl ?_
  refine gx_iload C 7 d_Mod_goesThrough_171 rfl ?_
  refine gx_if_ne (tgt := 181) C d_Mod_goesThrough_173 (by decide) (fun h13 => ?_) (fun h13 => ?_)
  · have hf := (if_neg h13).symm.trans hf
    refine gx_iconst C (v := 1) d_Mod_goesThrough_181 (by decide) ?_
    refine gx_goto (tgt := 186) C d_Mod_goesThrough_182 (by decide) ?_
    refine gx_istore C (lv' := [(11, .int 1), (10, .int w0), (0, .int v0), (1, .int v1), (2, .int v2), (3, .int v3), (4, .int v4), (5, .int v5), (12, .int v12), (13, .int v13)]) d_Mod_goesThrough_186 (by decide) rfl ?_
    refine gx_iinc C (v := v12 + 1) (lv' := [(12, .int (v12 + 1)), (11, .int 1), (10, .int w0), (0, .int v0), (1, .int v1), (2, .int v2), (3, .int v3), (4, .int v4), (5, .int v5), (13, .int v13)]) 8 d_Mod_goesThrough_188 rfl rfl (by decide) rfl ?_
    refine gx_goto (tgt := 111) C d_Mod_goesThrough_191 (by decide) ?_
    cases hf
    refine gx_lv (lv' := [(0, .int v0), (1, .int v1), (2, .int v2), (3, .int v3), (4, .int v4), (5, .int v5), (10, .int w0), (11, .int 1), (12, .int (v12 + 1))]) [3, 4, 5, 6, 7, 8, 2, 1, 0] rfl ?_
    exact hk
  · have hf := (if_pos h13).symm.trans hf
    refine gx_iload C 9 d_Mod_goesThrough_176 rfl ?_
    refine gx_if_ge (tgt := 185) C d_Mod_goesThrough_178 (by decide) (fun h14 => ?_) (fun h14 => ?_)
    · have hf := (if_pos h14).symm.trans hf
      refine gx_iconst C (v := 0) d_Mod_goesThrough_185 (by decide) ?_
      refine gx_istore C (lv' := [(11, .int 0), (10, .int w0), (0, .int v0), (1, .int v1), (2, .int v2), (3, .int v3), (4, .int v4), (5, .int v5), (12, .int v12), (13, .int v13)]) d_Mod_goesThrough_186 (by decide) rfl ?_
      refine gx_iinc C (v := v12 + 1) (lv' := [(12, .int (v12 + 1)), (11, .int 0), (10, .int w0), (0, .int v0), (1, .int v1), (2, .int v2), (3, .int v3), (4, .int v4), (5, .int v5), (13, .int v13)]) 8 d_Mod_goesThrough_188 rfl rfl (by decide) rfl ?_
      refine gx_goto (tgt := 111) C d_Mod_goesThrough_191 (by decide) ?_
      cases hf
      refine gx_lv (lv' := [(0, .int v0), (1, .int v1), (2, .int v2), (3, .int v3), (4, .int v4), (5, .int v5), (10, .int w0), (11, .int 0), (12, .int (v12 + 1))]) [3, 4, 5, 6, 7, 8, 2, 1, 0] rfl ?_
      exact hk
    · have hf := (if_neg h14).symm.trans hf
      refine gx_iconst C (v := 1) d_Mod_goesThrough_181 (by decide) ?_
      refine gx_goto (tgt := 186) C d_Mod_goesThrough_182 (by decide) ?_
      refine gx_istore C (lv' := [(11, .int 1), (10, .int w0), (0, .int v0), (1, .int v1), (2, .int v2), (3, .int v3), (4, .int v4), (5, .int v5), (12, .int v12), (13, .int v13)]) d_Mod_goesThrough_186 (by decide) rfl ?_
      refine gx_iinc C (v := v12 + 1) (lv' := [(12, .int (v12 + 1)), (11, .int 1), (10, .int w0), (0, .int v0), (1, .int v1), (2, .int v2), (3, .int v3), (4, .int v4), (5, .int v5), (13, .int v13)]) 8 d_Mod_goesThrough_188 rfl rfl (by decide) rfl ?_
      refine gx_goto (tgt := 111) C d_Mod_goesThrough_191 (by decide) ?_
      cases hf
      refine gx_lv (lv' := [(0, .int v0), (1, .int v1), (2, .int v2), (3, .int v3), (4, .int v4), (5, .int v5), (10, .int w0), (11, .int 1), (12, .int (v12 + 1))]) [3, 4, 5, 6, 7, 8, 2, 1, 0] rfl ?_
      exact hk
set_option maxHeartbeats 4000000 in
set_option maxRecDepth 100000 in
theorem jc_CaseLayoutModel_goesThrough_164L111 {K : gx_K} {E : gx_E} (C : gx_C K E "CaseLayoutModel" prog_10_method_26_code 14) (hR : K.R = rm_CaseLayoutModel_goesThrough) (hr : K.meth.sig.returnType = (some .boolean)) (hlk : K.meth.locks = false) (v0 : Int32) (v1 : Int32) (v2 : Int32) (v3 : Int32) (v4 : Int32) (v5 : Int32) (v11 : Int32) (v12 : Int32) (v13 : Int32) (x : gx_S) (o : (Int32 × Int32 × Int32 × gx_S) ⊕ (Nat × Int32 × Int32 × Int32 × gx_S)) (hf : j_CaseLayoutModel_goesThrough_164L111 v0 v1 v2 v3 v4 v5 v11 v12 v13 x = some o) (hk : gx_or (pp_CaseLayoutModel_goesThrough_111 K E v0 v1 v2 v3 v4 v5) (pq_CaseLayoutModel_goesThrough_111 K E v0 v1 v2 v3 v4 v5) o) : gx_G K E (gx_AB false E K.s.heap.size) 0 0 x 164 [(0, .int v0), (1, .int v1), (2, .int v2), (3, .int v3), (4, .int v4), (5, .int v5), (11, .int v11), (12, .int v12), (13, .int v13)] [] := by
  unfold j_CaseLayoutModel_goesThrough_164L111 at hf
  refine gx_iconst C (v := 1) d_Mod_goesThrough_164 (by decide) ?_
  refine gx_goto (tgt := 169) C d_Mod_goesThrough_165 (by decide) ?_
  exact jc_CaseLayoutModel_goesThrough_169L111 C hR hr hlk v0 v1 v2 v3 v4 v5 v11 v12 v13 1 x _ hf hk
set_option maxHeartbeats 4000000 in
set_option maxRecDepth 100000 in
theorem sc_CaseLayoutModel_goesThrough_111 {K : gx_K} {E : gx_E} (C : gx_C K E "CaseLayoutModel" prog_10_method_26_code 14) (hR : K.R = rm_CaseLayoutModel_goesThrough) (hr : K.meth.sig.returnType = (some .boolean)) (hlk : K.meth.locks = false) (v0 : Int32) (v1 : Int32) (v2 : Int32) (v3 : Int32) (v4 : Int32) (v5 : Int32) (a : Int32 × Int32 × Int32 × gx_S) (o : (Int32 × Int32 × Int32 × gx_S) ⊕ (Nat × Int32 × Int32 × Int32 × gx_S)) (hf : s_CaseLayoutModel_goesThrough_111 v0 v1 v2 v3 v4 v5 a = some o) (hk : gx_or (pp_CaseLayoutModel_goesThrough_111 K E v0 v1 v2 v3 v4 v5) (pq_CaseLayoutModel_goesThrough_111 K E v0 v1 v2 v3 v4 v5) o) : pp_CaseLayoutModel_goesThrough_111 K E v0 v1 v2 v3 v4 v5 a := by
  unfold s_CaseLayoutModel_goesThrough_111 at hf
  unfold pp_CaseLayoutModel_goesThrough_111
  refine gx_iload C 8 d_Mod_goesThrough_111 rfl ?_
  refine gx_iconst C (v := 4) d_Mod_goesThrough_113 (by decide) ?_
  refine gx_icmp_ge (tgt := 194) C d_Mod_goesThrough_114 (by decide) (fun h10 => ?_) (fun h10 => ?_)
  · have hf := (if_pos h10).symm.trans hf
    cases hf
    have hk : pq_CaseLayoutModel_goesThrough_111 K E v0 v1 v2 v3 v4 v5 _ := hk
    unfold pq_CaseLayoutModel_goesThrough_111 at hk
    refine gx_lv (lv' := [(10, .int a.1), (11, .int a.2.1)]) [6, 7] rfl ?_
    exact hk
  · have hf := (if_neg h10).symm.trans hf
    refine gx_iload_n C 2 d_Mod_goesThrough_117 rfl rfl ?_
    refine gx_iload_n C 0 d_Mod_goesThrough_118 rfl rfl ?_
    refine gx_isub C d_Mod_goesThrough_119 ?_
    refine gx_iload_n C 3 d_Mod_goesThrough_120 rfl rfl ?_
    refine gx_iload_n C 1 d_Mod_goesThrough_121 rfl rfl ?_
    refine gx_isub C d_Mod_goesThrough_122 ?_
    refine gx_iconst C (v := 2) d_Mod_goesThrough_123 (by decide) ?_
    refine gx_iload C 4 d_Mod_goesThrough_124 rfl ?_
    refine gx_imul C d_Mod_goesThrough_126 ?_
    refine gx_iconst C (v := 2) d_Mod_goesThrough_127 (by decide) ?_
    refine gx_iload C 8 d_Mod_goesThrough_128 rfl ?_
    refine gx_iconst C (v := 2) d_Mod_goesThrough_130 (by decide) ?_
    refine gx_irem C d_Mod_goesThrough_131 (by decide) ?_
    refine gx_imul C d_Mod_goesThrough_132 ?_
    refine gx_iadd C d_Mod_goesThrough_133 ?_
    refine gx_iload_n C 0 d_Mod_goesThrough_134 rfl rfl ?_
    refine gx_isub C d_Mod_goesThrough_135 ?_
    refine gx_iconst C (v := 2) d_Mod_goesThrough_136 (by decide) ?_
    refine gx_iload C 5 d_Mod_goesThrough_137 rfl ?_
    refine gx_imul C d_Mod_goesThrough_139 ?_
    refine gx_iconst C (v := 2) d_Mod_goesThrough_140 (by decide) ?_
    refine gx_iload C 8 d_Mod_goesThrough_141 rfl ?_
    refine gx_iconst C (v := 2) d_Mod_goesThrough_143 (by decide) ?_
    refine gx_idiv C d_Mod_goesThrough_144 (by decide) ?_
    refine gx_imul C d_Mod_goesThrough_145 ?_
    refine gx_iadd C d_Mod_goesThrough_146 ?_
    refine gx_iload_n C 1 d_Mod_goesThrough_147 rfl rfl ?_
    refine gx_isub C d_Mod_goesThrough_148 ?_
    obtain ⟨r11, x11, hc11, hf⟩ := gx_bd_some hf
    refine gx_cSi (n2 := 0) (k2 := 0) C (As := [.int (v2 - v0), .int (v3 - v1), .int (((2 * v4) + (2 * (a.2.2.1 - a.2.2.1 / 2 * 2))) - v0), .int (((2 * v5) + (2 * (a.2.2.1 / 2))) - v1)]) (rest := []) 4 (c_CaseLayoutModel_cross K.l (v2 - v0) (v3 - v1) (((2 * v4) + (2 * (a.2.2.1 - a.2.2.1 / 2 * 2))) - v0) (((2 * v5) + (2 * (a.2.2.1 / 2))) - v1) a.2.2.2 _ hc11) (Or.inr rfl) rfl (gx_goodS gw_849 gw_850 gw_10 gw_851) (by decide +kernel) (by rw [hR]; decide) rfl rfl (Nat.le_of_ble_eq_true rfl) d_Mod_goesThrough_149 (by rw [hR]; decide) rfl rfl ?_
    refine gx_istore C (lv' := [(13, .int r11), (0, .int v0), (1, .int v1), (2, .int v2), (3, .int v3), (4, .int v4), (5, .int v5), (10, .int a.1), (11, .int a.2.1), (12, .int a.2.2.1)]) d_Mod_goesThrough_152 (by decide) rfl ?_
    refine gx_iload C 7 d_Mod_goesThrough_154 rfl ?_
    refine gx_if_ne (tgt := 164) C d_Mod_goesThrough_156 (by decide) (fun h12 => ?_) (fun h12 => ?_)
    · have hf := (if_neg h12).symm.trans hf
      refine gx_lv (lv' := [(0, .int v0), (1, .int v1), (2, .int v2), (3, .int v3), (4, .int v4), (5, .int v5), (11, .int a.2.1), (12, .int a.2.2.1), (13, .int r11)]) [1, 2, 3, 4, 5, 6, 8, 9, 0] rfl ?_
      exact jc_CaseLayoutModel_goesThrough_164L111 C hR hr hlk v0 v1 v2 v3 v4 v5 a.2.1 a.2.2.1 r11  x11 _ hf hk
    · have hf := (if_pos h12).symm.trans hf
      refine gx_iload C 0 d_Mod_goesThrough_159 rfl ?_
      refine gx_if_le (tgt := 168) C d_Mod_goesThrough_161 (by decide) (fun h15 => ?_) (fun h15 => ?_)
      · have hf := (if_pos h15).symm.trans hf
        refine gx_iconst C (v := 0) d_Mod_goesThrough_168 (by decide) ?_
        refine gx_lv (lv' := [(0, .int v0), (1, .int v1), (2, .int v2), (3, .int v3), (4, .int v4), (5, .int v5), (11, .int a.2.1), (12, .int a.2.2.1), (13, .int r11)]) [1, 2, 3, 4, 5, 6, 8, 9, 0] rfl ?_
        exact jc_CaseLayoutModel_goesThrough_169L111 C hR hr hlk v0 v1 v2 v3 v4 v5 a.2.1 a.2.2.1 r11 0 x11 _ hf hk
      · have hf := (if_neg h15).symm.trans hf
        refine gx_lv (lv' := [(0, .int v0), (1, .int v1), (2, .int v2), (3, .int v3), (4, .int v4), (5, .int v5), (11, .int a.2.1), (12, .int a.2.2.1), (13, .int r11)]) [1, 2, 3, 4, 5, 6, 8, 9, 0] rfl ?_
        exact jc_CaseLayoutModel_goesThrough_164L111 C hR hr hlk v0 v1 v2 v3 v4 v5 a.2.1 a.2.2.1 r11  x11 _ hf hk
set_option maxHeartbeats 4000000 in
set_option maxRecDepth 100000 in
theorem jc_CaseLayoutModel_goesThrough_102 {K : gx_K} {E : gx_E} (C : gx_C K E "CaseLayoutModel" prog_10_method_26_code 14) (hR : K.R = rm_CaseLayoutModel_goesThrough) (hr : K.meth.sig.returnType = (some .boolean)) (hlk : K.meth.locks = false) (v0 : Int32) (v1 : Int32) (v2 : Int32) (v3 : Int32) (v4 : Int32) (v5 : Int32) (x : gx_S) (o : Int32 × gx_S) (hf : j_CaseLayoutModel_goesThrough_102 v0 v1 v2 v3 v4 v5 x = some o) (hk : ∀ t, MQ K.below (gx_Qi E (gx_AB false E K.s.heap.size) o.1 o.2) K.args K.s 0 0 (gx_AB false E K.s.heap.size) t → K.Q t) : gx_G K E (gx_AB false E K.s.heap.size) 0 0 x 102 [(0, .int v0), (1, .int v1), (2, .int v2), (3, .int v3), (4, .int v4), (5, .int v5)] [] := by
  unfold j_CaseLayoutModel_goesThrough_102 at hf
  refine gx_iconst C (v := 0) d_Mod_goesThrough_102 (by decide) ?_
  refine gx_istore C (lv' := [(10, .int 0), (0, .int v0), (1, .int v1), (2, .int v2), (3, .int v3), (4, .int v4), (5, .int v5)]) d_Mod_goesThrough_103 (by decide) rfl ?_
  refine gx_iconst C (v := 0) d_Mod_goesThrough_105 (by decide) ?_
  refine gx_istore C (lv' := [(11, .int 0), (10, .int 0), (0, .int v0), (1, .int v1), (2, .int v2), (3, .int v3), (4, .int v4), (5, .int v5)]) d_Mod_goesThrough_106 (by decide) rfl ?_
  refine gx_iconst C (v := 0) d_Mod_goesThrough_108 (by decide) ?_
  refine gx_istore C (lv' := [(12, .int 0), (11, .int 0), (10, .int 0), (0, .int v0), (1, .int v1), (2, .int v2), (3, .int v3), (4, .int v4), (5, .int v5)]) d_Mod_goesThrough_109 (by decide) rfl ?_
  refine gx_lv (lv' := [(0, .int v0), (1, .int v1), (2, .int v2), (3, .int v3), (4, .int v4), (5, .int v5), (10, .int 0), (11, .int 0), (12, .int 0)]) [3, 4, 5, 6, 7, 8, 2, 1, 0] rfl ?_
  obtain ⟨e16, he16, hf⟩ := gx_bl_some hf
  refine (gx_loop (P := pp_CaseLayoutModel_goesThrough_111 K E v0 v1 v2 v3 v4 v5) (Q := pq_CaseLayoutModel_goesThrough_111 K E v0 v1 v2 v3 v4 v5) (fun a9 o9 h1 h2 => sc_CaseLayoutModel_goesThrough_111 C hR hr hlk v0 v1 v2 v3 v4 v5 a9 o9 h1 h2) gx_fuel (0, 0, 0, x) e16 he16 ?_ : pp_CaseLayoutModel_goesThrough_111 K E v0 v1 v2 v3 v4 v5 (0, 0, 0, x))
  unfold pq_CaseLayoutModel_goesThrough_111
  refine gx_iload C 0 d_Mod_goesThrough_194 rfl ?_
  refine gx_if_eq (tgt := 208) C d_Mod_goesThrough_196 (by decide) (fun h17 => ?_) (fun h17 => ?_)
  · have hf := (if_pos h17).symm.trans hf
    refine gx_iconst C (v := 0) d_Mod_goesThrough_208 (by decide) ?_
    cases hf
    exact gx_zret C hr hlk hk (by decide) d_Mod_goesThrough_209
  · have hf := (if_neg h17).symm.trans hf
    refine gx_iload C 1 d_Mod_goesThrough_199 rfl ?_
    refine gx_if_eq (tgt := 208) C d_Mod_goesThrough_201 (by decide) (fun h18 => ?_) (fun h18 => ?_)
    · have hf := (if_pos h18).symm.trans hf
      refine gx_iconst C (v := 0) d_Mod_goesThrough_208 (by decide) ?_
      cases hf
      exact gx_zret C hr hlk hk (by decide) d_Mod_goesThrough_209
    · have hf := (if_neg h18).symm.trans hf
      refine gx_iconst C (v := 1) d_Mod_goesThrough_204 (by decide) ?_
      refine gx_goto (tgt := 209) C d_Mod_goesThrough_205 (by decide) ?_
      cases hf
      exact gx_zret C hr hlk hk (by decide) d_Mod_goesThrough_209
set_option maxHeartbeats 4000000 in
set_option maxRecDepth 100000 in
theorem jc_CaseLayoutModel_goesThrough_46 {K : gx_K} {E : gx_E} (C : gx_C K E "CaseLayoutModel" prog_10_method_26_code 14) (hR : K.R = rm_CaseLayoutModel_goesThrough) (hr : K.meth.sig.returnType = (some .boolean)) (hlk : K.meth.locks = false) (v0 : Int32) (v1 : Int32) (v2 : Int32) (v3 : Int32) (v4 : Int32) (v5 : Int32) (v6 : Int32) (v7 : Int32) (v8 : Int32) (w0 : Int32) (x : gx_S) (o : Int32 × gx_S) (hf : j_CaseLayoutModel_goesThrough_46 v0 v1 v2 v3 v4 v5 v6 v7 v8 w0 x = some o) (hk : ∀ t, MQ K.below (gx_Qi E (gx_AB false E K.s.heap.size) o.1 o.2) K.args K.s 0 0 (gx_AB false E K.s.heap.size) t → K.Q t) : gx_G K E (gx_AB false E K.s.heap.size) 0 0 x 46 [(0, .int v0), (1, .int v1), (2, .int v2), (3, .int v3), (4, .int v4), (5, .int v5), (6, .int v6), (7, .int v7), (8, .int v8)] [.int w0] := by
  unfold j_CaseLayoutModel_goesThrough_46 at hf
  refine gx_istore C (lv' := [(9, .int w0), (0, .int v0), (1, .int v1), (2, .int v2), (3, .int v3), (4, .int v4), (5, .int v5), (6, .int v6), (7, .int v7), (8, .int v8)]) d_Mod_goesThrough_46 (by decide) rfl ?_
  refine gx_iload C 8 d_Mod_goesThrough_48 rfl ?_
  refine gx_iconst C (v := 2) d_Mod_goesThrough_50 (by decide) ?_
  refine gx_iload C 5 d_Mod_goesThrough_51 rfl ?_
  refine gx_imul C d_Mod_goesThrough_53 ?_
  refine gx_icmp_le (tgt := 88) C d_Mod_goesThrough_54 (by decide) (fun h5 => ?_) (fun h5 => ?_)
  · have hf := (if_pos h5).symm.trans hf
    refine gx_iconst C (v := 0) d_Mod_goesThrough_88 (by decide) ?_
    cases hf
    exact gx_zret C hr hlk hk (by decide) d_Mod_goesThrough_89
  · have hf := (if_neg h5).symm.trans hf
    refine gx_iload C 7 d_Mod_goesThrough_57 rfl ?_
    refine gx_iconst C (v := 2) d_Mod_goesThrough_59 (by decide) ?_
    refine gx_iload C 5 d_Mod_goesThrough_60 rfl ?_
    refine gx_imul C d_Mod_goesThrough_62 ?_
    refine gx_iconst C (v := 2) d_Mod_goesThrough_63 (by decide) ?_
    refine gx_iadd C d_Mod_goesThrough_64 ?_
    refine gx_icmp_ge (tgt := 88) C d_Mod_goesThrough_65 (by decide) (fun h6 => ?_) (fun h6 => ?_)
    · have hf := (if_pos h6).symm.trans hf
      refine gx_iconst C (v := 0) d_Mod_goesThrough_88 (by decide) ?_
      cases hf
      exact gx_zret C hr hlk hk (by decide) d_Mod_goesThrough_89
    · have hf := (if_neg h6).symm.trans hf
      refine gx_iload C 0 d_Mod_goesThrough_68 rfl ?_
      refine gx_iconst C (v := 2) d_Mod_goesThrough_70 (by decide) ?_
      refine gx_iload C 6 d_Mod_goesThrough_71 rfl ?_
      refine gx_imul C d_Mod_goesThrough_73 ?_
      refine gx_icmp_le (tgt := 88) C d_Mod_goesThrough_74 (by decide) (fun h7 => ?_) (fun h7 => ?_)
      · have hf := (if_pos h7).symm.trans hf
        refine gx_iconst C (v := 0) d_Mod_goesThrough_88 (by decide) ?_
        cases hf
        exact gx_zret C hr hlk hk (by decide) d_Mod_goesThrough_89
      · have hf := (if_neg h7).symm.trans hf
        refine gx_iload C 9 d_Mod_goesThrough_77 rfl ?_
        refine gx_iconst C (v := 2) d_Mod_goesThrough_79 (by decide) ?_
        refine gx_iload C 6 d_Mod_goesThrough_80 rfl ?_
        refine gx_imul C d_Mod_goesThrough_82 ?_
        refine gx_iconst C (v := 2) d_Mod_goesThrough_83 (by decide) ?_
        refine gx_iadd C d_Mod_goesThrough_84 ?_
        refine gx_icmp_lt (tgt := 90) C d_Mod_goesThrough_85 (by decide) (fun h8 => ?_) (fun h8 => ?_)
        · have hf := (if_pos h8).symm.trans hf
          refine gx_iload_n C 1 d_Mod_goesThrough_90 rfl rfl ?_
          refine gx_iload_n C 3 d_Mod_goesThrough_91 rfl rfl ?_
          refine gx_icmp_ne (tgt := 102) C d_Mod_goesThrough_92 (by decide) (fun h9 => ?_) (fun h9 => ?_)
          · have hf := (if_neg h9).symm.trans hf
            refine gx_lv (lv' := [(0, .int v0), (1, .int v1), (2, .int v2), (3, .int v3), (4, .int v4), (5, .int v5)]) [1, 2, 3, 4, 5, 6] rfl ?_
            exact jc_CaseLayoutModel_goesThrough_102 C hR hr hlk v0 v1 v2 v3 v4 v5  x _ hf hk
          · have hf := (if_pos h9).symm.trans hf
            refine gx_iload_n C 2 d_Mod_goesThrough_95 rfl rfl ?_
            refine gx_iload_n C 4 d_Mod_goesThrough_96 rfl rfl ?_
            refine gx_icmp_ne (tgt := 102) C d_Mod_goesThrough_97 (by decide) (fun h19 => ?_) (fun h19 => ?_)
            · have hf := (if_neg h19).symm.trans hf
              refine gx_lv (lv' := [(0, .int v0), (1, .int v1), (2, .int v2), (3, .int v3), (4, .int v4), (5, .int v5)]) [1, 2, 3, 4, 5, 6] rfl ?_
              exact jc_CaseLayoutModel_goesThrough_102 C hR hr hlk v0 v1 v2 v3 v4 v5  x _ hf hk
            · have hf := (if_pos h19).symm.trans hf
              refine gx_iconst C (v := 1) d_Mod_goesThrough_100 (by decide) ?_
              cases hf
              exact gx_zret C hr hlk hk (by decide) d_Mod_goesThrough_101
        · have hf := (if_neg h8).symm.trans hf
          refine gx_iconst C (v := 0) d_Mod_goesThrough_88 (by decide) ?_
          cases hf
          exact gx_zret C hr hlk hk (by decide) d_Mod_goesThrough_89
set_option maxHeartbeats 4000000 in
set_option maxRecDepth 100000 in
theorem jc_CaseLayoutModel_goesThrough_34 {K : gx_K} {E : gx_E} (C : gx_C K E "CaseLayoutModel" prog_10_method_26_code 14) (hR : K.R = rm_CaseLayoutModel_goesThrough) (hr : K.meth.sig.returnType = (some .boolean)) (hlk : K.meth.locks = false) (v0 : Int32) (v1 : Int32) (v2 : Int32) (v3 : Int32) (v4 : Int32) (v5 : Int32) (v6 : Int32) (v7 : Int32) (w0 : Int32) (x : gx_S) (o : Int32 × gx_S) (hf : j_CaseLayoutModel_goesThrough_34 v0 v1 v2 v3 v4 v5 v6 v7 w0 x = some o) (hk : ∀ t, MQ K.below (gx_Qi E (gx_AB false E K.s.heap.size) o.1 o.2) K.args K.s 0 0 (gx_AB false E K.s.heap.size) t → K.Q t) : gx_G K E (gx_AB false E K.s.heap.size) 0 0 x 34 [(0, .int v0), (1, .int v1), (2, .int v2), (3, .int v3), (4, .int v4), (5, .int v5), (6, .int v6), (7, .int v7)] [.int w0] := by
  unfold j_CaseLayoutModel_goesThrough_34 at hf
  refine gx_istore C (lv' := [(8, .int w0), (0, .int v0), (1, .int v1), (2, .int v2), (3, .int v3), (4, .int v4), (5, .int v5), (6, .int v6), (7, .int v7)]) d_Mod_goesThrough_34 (by decide) rfl ?_
  refine gx_iload_n C 2 d_Mod_goesThrough_36 rfl rfl ?_
  refine gx_iload_n C 4 d_Mod_goesThrough_37 rfl rfl ?_
  refine gx_icmp_ge (tgt := 45) C d_Mod_goesThrough_38 (by decide) (fun h4 => ?_) (fun h4 => ?_)
  · have hf := (if_pos h4).symm.trans hf
    refine gx_iload_n C 2 d_Mod_goesThrough_45 rfl rfl ?_
    refine gx_lv (lv' := [(0, .int v0), (1, .int v1), (2, .int v2), (3, .int v3), (4, .int v4), (5, .int v5), (6, .int v6), (7, .int v7), (8, .int w0)]) [1, 2, 3, 4, 5, 6, 7, 8, 0] rfl ?_
    exact jc_CaseLayoutModel_goesThrough_46 C hR hr hlk v0 v1 v2 v3 v4 v5 v6 v7 w0 v1 x _ hf hk
  · have hf := (if_neg h4).symm.trans hf
    refine gx_iload_n C 4 d_Mod_goesThrough_41 rfl rfl ?_
    refine gx_goto (tgt := 46) C d_Mod_goesThrough_42 (by decide) ?_
    refine gx_lv (lv' := [(0, .int v0), (1, .int v1), (2, .int v2), (3, .int v3), (4, .int v4), (5, .int v5), (6, .int v6), (7, .int v7), (8, .int w0)]) [1, 2, 3, 4, 5, 6, 7, 8, 0] rfl ?_
    exact jc_CaseLayoutModel_goesThrough_46 C hR hr hlk v0 v1 v2 v3 v4 v5 v6 v7 w0 v3 x _ hf hk
set_option maxHeartbeats 4000000 in
set_option maxRecDepth 100000 in
theorem jc_CaseLayoutModel_goesThrough_22 {K : gx_K} {E : gx_E} (C : gx_C K E "CaseLayoutModel" prog_10_method_26_code 14) (hR : K.R = rm_CaseLayoutModel_goesThrough) (hr : K.meth.sig.returnType = (some .boolean)) (hlk : K.meth.locks = false) (v0 : Int32) (v1 : Int32) (v2 : Int32) (v3 : Int32) (v4 : Int32) (v5 : Int32) (v6 : Int32) (w0 : Int32) (x : gx_S) (o : Int32 × gx_S) (hf : j_CaseLayoutModel_goesThrough_22 v0 v1 v2 v3 v4 v5 v6 w0 x = some o) (hk : ∀ t, MQ K.below (gx_Qi E (gx_AB false E K.s.heap.size) o.1 o.2) K.args K.s 0 0 (gx_AB false E K.s.heap.size) t → K.Q t) : gx_G K E (gx_AB false E K.s.heap.size) 0 0 x 22 [(0, .int v0), (1, .int v1), (2, .int v2), (3, .int v3), (4, .int v4), (5, .int v5), (6, .int v6)] [.int w0] := by
  unfold j_CaseLayoutModel_goesThrough_22 at hf
  refine gx_istore C (lv' := [(7, .int w0), (0, .int v0), (1, .int v1), (2, .int v2), (3, .int v3), (4, .int v4), (5, .int v5), (6, .int v6)]) d_Mod_goesThrough_22 (by decide) rfl ?_
  refine gx_iload_n C 2 d_Mod_goesThrough_24 rfl rfl ?_
  refine gx_iload_n C 4 d_Mod_goesThrough_25 rfl rfl ?_
  refine gx_icmp_ge (tgt := 33) C d_Mod_goesThrough_26 (by decide) (fun h3 => ?_) (fun h3 => ?_)
  · have hf := (if_pos h3).symm.trans hf
    refine gx_iload_n C 4 d_Mod_goesThrough_33 rfl rfl ?_
    refine gx_lv (lv' := [(0, .int v0), (1, .int v1), (2, .int v2), (3, .int v3), (4, .int v4), (5, .int v5), (6, .int v6), (7, .int w0)]) [1, 2, 3, 4, 5, 6, 7, 0] rfl ?_
    exact jc_CaseLayoutModel_goesThrough_34 C hR hr hlk v0 v1 v2 v3 v4 v5 v6 w0 v3 x _ hf hk
  · have hf := (if_neg h3).symm.trans hf
    refine gx_iload_n C 2 d_Mod_goesThrough_29 rfl rfl ?_
    refine gx_goto (tgt := 34) C d_Mod_goesThrough_30 (by decide) ?_
    refine gx_lv (lv' := [(0, .int v0), (1, .int v1), (2, .int v2), (3, .int v3), (4, .int v4), (5, .int v5), (6, .int v6), (7, .int w0)]) [1, 2, 3, 4, 5, 6, 7, 0] rfl ?_
    exact jc_CaseLayoutModel_goesThrough_34 C hR hr hlk v0 v1 v2 v3 v4 v5 v6 w0 v1 x _ hf hk
set_option maxHeartbeats 4000000 in
set_option maxRecDepth 100000 in
theorem jc_CaseLayoutModel_goesThrough_10 {K : gx_K} {E : gx_E} (C : gx_C K E "CaseLayoutModel" prog_10_method_26_code 14) (hR : K.R = rm_CaseLayoutModel_goesThrough) (hr : K.meth.sig.returnType = (some .boolean)) (hlk : K.meth.locks = false) (v0 : Int32) (v1 : Int32) (v2 : Int32) (v3 : Int32) (v4 : Int32) (v5 : Int32) (w0 : Int32) (x : gx_S) (o : Int32 × gx_S) (hf : j_CaseLayoutModel_goesThrough_10 v0 v1 v2 v3 v4 v5 w0 x = some o) (hk : ∀ t, MQ K.below (gx_Qi E (gx_AB false E K.s.heap.size) o.1 o.2) K.args K.s 0 0 (gx_AB false E K.s.heap.size) t → K.Q t) : gx_G K E (gx_AB false E K.s.heap.size) 0 0 x 10 [(0, .int v0), (1, .int v1), (2, .int v2), (3, .int v3), (4, .int v4), (5, .int v5)] [.int w0] := by
  unfold j_CaseLayoutModel_goesThrough_10 at hf
  refine gx_istore C (lv' := [(6, .int w0), (0, .int v0), (1, .int v1), (2, .int v2), (3, .int v3), (4, .int v4), (5, .int v5)]) d_Mod_goesThrough_10 (by decide) rfl ?_
  refine gx_iload_n C 1 d_Mod_goesThrough_12 rfl rfl ?_
  refine gx_iload_n C 3 d_Mod_goesThrough_13 rfl rfl ?_
  refine gx_icmp_ge (tgt := 21) C d_Mod_goesThrough_14 (by decide) (fun h2 => ?_) (fun h2 => ?_)
  · have hf := (if_pos h2).symm.trans hf
    refine gx_iload_n C 1 d_Mod_goesThrough_21 rfl rfl ?_
    refine gx_lv (lv' := [(0, .int v0), (1, .int v1), (2, .int v2), (3, .int v3), (4, .int v4), (5, .int v5), (6, .int w0)]) [1, 2, 3, 4, 5, 6, 0] rfl ?_
    exact jc_CaseLayoutModel_goesThrough_22 C hR hr hlk v0 v1 v2 v3 v4 v5 w0 v0 x _ hf hk
  · have hf := (if_neg h2).symm.trans hf
    refine gx_iload_n C 3 d_Mod_goesThrough_17 rfl rfl ?_
    refine gx_goto (tgt := 22) C d_Mod_goesThrough_18 (by decide) ?_
    refine gx_lv (lv' := [(0, .int v0), (1, .int v1), (2, .int v2), (3, .int v3), (4, .int v4), (5, .int v5), (6, .int w0)]) [1, 2, 3, 4, 5, 6, 0] rfl ?_
    exact jc_CaseLayoutModel_goesThrough_22 C hR hr hlk v0 v1 v2 v3 v4 v5 w0 v2 x _ hf hk
set_option maxHeartbeats 4000000 in
set_option maxRecDepth 100000 in
theorem c_CaseLayoutModel_goesThrough (l : Launch) (a0 : Int32) (a1 : Int32) (a2 : Int32) (a3 : Int32) (a4 : Int32) (a5 : Int32) (x : gx_S) (o : Int32 × gx_S) (hf : f_CaseLayoutModel_goesThrough a0 a1 a2 a3 a4 a5 x = some o) : gx_Mi false l y_Mod_goesThrough prog_10_method_26_code 14 (some .boolean) rm_CaseLayoutModel_goesThrough (fun E => [.int a0, .int a1, .int a2, .int a3, .int a4, .int a5]) x o.1 o.2 := by
  refine gx_meti (own := "CaseLayoutModel") (by decide) rfl (fun E => Nat.le_of_ble_eq_true rfl) (fun K E hl0 hR hr hlk hk C => ?_)
  subst hl0
  unfold f_CaseLayoutModel_goesThrough at hf
  show gx_G K E _ 0 0 x 0 [(0, .int a0), (1, .int a1), (2, .int a2), (3, .int a3), (4, .int a4), (5, .int a5)] []
  refine gx_iload_n C 0 d_Mod_goesThrough_0 rfl rfl ?_
  refine gx_iload_n C 2 d_Mod_goesThrough_1 rfl rfl ?_
  refine gx_icmp_ge (tgt := 9) C d_Mod_goesThrough_2 (by decide) (fun h1 => ?_) (fun h1 => ?_)
  · have hf := (if_pos h1).symm.trans hf
    refine gx_iload_n C 2 d_Mod_goesThrough_9 rfl rfl ?_
    exact jc_CaseLayoutModel_goesThrough_10 C hR hr hlk a0 a1 a2 a3 a4 a5 a2 x _ hf hk
  · have hf := (if_neg h1).symm.trans hf
    refine gx_iload_n C 0 d_Mod_goesThrough_5 rfl rfl ?_
    refine gx_goto (tgt := 10) C d_Mod_goesThrough_6 (by decide) ?_
    exact jc_CaseLayoutModel_goesThrough_10 C hR hr hlk a0 a1 a2 a3 a4 a5 a0 x _ hf hk
