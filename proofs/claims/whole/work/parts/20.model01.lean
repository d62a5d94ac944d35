def f_CaseLayoutModel_in (a0 : Int32) (a1 : Int32) (a2 : Int32) (x : gx_S) : Option (Int32 × gx_S) :=
  if a0 < a1 then (some (0, x)) else (if a2 < a0 then (some (0, x)) else (some (1, x)))
abbrev rm_CaseLayoutModel_in : Room := { frames := 0, cells := 0, slots := 0, locals := 0 }
set_option maxHeartbeats 4000000 in
set_option maxRecDepth 100000 in
theorem c_CaseLayoutModel_in (l : Launch) (a0 : Int32) (a1 : Int32) (a2 : Int32) (x : gx_S) (o : Int32 × gx_S) (hf : f_CaseLayoutModel_in a0 a1 a2 x = some o) : gx_Mi false l y_Mod_in prog_10_method_5_code 3 (some .boolean) rm_CaseLayoutModel_in (fun E => [.int a0, .int a1, .int a2]) x o.1 o.2 := by
  refine gx_meti (own := "CaseLayoutModel") (by decide) rfl (fun E => Nat.le_of_ble_eq_true rfl) (fun K E hl0 hR hr hlk hk C => ?_)
  subst hl0
  unfold f_CaseLayoutModel_in at hf
  show gx_G K E _ 0 0 x 0 [(0, .int a0), (1, .int a1), (2, .int a2)] []
  refine gx_iload_n C 0 d_Mod_in_0 rfl rfl ?_
  refine gx_iload_n C 1 d_Mod_in_1 rfl rfl ?_
  refine gx_icmp_lt (tgt := 14) C d_Mod_in_2 (by decide) (fun h1 => ?_) (fun h1 => ?_)
  · have hf := (if_pos h1).symm.trans hf
    refine gx_iconst C (v := 0) d_Mod_in_14 (by decide) ?_
    cases hf
    exact gx_zret C hr hlk hk (by decide) d_Mod_in_15
  · have hf := (if_neg h1).symm.trans hf
    refine gx_iload_n C 0 d_Mod_in_5 rfl rfl ?_
    refine gx_iload_n C 2 d_Mod_in_6 rfl rfl ?_
    refine gx_icmp_gt (tgt := 14) C d_Mod_in_7 (by decide) (fun h2 => ?_) (fun h2 => ?_)
    · have hf := (if_pos h2).symm.trans hf
      refine gx_iconst C (v := 0) d_Mod_in_14 (by decide) ?_
      cases hf
      exact gx_zret C hr hlk hk (by decide) d_Mod_in_15
    · have hf := (if_neg h2).symm.trans hf
      refine gx_iconst C (v := 1) d_Mod_in_10 (by decide) ?_
      refine gx_goto (tgt := 15) C d_Mod_in_11 (by decide) ?_
      cases hf
      exact gx_zret C hr hlk hk (by decide) d_Mod_in_15

def f_CaseLayoutModel_isCell (a1 : Int32) (a2 : Int32) (x : gx_S) : Option (Int32 × gx_S) :=
  gx_bd (f_CaseLayoutModel_in a1 0 ((gx_gI x 12) - 1) x) (fun r1 x1 => if r1 = 0 then (some (0, x1)) else (gx_bd (f_CaseLayoutModel_in a2 0 ((gx_gI x1 13) - 1) x1) (fun r3 x3 => if r3 = 0 then (some (0, x3)) else (some (1, x3)))))
abbrev rm_CaseLayoutModel_isCell : Room := { frames := 1, cells := 0, slots := 0, locals := 22 }
set_option maxHeartbeats 4000000 in
set_option maxRecDepth 100000 in
theorem c_CaseLayoutModel_isCell (l : Launch) (a1 : Int32) (a2 : Int32) (x : gx_S) (o : Int32 × gx_S) (hf : f_CaseLayoutModel_isCell a1 a2 x = some o) : gx_Mi false l y_Mod_isCell prog_10_method_6_code 3 (some .boolean) rm_CaseLayoutModel_isCell (fun E => [.ref (gx_ad E 29), .int a1, .int a2]) x o.1 o.2 := by
  refine gx_meti (own := "CaseLayoutModel") (by decide) rfl (fun E => Nat.le_of_ble_eq_true rfl) (fun K E hl0 hR hr hlk hk C => ?_)
  subst hl0
  unfold f_CaseLayoutModel_isCell at hf
  show gx_G K E _ 0 0 x 0 [(0, .ref (gx_ad E 29)), (1, .int a1), (2, .int a2)] []
  refine gx_iload_n C 1 d_Mod_isCell_0 rfl rfl ?_
  refine gx_iconst C (v := 0) d_Mod_isCell_1 (by decide) ?_
  refine gx_aload_n C 0 d_Mod_isCell_2 rfl rfl ?_
  refine gx_get C iw_Mod 29 (gx_w29 E _) rfl 1 (by decide) gw_675 rfl rfl d_Mod_isCell_3 ?_
  refine gx_iconst C (v := 1) d_Mod_isCell_6 (by decide) ?_
  refine gx_isub C d_Mod_isCell_7 ?_
  obtain ⟨r1, x1, hc1, hf⟩ := gx_bd_some hf
  refine gx_cSi (n2 := 0) (k2 := 0) C (As := [.int a1, .int 0, .int ((gx_gI x 12) - 1)]) (rest := []) 3 (c_CaseLayoutModel_in K.l a1 0 ((gx_gI x 12) - 1) x _ hc1) (Or.inr rfl) rfl (gx_goodS gw_771 gw_772 gw_10 gw_773) (by decide +kernel) (by rw [hR]; decide) rfl rfl (Nat.le_of_ble_eq_true rfl) d_Mod_isCell_8 (by rw [hR]; decide) rfl rfl ?_
  refine gx_if_eq (tgt := 32) C d_Mod_isCell_11 (by decide) (fun h2 => ?_) (fun h2 => ?_)
  · have hf := (if_pos h2).symm.trans hf
    refine gx_iconst C (v := 0) d_Mod_isCell_32 (by decide) ?_
    cases hf
    exact gx_zret C hr hlk hk (by decide) d_Mod_isCell_33
  · have hf := (if_neg h2).symm.trans hf
    refine gx_iload_n C 2 d_Mod_isCell_14 rfl rfl ?_
    refine gx_iconst C (v := 0) d_Mod_isCell_15 (by decide) ?_
    refine gx_aload_n C 0 d_Mod_isCell_16 rfl rfl ?_
    refine gx_get C iw_Mod 29 (gx_w29 E _) rfl 2 (by decide) gw_676 rfl rfl d_Mod_isCell_17 ?_
    refine gx_iconst C (v := 1) d_Mod_isCell_20 (by decide) ?_
    refine gx_isub C d_Mod_isCell_21 ?_
    obtain ⟨r3, x3, hc3, hf⟩ := gx_bd_some hf
    refine gx_cSi (n2 := 0) (k2 := 0) C (As := [.int a2, .int 0, .int ((gx_gI x1 13) - 1)]) (rest := []) 3 (c_CaseLayoutModel_in K.l a2 0 ((gx_gI x1 13) - 1) x1 _ hc3) (Or.inr rfl) rfl (gx_goodS gw_771 gw_772 gw_10 gw_773) (by decide +kernel) (by rw [hR]; decide) rfl rfl (Nat.le_of_ble_eq_true rfl) d_Mod_isCell_22 (by rw [hR]; decide) rfl rfl ?_
    refine gx_if_eq (tgt := 32) C d_Mod_isCell_25 (by decide) (fun h4 => ?_) (fun h4 => ?_)
    · have hf := (if_pos h4).symm.trans hf
      refine gx_iconst C (v := 0) d_Mod_isCell_32 (by decide) ?_
      cases hf
      exact gx_zret C hr hlk hk (by decide) d_Mod_isCell_33
    · have hf := (if_neg h4).symm.trans hf
      refine gx_iconst C (v := 1) d_Mod_isCell_28 (by decide) ?_
      refine gx_goto (tgt := 33) C d_Mod_isCell_29 (by decide) ?_
      cases hf
      exact gx_zret C hr hlk hk (by decide) d_Mod_isCell_33

def j_CaseLayoutModel_throwing_26 (w0 : Int32) (x : gx_S) : Option (Int32 × gx_S) :=
  if (gx_gI (gx_sI x 11 w0) 11) ≤ 0 then (some (0, gx_sI x 11 w0)) else (some (1, gx_sI x 11 w0))
def f_CaseLayoutModel_throwing (a1 : Int32) (a2 : Int32) (a3 : Int32) (x : gx_S) : Option (Int32 × gx_S) :=
  if a1 = 0 then (if a2 = 0 then (if a3 = 0 then (j_CaseLayoutModel_throwing_26  0 x) else (j_CaseLayoutModel_throwing_26  3 x)) else (j_CaseLayoutModel_throwing_26  2 x)) else (j_CaseLayoutModel_throwing_26  1 x)
abbrev rm_CaseLayoutModel_throwing : Room := { frames := 0, cells := 0, slots := 0, locals := 0 }
set_option maxHeartbeats 4000000 in
set_option maxRecDepth 100000 in
theorem jc_CaseLayoutModel_throwing_26 {K : gx_K} {E : gx_E} (C : gx_C K E "CaseLayoutModel" prog_10_method_4_code 4) (hR : K.R = rm_CaseLayoutModel_throwing) (hr : K.meth.sig.returnType = (some .boolean)) (hlk : K.meth.locks = false) (w0 : Int32) (x : gx_S) (o : Int32 × gx_S) (hf : j_CaseLayoutModel_throwing_26 w0 x = some o) (hk : ∀ t, MQ K.below (gx_Qi E (gx_AB true E K.s.heap.size) o.1 o.2) K.args K.s 0 0 (gx_AB true E K.s.heap.size) t → K.Q t) : gx_G K E (gx_AB true E K.s.heap.size) 0 0 x 26 [(0, .ref (gx_ad E 29))] [.int w0, .ref (gx_ad E 29)] := by
  unfold j_CaseLayoutModel_throwing_26 at hf
  refine gx_put C (ty := .int) (x' := gx_sI x 11 w0) iw_Mod ty_Mod tk_Mod tn_Mod 29 (gx_w29 E _) rfl 0 (by decide) gw_674 rfl rfl (by decide +kernel) rfl rfl (Nat.le_of_ble_eq_true rfl) (gx_p29_0 E _ _) d_Mod_throwing_26 ?_
  refine gx_aload_n C 0 d_Mod_throwing_29 rfl rfl ?_
  refine gx_get C iw_Mod 29 (gx_w29 E _) rfl 0 (by decide) gw_674 rfl rfl d_Mod_throwing_30 ?_
  refine gx_if_le (tgt := 40) C d_Mod_throwing_33 (by decide) (fun h4 => ?_) (fun h4 => ?_)
  · have hf := (if_pos h4).symm.trans hf
    refine gx_iconst C (v := 0) d_Mod_throwing_40 (by decide) ?_
    cases hf
    exact gx_zret C hr hlk hk (by decide) d_Mod_throwing_41
  · have hf := (if_neg h4).symm.trans hf
    refine gx_iconst C (v := 1) d_Mod_throwing_36 (by decide) ?_
    refine gx_goto (tgt := 41) C d_Mod_throwing_37 (by decide) ?_
    cases hf
    exact gx_zret C hr hlk hk (by decide) d_Mod_throwing_41
set_option maxHeartbeats 4000000 in
set_option maxRecDepth 100000 in
theorem c_CaseLayoutModel_throwing (l : Launch) (a1 : Int32) (a2 : Int32) (a3 : Int32) (x : gx_S) (o : Int32 × gx_S) (hf : f_CaseLayoutModel_throwing a1 a2 a3 x = some o) : gx_Mi true l y_Mod_throwing prog_10_method_4_code 4 (some .boolean) rm_CaseLayoutModel_throwing (fun E => [.ref (gx_ad E 29), .int a1, .int a2, .int a3]) x o.1 o.2 := by
  refine gx_meti (own := "CaseLayoutModel") (by decide) rfl (fun E => Nat.le_of_ble_eq_true rfl) (fun K E hl0 hR hr hlk hk C => ?_)
  subst hl0
  unfold f_CaseLayoutModel_throwing at hf
  show gx_G K E _ 0 0 x 0 [(0, .ref (gx_ad E 29)), (1, .int a1), (2, .int a2), (3, .int a3)] []
  refine gx_aload_n C 0 d_Mod_throwing_0 rfl rfl ?_
  refine gx_iload_n C 1 d_Mod_throwing_1 rfl rfl ?_
  refine gx_if_eq (tgt := 9) C d_Mod_throwing_2 (by decide) (fun h1 => ?_) (fun h1 => ?_)
  · have hf := (if_pos h1).symm.trans hf
    refine gx_iload_n C 2 d_Mod_throwing_9 rfl rfl ?_
    refine gx_if_eq (tgt := 17) C d_Mod_throwing_10 (by decide) (fun h2 => ?_) (fun h2 => ?_)
    · have hf := (if_pos h2).symm.trans hf
      refine gx_iload_n C 3 d_Mod_throwing_17 rfl rfl ?_
      refine gx_if_eq (tgt := 25) C d_Mod_throwing_18 (by decide) (fun h3 => ?_) (fun h3 => ?_)
      · have hf := (if_pos h3).symm.trans hf
        refine gx_iconst C (v := 0) d_Mod_throwing_25 (by decide) ?_
        refine gx_lv (lv' := [(0, .ref (gx_ad E 29))]) [0] rfl ?_
        exact jc_CaseLayoutModel_throwing_26 C hR hr hlk  0 x _ hf hk
      · have hf := (if_neg h3).symm.trans hf
        refine gx_iconst C (v := 3) d_Mod_throwing_21 (by decide) ?_
        refine gx_goto (tgt := 26) C d_Mod_throwing_22 (by decide) ?_
        refine gx_lv (lv' := [(0, .ref (gx_ad E 29))]) [0] rfl ?_
        exact jc_CaseLayoutModel_throwing_26 C hR hr hlk  3 x _ hf hk
    · have hf := (if_neg h2).symm.trans hf
      refine gx_iconst C (v := 2) d_Mod_throwing_13 (by decide) ?_
      refine gx_goto (tgt := 26) C d_Mod_throwing_14 (by decide) ?_
      refine gx_lv (lv' := [(0, .ref (gx_ad E 29))]) [0] rfl ?_
      exact jc_CaseLayoutModel_throwing_26 C hR hr hlk  2 x _ hf hk
  · have hf := (if_neg h1).symm.trans hf
    refine gx_iconst C (v := 1) d_Mod_throwing_5 (by decide) ?_
    refine gx_goto (tgt := 26) C d_Mod_throwing_6 (by decide) ?_
    refine gx_lv (lv' := [(0, .ref (gx_ad E 29))]) [0] rfl ?_
    exact jc_CaseLayoutModel_throwing_26 C hR hr hlk  1 x _ hf hk

def s_CaseLayoutModel_isExit_5 (v1 : Int32) (v2 : Int32) (a : Int32 × Int32 × gx_S) : Option ((Int32 × Int32 × gx_S) ⊕ (Nat × Int32 × Int32 × gx_S)) :=
  if (gx_gI a.2.2 16) ≤ a.2.1 then (some (.inr (0, a.1, a.2.1, a.2.2))) else (if a.1 = 0 then (gx_ck a.2.1 6 (if (gx_gA a.2.2 30 (a.2.1 : Int32).toNatClampNeg) = v1 then (gx_ck a.2.1 6 (if (gx_gA a.2.2 31 (a.2.1 : Int32).toNatClampNeg) = v2 then (some (.inl (1, a.2.1 + 1, a.2.2))) else (some (.inl (0, a.2.1 + 1, a.2.2))))) else (some (.inl (0, a.2.1 + 1, a.2.2))))) else (some (.inl (1, a.2.1 + 1, a.2.2))))
def f_CaseLayoutModel_isExit (a1 : Int32) (a2 : Int32) (x : gx_S) : Option (Int32 × gx_S) :=
  gx_bl (gx_it (s_CaseLayoutModel_isExit_5 a1 a2) gx_fuel (0, 0, x)) (fun e7 => gx_nb e7.2.1 (some (e7.2.1, e7.2.2.2)))
abbrev rm_CaseLayoutModel_isExit : Room := { frames := 0, cells := 0, slots := 0, locals := 0 }
def pp_CaseLayoutModel_isExit_5 (K : gx_K) (E : gx_E) (v1 : Int32) (v2 : Int32) (a : Int32 × Int32 × gx_S) : Prop := gx_G K E (gx_AB false E K.s.heap.size) 0 0 (a.2.2) 5 [(0, .ref (gx_ad E 29)), (1, .int v1), (2, .int v2), (3, .int a.1), (4, .int a.2.1)] []
def pq_CaseLayoutModel_isExit_5 (K : gx_K) (E : gx_E) (v1 : Int32) (v2 : Int32) (b : Nat × Int32 × Int32 × gx_S) : Prop := gx_G K E (gx_AB false E K.s.heap.size) 0 0 (b.2.2.2) 52 [(3, .int b.2.1)] []
set_option maxHeartbeats 4000000 in
set_option maxRecDepth 100000 in
theorem sc_CaseLayoutModel_isExit_5 {K : gx_K} {E : gx_E} (C : gx_C K E "CaseLayoutModel" prog_10_method_9_code 5) (hR : K.R = rm_CaseLayoutModel_isExit) (hr : K.meth.sig.returnType = (some .boolean)) (hlk : K.meth.locks = false) (v1 : Int32) (v2 : Int32) (a : Int32 × Int32 × gx_S) (o : (Int32 × Int32 × gx_S) ⊕ (Nat × Int32 × Int32 × gx_S)) (hf : s_CaseLayoutModel_isExit_5 v1 v2 a = some o) (hk : gx_or (pp_CaseLayoutModel_isExit_5 K E v1 v2) (pq_CaseLayoutModel_isExit_5 K E v1 v2) o) : pp_CaseLayoutModel_isExit_5 K E v1 v2 a := by
  unfold s_CaseLayoutModel_isExit_5 at hf
  unfold pp_CaseLayoutModel_isExit_5
  refine gx_iload C 4 d_Mod_isExit_5 rfl ?_
  refine gx_aload_n C 0 d_Mod_isExit_7 rfl rfl ?_
  refine gx_get C iw_Mod 29 (gx_w29 E _) rfl 15 (by decide) gw_689 rfl rfl d_Mod_isExit_8 ?_
  refine gx_icmp_ge (tgt := 52) C d_Mod_isExit_11 (by decide) (fun h1 => ?_) (fun h1 => ?_)
  · have hf := (if_pos h1).symm.trans hf
    cases hf
    have hk : pq_CaseLayoutModel_isExit_5 K E v1 v2 _ := hk
    unfold pq_CaseLayoutModel_isExit_5 at hk
    refine gx_lv (lv' := [(3, .int a.1)]) [3] rfl ?_
    exact hk
  · have hf := (if_neg h1).symm.trans hf
    refine gx_iload_n C 3 d_Mod_isExit_14 rfl rfl ?_
    refine gx_if_ne (tgt := 40) C d_Mod_isExit_15 (by decide) (fun h2 => ?_) (fun h2 => ?_)
    · have hf := (if_neg h2).symm.trans hf
      refine gx_iconst C (v := 1) d_Mod_isExit_40 (by decide) ?_
      refine gx_goto (tgt := 45) C d_Mod_isExit_41 (by decide) ?_
      refine gx_istore_n C (lv' := [(3, .int 1), (0, .ref (gx_ad E 29)), (1, .int v1), (2, .int v2), (4, .int a.2.1)]) d_Mod_isExit_45 rfl (by decide) rfl ?_
      refine gx_iinc C (v := a.2.1 + 1) (lv' := [(4, .int (a.2.1 + 1)), (3, .int 1), (0, .ref (gx_ad E 29)), (1, .int v1), (2, .int v2)]) 4 d_Mod_isExit_46 rfl rfl (by decide) rfl ?_
      refine gx_goto (tgt := 5) C d_Mod_isExit_49 (by decide) ?_
      cases hf
      refine gx_lv (lv' := [(0, .ref (gx_ad E 29)), (1, .int v1), (2, .int v2), (3, .int 1), (4, .int (a.2.1 + 1))]) [2, 3, 4, 1, 0] rfl ?_
      exact hk
    · have hf := (if_pos h2).symm.trans hf
      refine gx_aload_n C 0 d_Mod_isExit_18 rfl rfl ?_
      refine gx_get C iw_Mod 29 (gx_w29 E _) rfl 16 (by decide) gw_690 rfl rfl d_Mod_isExit_19 ?_
      refine gx_iload C 4 d_Mod_isExit_22 rfl ?_
      obtain ⟨hi3, hf⟩ := gx_ck_some hf
      refine gx_iald C 40 0 (gx_w40 E _) rfl hi3 d_Mod_isExit_24 ?_
      refine gx_iload_n C 1 d_Mod_isExit_25 rfl rfl ?_
      refine gx_icmp_ne (tgt := 44) C d_Mod_isExit_26 (by decide) (fun h4 => ?_) (fun h4 => ?_)
      · have hf := (if_neg h4).symm.trans hf
        refine gx_iconst C (v := 0) d_Mod_isExit_44 (by decide) ?_
        refine gx_istore_n C (lv' := [(3, .int 0), (0, .ref (gx_ad E 29)), (1, .int v1), (2, .int v2), (4, .int a.2.1)]) d_Mod_isExit_45 rfl (by decide) rfl ?_
        refine gx_iinc C (v := a.2.1 + 1) (lv' := [(4, .int (a.2.1 + 1)), (3, .int 0), (0, .ref (gx_ad E 29)), (1, .int v1), (2, .int v2)]) 4 d_Mod_isExit_46 rfl rfl (by decide) rfl ?_
        refine gx_goto (tgt := 5) C d_Mod_isExit_49 (by decide) ?_
        cases hf
        refine gx_lv (lv' := [(0, .ref (gx_ad E 29)), (1, .int v1), (2, .int v2), (3, .int 0), (4, .int (a.2.1 + 1))]) [2, 3, 4, 1, 0] rfl ?_
        exact hk
      · have hf := (if_pos h4).symm.trans hf
        refine gx_aload_n C 0 d_Mod_isExit_29 rfl rfl ?_
        refine gx_get C iw_Mod 29 (gx_w29 E _) rfl 17 (by decide) gw_691 rfl rfl d_Mod_isExit_30 ?_
        refine gx_iload C 4 d_Mod_isExit_33 rfl ?_
        obtain ⟨hi5, hf⟩ := gx_ck_some hf
        refine gx_iald C 41 0 (gx_w41 E _) rfl hi5 d_Mod_isExit_35 ?_
        refine gx_iload_n C 2 d_Mod_isExit_36 rfl rfl ?_
        refine gx_icmp_ne (tgt := 44) C d_Mod_isExit_37 (by decide) (fun h6 => ?_) (fun h6 => ?_)
        · have hf := (if_neg h6).symm.trans hf
          refine gx_iconst C (v := 0) d_Mod_isExit_44 (by decide) ?_
          refine gx_istore_n C (lv' := [(3, .int 0), (0, .ref (gx_ad E 29)), (1, .int v1), (2, .int v2), (4, .int a.2.1)]) d_Mod_isExit_45 rfl (by decide) rfl ?_
          refine gx_iinc C (v := a.2.1 + 1) (lv' := [(4, .int (a.2.1 + 1)), (3, .int 0), (0, .ref (gx_ad E 29)), (1, .int v1), (2, .int v2)]) 4 d_Mod_isExit_46 rfl rfl (by decide) rfl ?_
          refine gx_goto (tgt := 5) C d_Mod_isExit_49 (by decide) ?_
          cases hf
          refine gx_lv (lv' := [(0, .ref (gx_ad E 29)), (1, .int v1), (2, .int v2), (3, .int 0), (4, .int (a.2.1 + 1))]) [2, 3, 4, 1, 0] rfl ?_
          exact hk
        · have hf := (if_pos h6).symm.trans hf
          refine gx_iconst C (v := 1) d_Mod_isExit_40 (by decide) ?_
          refine gx_goto (tgt := 45) C d_Mod_isExit_41 (by decide) ?_
          refine gx_istore_n C (lv' := [(3, .int 1), (0, .ref (gx_ad E 29)), (1, .int v1), (2, .int v2), (4, .int a.2.1)]) d_Mod_isExit_45 rfl (by decide) rfl ?_
          refine gx_iinc C (v := a.2.1 + 1) (lv' := [(4, .int (a.2.1 + 1)), (3, .int 1), (0, .ref (gx_ad E 29)), (1, .int v1), (2, .int v2)]) 4 d_Mod_isExit_46 rfl rfl (by decide) rfl ?_
          refine gx_goto (tgt := 5) C d_Mod_isExit_49 (by decide) ?_
          cases hf
          refine gx_lv (lv' := [(0, .ref (gx_ad E 29)), (1, .int v1), (2, .int v2), (3, .int 1), (4, .int (a.2.1 + 1))]) [2, 3, 4, 1, 0] rfl ?_
          exact hk
set_option maxHeartbeats 4000000 in
set_option maxRecDepth 100000 in
theorem c_CaseLayoutModel_isExit (l : Launch) (a1 : Int32) (a2 : Int32) (x : gx_S) (o : Int32 × gx_S) (hf : f_CaseLayoutModel_isExit a1 a2 x = some o) : gx_Mi false l y_Mod_isExit prog_10_method_9_code 5 (some .boolean) rm_CaseLayoutModel_isExit (fun E => [.ref (gx_ad E 29), .int a1, .int a2]) x o.1 o.2 := by
  refine gx_meti (own := "CaseLayoutModel") (by decide) rfl (fun E => Nat.le_of_ble_eq_true rfl) (fun K E hl0 hR hr hlk hk C => ?_)
  subst hl0
  unfold f_CaseLayoutModel_isExit at hf
  show gx_G K E _ 0 0 x 0 [(0, .ref (gx_ad E 29)), (1, .int a1), (2, .int a2)] []
  refine gx_iconst C (v := 0) d_Mod_isExit_0 (by decide) ?_
  refine gx_istore_n C (lv' := [(3, .int 0), (0, .ref (gx_ad E 29)), (1, .int a1), (2, .int a2)]) d_Mod_isExit_1 rfl (by decide) rfl ?_
  refine gx_iconst C (v := 0) d_Mod_isExit_2 (by decide) ?_
  refine gx_istore C (lv' := [(4, .int 0), (3, .int 0), (0, .ref (gx_ad E 29)), (1, .int a1), (2, .int a2)]) d_Mod_isExit_3 (by decide) rfl ?_
  refine gx_lv (lv' := [(0, .ref (gx_ad E 29)), (1, .int a1), (2, .int a2), (3, .int 0), (4, .int 0)]) [2, 3, 4, 1, 0] rfl ?_
  obtain ⟨e7, he7, hf⟩ := gx_bl_some hf
  refine (gx_loop (P := pp_CaseLayoutModel_isExit_5 K E a1 a2) (Q := pq_CaseLayoutModel_isExit_5 K E a1 a2) (fun a9 o9 h1 h2 => sc_CaseLayoutModel_isExit_5 C hR hr hlk a1 a2 a9 o9 h1 h2) gx_fuel (0, 0, x) e7 he7 ?_ : pp_CaseLayoutModel_isExit_5 K E a1 a2 (0, 0, x))
  unfold pq_CaseLayoutModel_isExit_5
  refine gx_iload_n C 0 d_Mod_isExit_52 rfl rfl ?_
  obtain ⟨hn8, hf⟩ := gx_nb_some hf
  cases hf
  exact gx_zret C hr hlk hk hn8 d_Mod_isExit_53

def s_CaseLayoutModel_isPlace_5 (v1 : Int32) (v2 : Int32) (a : Int32 × Int32 × gx_S) : Option ((Int32 × Int32 × gx_S) ⊕ (Nat × Int32 × Int32 × gx_S)) :=
  if (gx_gI a.2.2 15) ≤ a.2.1 then (some (.inr (0, a.1, a.2.1, a.2.2))) else (if a.1 = 0 then (gx_ck a.2.1 8 (if (gx_gA a.2.2 27 (a.2.1 : Int32).toNatClampNeg) = v1 then (gx_ck a.2.1 8 (if (gx_gA a.2.2 28 (a.2.1 : Int32).toNatClampNeg) = v2 then (some (.inl (1, a.2.1 + 1, a.2.2))) else (some (.inl (0, a.2.1 + 1, a.2.2))))) else (some (.inl (0, a.2.1 + 1, a.2.2))))) else (some (.inl (1, a.2.1 + 1, a.2.2))))
def f_CaseLayoutModel_isPlace (a1 : Int32) (a2 : Int32) (x : gx_S) : Option (Int32 × gx_S) :=
  gx_bl (gx_it (s_CaseLayoutModel_isPlace_5 a1 a2) gx_fuel (0, 0, x)) (fun e7 => gx_nb e7.2.1 (some (e7.2.1, e7.2.2.2)))
abbrev rm_CaseLayoutModel_isPlace : Room := { frames := 0, cells := 0, slots := 0, locals := 0 }
def pp_CaseLayoutModel_isPlace_5 (K : gx_K) (E : gx_E) (v1 : Int32) (v2 : Int32) (a : Int32 × Int32 × gx_S) : Prop := gx_G K E (gx_AB false E K.s.heap.size) 0 0 (a.2.2) 5 [(0, .ref (gx_ad E 29)), (1, .int v1), (2, .int v2), (3, .int a.1), (4, .int a.2.1)] []
def pq_CaseLayoutModel_isPlace_5 (K : gx_K) (E : gx_E) (v1 : Int32) (v2 : Int32) (b : Nat × Int32 × Int32 × gx_S) : Prop := gx_G K E (gx_AB false E K.s.heap.size) 0 0 (b.2.2.2) 52 [(3, .int b.2.1)] []
set_option maxHeartbeats 4000000 in
set_option maxRecDepth 100000 in
theorem sc_CaseLayoutModel_isPlace_5 {K : gx_K} {E : gx_E} (C : gx_C K E "CaseLayoutModel" prog_10_method_10_code 5) (hR : K.R = rm_CaseLayoutModel_isPlace) (hr : K.meth.sig.returnType = (some .boolean)) (hlk : K.meth.locks = false) (v1 : Int32) (v2 : Int32) (a : Int32 × Int32 × gx_S) (o : (Int32 × Int32 × gx_S) ⊕ (Nat × Int32 × Int32 × gx_S)) (hf : s_CaseLayoutModel_isPlace_5 v1 v2 a = some o) (hk : gx_or (pp_CaseLayoutModel_isPlace_5 K E v1 v2) (pq_CaseLayoutModel_isPlace_5 K E v1 v2) o) : pp_CaseLayoutModel_isPlace_5 K E v1 v2 a := by
  unfold s_CaseLayoutModel_isPlace_5 at hf
  unfold pp_CaseLayoutModel_isPlace_5
  refine gx_iload C 4 d_Mod_isPlace_5 rfl ?_
  refine gx_aload_n C 0 d_Mod_isPlace_7 rfl rfl ?_
  refine gx_get C iw_Mod 29 (gx_w29 E _) rfl 11 (by decide) gw_685 rfl rfl d_Mod_isPlace_8 ?_
  refine gx_icmp_ge (tgt := 52) C d_Mod_isPlace_11 (by decide) (fun h1 => ?_) (fun h1 => ?_)
  · have hf := (if_pos h1).symm.trans hf
    cases hf
    have hk : pq_CaseLayoutModel_isPlace_5 K E v1 v2 _ := hk
    unfold pq_CaseLayoutModel_isPlace_5 at hk
    refine gx_lv (lv' := [(3, .int a.1)]) [3] rfl ?_
    exact hk
  · have hf := (if_neg h1).symm.trans hf
    refine gx_iload_n C 3 d_Mod_isPlace_14 rfl rfl ?_
    refine gx_if_ne (tgt := 40) C d_Mod_isPlace_15 (by decide) (fun h2 => ?_) (fun h2 => ?_)
    · have hf := (if_neg h2).symm.trans hf
      refine gx_iconst C (v := 1) d_Mod_isPlace_40 (by decide) ?_
      refine gx_goto (tgt := 45) C d_Mod_isPlace_41 (by decide) ?_
      refine gx_istore_n C (lv' := [(3, .int 1), (0, .ref (gx_ad E 29)), (1, .int v1), (2, .int v2), (4, .int a.2.1)]) d_Mod_isPlace_45 rfl (by decide) rfl ?_
      refine gx_iinc C (v := a.2.1 + 1) (lv' := [(4, .int (a.2.1 + 1)), (3, .int 1), (0, .ref (gx_ad E 29)), (1, .int v1), (2, .int v2)]) 4 d_Mod_isPlace_46 rfl rfl (by decide) rfl ?_
      refine gx_goto (tgt := 5) C d_Mod_isPlace_49 (by decide) ?_
      cases hf
      refine gx_lv (lv' := [(0, .ref (gx_ad E 29)), (1, .int v1), (2, .int v2), (3, .int 1), (4, .int (a.2.1 + 1))]) [2, 3, 4, 1, 0] rfl ?_
      exact hk
    · have hf := (if_pos h2).symm.trans hf
      refine gx_aload_n C 0 d_Mod_isPlace_18 rfl rfl ?_
      refine gx_get C iw_Mod 29 (gx_w29 E _) rfl 12 (by decide) gw_686 rfl rfl d_Mod_isPlace_19 ?_
      refine gx_iload C 4 d_Mod_isPlace_22 rfl ?_
      obtain ⟨hi3, hf⟩ := gx_ck_some hf
      refine gx_iald C 37 0 (gx_w37 E _) rfl hi3 d_Mod_isPlace_24 ?_
      refine gx_iload_n C 1 d_Mod_isPlace_25 rfl rfl ?_
      refine gx_icmp_ne (tgt := 44) C d_Mod_isPlace_26 (by decide) (fun h4 => ?_) (fun h4 => ?_)
      · have hf := (if_neg h4).symm.trans hf
        refine gx_iconst C (v := 0) d_Mod_isPlace_44 (by decide) ?_
        refine gx_istore_n C (lv' := [(3, .int 0), (0, .ref (gx_ad E 29)), (1, .int v1), (2, .int v2), (4, .int a.2.1)]) d_Mod_isPlace_45 rfl (by decide) rfl ?_
        refine gx_iinc C (v := a.2.1 + 1) (lv' := [(4, .int (a.2.1 + 1)), (3, .int 0), (0, .ref (gx_ad E 29)), (1, .int v1), (2, .int v2)]) 4 d_Mod_isPlace_46 rfl rfl (by decide) rfl ?_
        refine gx_goto (tgt := 5) C d_Mod_isPlace_49 (by decide) ?_
        cases hf
        refine gx_lv (lv' := [(0, .ref (gx_ad E 29)), (1, .int v1), (2, .int v2), (3, .int 0), (4, .int (a.2.1 + 1))]) [2, 3, 4, 1, 0] rfl ?_
        exact hk
      · have hf := (if_pos h4).symm.trans hf
        refine gx_aload_n C 0 d_Mod_isPlace_29 rfl rfl ?_
        refine gx_get C iw_Mod 29 (gx_w29 E _) rfl 13 (by decide) gw_687 rfl rfl d_Mod_isPlace_30 ?_
        refine gx_iload C 4 d_Mod_isPlace_33 rfl ?_
        obtain ⟨hi5, hf⟩ := gx_ck_some hf
        refine gx_iald C 38 0 (gx_w38 E _) rfl hi5 d_Mod_isPlace_35 ?_
        refine gx_iload_n C 2 d_Mod_isPlace_36 rfl rfl ?_
        refine gx_icmp_ne (tgt := 44) C d_Mod_isPlace_37 (by decide) (fun h6 => ?_) (fun h6 => ?_)
        · have hf := (if_neg h6).symm.trans hf
          refine gx_iconst C (v := 0) d_Mod_isPlace_44 (by decide) ?_
          refine gx_istore_n C (lv' := [(3, .int 0), (0, .ref (gx_ad E 29)), (1, .int v1), (2, .int v2), (4, .int a.2.1)]) d_Mod_isPlace_45 rfl (by decide) rfl ?_
          refine gx_iinc C (v := a.2.1 + 1) (lv' := [(4, .int (a.2.1 + 1)), (3, .int 0), (0, .ref (gx_ad E 29)), (1, .int v1), (2, .int v2)]) 4 d_Mod_isPlace_46 rfl rfl (by decide) rfl ?_
          refine gx_goto (tgt := 5) C d_Mod_isPlace_49 (by decide) ?_
          cases hf
          refine gx_lv (lv' := [(0, .ref (gx_ad E 29)), (1, .int v1), (2, .int v2), (3, .int 0), (4, .int (a.2.1 + 1))]) [2, 3, 4, 1, 0] rfl ?_
          exact hk
        · have hf := (if_pos h6).symm.trans hf
          refine gx_iconst C (v := 1) d_Mod_isPlace_40 (by decide) ?_
          refine gx_goto (tgt := 45) C d_Mod_isPlace_41 (by decide) ?_
          refine gx_istore_n C (lv' := [(3, .int 1), (0, .ref (gx_ad E 29)), (1, .int v1), (2, .int v2), (4, .int a.2.1)]) d_Mod_isPlace_45 rfl (by decide) rfl ?_
          refine gx_iinc C (v := a.2.1 + 1) (lv' := [(4, .int (a.2.1 + 1)), (3, .int 1), (0, .ref (gx_ad E 29)), (1, .int v1), (2, .int v2)]) 4 d_Mod_isPlace_46 rfl rfl (by decide) rfl ?_
          refine gx_goto (tgt := 5) C d_Mod_isPlace_49 (by decide) ?_
          cases hf
          refine gx_lv (lv' := [(0, .ref (gx_ad E 29)), (1, .int v1), (2, .int v2), (3, .int 1), (4, .int (a.2.1 + 1))]) [2, 3, 4, 1, 0] rfl ?_
          exact hk
set_option maxHeartbeats 4000000 in
set_option maxRecDepth 100000 in
theorem c_CaseLayoutModel_isPlace (l : Launch) (a1 : Int32) (a2 : Int32) (x : gx_S) (o : Int32 × gx_S) (hf : f_CaseLayoutModel_isPlace a1 a2 x = some o) : gx_Mi false l y_Mod_isPlace prog_10_method_10_code 5 (some .boolean) rm_CaseLayoutModel_isPlace (fun E => [.ref (gx_ad E 29), .int a1, .int a2]) x o.1 o.2 := by
  refine gx_meti (own := "CaseLayoutModel") (by decide) rfl (fun E => Nat.le_of_ble_eq_true rfl) (fun K E hl0 hR hr hlk hk C => ?_)
  subst hl0
  unfold f_CaseLayoutModel_isPlace at hf
  show gx_G K E _ 0 0 x 0 [(0, .ref (gx_ad E 29)), (1, .int a1), (2, .int a2)] []
  refine gx_iconst C (v := 0) d_Mod_isPlace_0 (by decide) ?_
  refine gx_istore_n C (lv' := [(3, .int 0), (0, .ref (gx_ad E 29)), (1, .int a1), (2, .int a2)]) d_Mod_isPlace_1 rfl (by decide) rfl ?_
  refine gx_iconst C (v := 0) d_Mod_isPlace_2 (by decide) ?_
  refine gx_istore C (lv' := [(4, .int 0), (3, .int 0), (0, .ref (gx_ad E 29)), (1, .int a1), (2, .int a2)]) d_Mod_isPlace_3 (by decide) rfl ?_
  refine gx_lv (lv' := [(0, .ref (gx_ad E 29)), (1, .int a1), (2, .int a2), (3, .int 0), (4, .int 0)]) [2, 3, 4, 1, 0] rfl ?_
  obtain ⟨e7, he7, hf⟩ := gx_bl_some hf
  refine (gx_loop (P := pp_CaseLayoutModel_isPlace_5 K E a1 a2) (Q := pq_CaseLayoutModel_isPlace_5 K E a1 a2) (fun a9 o9 h1 h2 => sc_CaseLayoutModel_isPlace_5 C hR hr hlk a1 a2 a9 o9 h1 h2) gx_fuel (0, 0, x) e7 he7 ?_ : pp_CaseLayoutModel_isPlace_5 K E a1 a2 (0, 0, x))
  unfold pq_CaseLayoutModel_isPlace_5
  refine gx_iload_n C 0 d_Mod_isPlace_52 rfl rfl ?_
  obtain ⟨hn8, hf⟩ := gx_nb_some hf
  cases hf
  exact gx_zret C hr hlk hk hn8 d_Mod_isPlace_53

def f_CaseLayoutModel_forget  (x : gx_S) : Option (Int32 × gx_S) :=
  some (0, gx_sI (gx_sI x 18 0) 20 0)
abbrev rm_CaseLayoutModel_forget : Room := { frames := 0, cells := 0, slots := 0, locals := 0 }
set_option maxHeartbeats 4000000 in
set_option maxRecDepth 100000 in
theorem c_CaseLayoutModel_forget (l : Launch)  (x : gx_S) (o : Int32 × gx_S) (hf : f_CaseLayoutModel_forget  x = some o) : gx_Mv true l y_Mod_forget prog_10_method_8_code 1 rm_CaseLayoutModel_forget (fun E => [.ref (gx_ad E 29)]) x o.2 := by
  refine gx_metv (own := "CaseLayoutModel") (by decide) rfl (fun E => Nat.le_of_ble_eq_true rfl) (fun K E hl0 hR hr hlk hk C => ?_)
  subst hl0
  unfold f_CaseLayoutModel_forget at hf
  show gx_G K E _ 0 0 x 0 [(0, .ref (gx_ad E 29))] []
  refine gx_aload_n C 0 d_Mod_forget_0 rfl rfl ?_
  refine gx_iconst C (v := 0) d_Mod_forget_1 (by decide) ?_
  refine gx_put C (ty := .boolean) (x' := gx_sI x 18 0) iw_Mod ty_Mod tk_Mod tn_Mod 29 (gx_w29 E _) rfl 24 (by decide) gw_698 rfl rfl (by decide +kernel) rfl rfl (Nat.le_of_ble_eq_true rfl) (gx_p29_24 E _ _) d_Mod_forget_2 ?_
  refine gx_aload_n C 0 d_Mod_forget_5 rfl rfl ?_
  refine gx_iconst C (v := 0) d_Mod_forget_6 (by decide) ?_
  refine gx_put C (ty := .int) (x' := gx_sI (gx_sI x 18 0) 20 0) iw_Mod ty_Mod tk_Mod tn_Mod 29 (gx_w29 E _) rfl 26 (by decide) gw_700 rfl rfl (by decide +kernel) rfl rfl (Nat.le_of_ble_eq_true rfl) (gx_p29_26 E _ _) d_Mod_forget_7 ?_
  cases hf
  exact gx_vret C hr hlk hk d_Mod_forget_10

def j_CaseLayoutModel_wall_15 (v1 : Int32) (v2 : Int32) (v3 : Int32) (w0 : Int32) (x : gx_S) : Option (Int32 × gx_S) :=
  gx_bd (f_CaseLayoutModel_throwing w0 0 0 x) (fun r3 x3 => if r3 = 0 then (gx_bd (f_CaseLayoutModel_isExit v1 v2 x3) (fun r5 x5 => if r5 = 0 then (gx_bd (f_CaseLayoutModel_isPlace v1 v2 x5) (fun r7 x7 => if r7 = 0 then (gx_ck ((9 * v2) + v1) 81 (if (gx_gA x7 20 ((9 * v2) + v1 : Int32).toNatClampNeg) = v3 then (some (0, x7)) else (gx_ck ((9 * v2) + v1) 81 (gx_bd (f_CaseLayoutModel_forget  (gx_sA x7 20 ((9 * v2) + v1 : Int32).toNatClampNeg (vp_nar .boolean v3))) (fun r12 x12 => some (1, x12)))))) else (some (0, x7)))) else (some (0, x5)))) else (some (0, x3)))
def f_CaseLayoutModel_wall (a1 : Int32) (a2 : Int32) (a3 : Int32) (x : gx_S) : Option (Int32 × gx_S) :=
  gx_bd (f_CaseLayoutModel_isCell a1 a2 x) (fun r1 x1 => if r1 = 0 then (j_CaseLayoutModel_wall_15 a1 a2 a3 1 x1) else (j_CaseLayoutModel_wall_15 a1 a2 a3 0 x1))
abbrev rm_CaseLayoutModel_wall : Room := { frames := 2, cells := 0, slots := 0, locals := 44 }
set_option maxHeartbeats 4000000 in
set_option maxRecDepth 100000 in
theorem jc_CaseLayoutModel_wall_15 {K : gx_K} {E : gx_E} (C : gx_C K E "CaseLayoutModel" prog_10_method_11_code 4) (hR : K.R = rm_CaseLayoutModel_wall) (hr : K.meth.sig.returnType = (some .boolean)) (hlk : K.meth.locks = false) (v1 : Int32) (v2 : Int32) (v3 : Int32) (w0 : Int32) (x : gx_S) (o : Int32 × gx_S) (hf : j_CaseLayoutModel_wall_15 v1 v2 v3 w0 x = some o) (hk : ∀ t, MQ K.below (gx_Qi E (gx_AB true E K.s.heap.size) o.1 o.2) K.args K.s 0 0 (gx_AB true E K.s.heap.size) t → K.Q t) : gx_G K E (gx_AB true E K.s.heap.size) 0 0 x 15 [(0, .ref (gx_ad E 29)), (1, .int v1), (2, .int v2), (3, .int v3)] [.int w0, .ref (gx_ad E 29)] := by
  unfold j_CaseLayoutModel_wall_15 at hf
  refine gx_iconst C (v := 0) d_Mod_wall_15 (by decide) ?_
  refine gx_iconst C (v := 0) d_Mod_wall_16 (by decide) ?_
  obtain ⟨r3, x3, hc3, hf⟩ := gx_bd_some hf
  refine gx_cVi (n2 := 0) (k2 := 0) C (As := [.int w0, .int 0, .int 0]) (rest := []) 29 3 (c_CaseLayoutModel_throwing K.l w0 0 0 x _ hc3) (Or.inl rfl) rfl (gx_goodV gw_774 gw_776 gs_17 gw_10 gw_777) (by decide +kernel) (gx_w29 E _) rfl (by rw [hR]; decide) rfl rfl (Nat.le_of_ble_eq_true rfl) d_Mod_wall_17 (by rw [hR]; decide) rfl rfl ?_
  refine gx_if_eq (tgt := 25) C d_Mod_wall_20 (by decide) (fun h4 => ?_) (fun h4 => ?_)
  · have hf := (if_pos h4).symm.trans hf
    refine gx_aload_n C 0 d_Mod_wall_25 rfl rfl ?_
    refine gx_iload_n C 1 d_Mod_wall_26 rfl rfl ?_
    refine gx_iload_n C 2 d_Mod_wall_27 rfl rfl ?_
    obtain ⟨r5, x5, hc5, hf⟩ := gx_bd_some hf
    refine gx_cVi (n2 := 0) (k2 := 0) C (As := [.int v1, .int v2]) (rest := []) 29 2 (c_CaseLayoutModel_isExit K.l v1 v2 x3 _ hc5) (Or.inl rfl) rfl (gx_goodV gw_778 gw_780 gs_18 gw_10 gw_781) (by decide +kernel) (gx_w29 E _) rfl (by rw [hR]; decide) rfl rfl (Nat.le_of_ble_eq_true rfl) d_Mod_wall_28 (by rw [hR]; decide) rfl rfl ?_
    refine gx_if_ne (tgt := 58) C d_Mod_wall_31 (by decide) (fun h6 => ?_) (fun h6 => ?_)
    · have hf := (if_neg h6).symm.trans hf
      refine gx_iconst C (v := 0) d_Mod_wall_58 (by decide) ?_
      cases hf
      exact gx_zret C hr hlk hk (by decide) d_Mod_wall_59
    · have hf := (if_pos h6).symm.trans hf
      refine gx_aload_n C 0 d_Mod_wall_34 rfl rfl ?_
      refine gx_iload_n C 1 d_Mod_wall_35 rfl rfl ?_
      refine gx_iload_n C 2 d_Mod_wall_36 rfl rfl ?_
      obtain ⟨r7, x7, hc7, hf⟩ := gx_bd_some hf
      refine gx_cVi (n2 := 0) (k2 := 0) C (As := [.int v1, .int v2]) (rest := []) 29 2 (c_CaseLayoutModel_isPlace K.l v1 v2 x5 _ hc7) (Or.inl rfl) rfl (gx_goodV gw_782 gw_784 gs_19 gw_10 gw_785) (by decide +kernel) (gx_w29 E _) rfl (by rw [hR]; decide) rfl rfl (Nat.le_of_ble_eq_true rfl) d_Mod_wall_37 (by rw [hR]; decide) rfl rfl ?_
      refine gx_if_ne (tgt := 58) C d_Mod_wall_40 (by decide) (fun h8 => ?_) (fun h8 => ?_)
      · have hf := (if_neg h8).symm.trans hf
        refine gx_iconst C (v := 0) d_Mod_wall_58 (by decide) ?_
        cases hf
        exact gx_zret C hr hlk hk (by decide) d_Mod_wall_59
      · have hf := (if_pos h8).symm.trans hf
        refine gx_aload_n C 0 d_Mod_wall_43 rfl rfl ?_
        refine gx_get C iw_Mod 29 (gx_w29 E _) rfl 3 (by decide) gw_677 rfl rfl d_Mod_wall_44 ?_
        refine gx_bipush C (v := 9) d_Mod_wall_47 (by decide) ?_
        refine gx_iload_n C 2 d_Mod_wall_49 rfl rfl ?_
        refine gx_imul C d_Mod_wall_50 ?_
        refine gx_iload_n C 1 d_Mod_wall_51 rfl rfl ?_
        refine gx_iadd C d_Mod_wall_52 ?_
        obtain ⟨hi9, hf⟩ := gx_ck_some hf
        refine gx_zald C 30 1 (gx_w30 E _) rfl hi9 d_Mod_wall_53 ?_
        refine gx_iload_n C 3 d_Mod_wall_54 rfl rfl ?_
        refine gx_icmp_ne (tgt := 60) C d_Mod_wall_55 (by decide) (fun h10 => ?_) (fun h10 => ?_)
        · have hf := (if_neg h10).symm.trans hf
          refine gx_aload_n C 0 d_Mod_wall_60 rfl rfl ?_
          refine gx_get C iw_Mod 29 (gx_w29 E _) rfl 3 (by decide) gw_677 rfl rfl d_Mod_wall_61 ?_
          refine gx_bipush C (v := 9) d_Mod_wall_64 (by decide) ?_
          refine gx_iload_n C 2 d_Mod_wall_66 rfl rfl ?_
          refine gx_imul C d_Mod_wall_67 ?_
          refine gx_iload_n C 1 d_Mod_wall_68 rfl rfl ?_
          refine gx_iadd C d_Mod_wall_69 ?_
          refine gx_iload_n C 3 d_Mod_wall_70 rfl rfl ?_
          obtain ⟨hi11, hf⟩ := gx_ck_some hf
          refine gx_zast C (x' := gx_sA x7 20 ((9 * v2) + v1 : Int32).toNatClampNeg (vp_nar .boolean v3)) 30 1 (gx_w30 E _) rfl hi11 (gx_q30 E _ _ _) d_Mod_wall_71 ?_
          refine gx_aload_n C 0 d_Mod_wall_72 rfl rfl ?_
          obtain ⟨r12, x12, hc12, hf⟩ := gx_bd_some hf
          refine gx_cVv (n2 := 0) (k2 := 0) C (As := []) (rest := []) 29 0 (c_CaseLayoutModel_forget K.l  (gx_sA x7 20 ((9 * v2) + v1 : Int32).toNatClampNeg (vp_nar .boolean v3)) _ hc12) (Or.inl rfl) rfl (gx_goodV gw_786 gw_788 gs_20 gw_10 gw_789) (by decide +kernel) (gx_w29 E _) rfl (by rw [hR]; decide) rfl rfl (Nat.le_of_ble_eq_true rfl) d_Mod_wall_73 (by rw [hR]; decide) rfl rfl ?_
          refine gx_iconst C (v := 1) d_Mod_wall_76 (by decide) ?_
          cases hf
          exact gx_zret C hr hlk hk (by decide) d_Mod_wall_77
        · have hf := (if_pos h10).symm.trans hf
          refine gx_iconst C (v := 0) d_Mod_wall_58 (by decide) ?_
          cases hf
          exact gx_zret C hr hlk hk (by decide) d_Mod_wall_59
  · have hf := (if_neg h4).symm.trans hf
    refine gx_iconst C (v := 0) d_Mod_wall_23 (by decide) ?_
    cases hf
    exact gx_zret C hr hlk hk (by decide) d_Mod_wall_24
set_option maxHeartbeats 4000000 in
set_option maxRecDepth 100000 in
theorem c_CaseLayoutModel_wall (l : Launch) (a1 : Int32) (a2 : Int32) (a3 : Int32) (x : gx_S) (o : Int32 × gx_S) (hf : f_CaseLayoutModel_wall a1 a2 a3 x = some o) : gx_Mi true l y_Mod_wall prog_10_method_11_code 4 (some .boolean) rm_CaseLayoutModel_wall (fun E => [.ref (gx_ad E 29), .int a1, .int a2, .int a3]) x o.1 o.2 := by
  refine gx_meti (own := "CaseLayoutModel") (by decide) rfl (fun E => Nat.le_of_ble_eq_true rfl) (fun K E hl0 hR hr hlk hk C => ?_)
  subst hl0
  unfold f_CaseLayoutModel_wall at hf
  show gx_G K E _ 0 0 x 0 [(0, .ref (gx_ad E 29)), (1, .int a1), (2, .int a2), (3, .int a3)] []
  refine gx_aload_n C 0 d_Mod_wall_0 rfl rfl ?_
  refine gx_aload_n C 0 d_Mod_wall_1 rfl rfl ?_
  refine gx_iload_n C 1 d_Mod_wall_2 rfl rfl ?_
  refine gx_iload_n C 2 d_Mod_wall_3 rfl rfl ?_
  obtain ⟨r1, x1, hc1, hf⟩ := gx_bd_some hf
  refine gx_cVi (n2 := 0) (k2 := 0) C (As := [.int a1, .int a2]) (rest := [.ref (gx_ad E 29)]) 29 2 (c_CaseLayoutModel_isCell K.l a1 a2 x _ hc1) (Or.inl rfl) rfl (gx_goodV gw_767 gw_769 gs_16 gw_10 gw_770) (by decide +kernel) (gx_w29 E _) rfl (by rw [hR]; decide) rfl rfl (Nat.le_of_ble_eq_true rfl) d_Mod_wall_4 (by rw [hR]; decide) rfl rfl ?_
  refine gx_if_ne (tgt := 14) C d_Mod_wall_7 (by decide) (fun h2 => ?_) (fun h2 => ?_)
  · have hf := (if_neg h2).symm.trans hf
    refine gx_iconst C (v := 0) d_Mod_wall_14 (by decide) ?_
    exact jc_CaseLayoutModel_wall_15 C hR hr hlk a1 a2 a3 0 x1 _ hf hk
  · have hf := (if_pos h2).symm.trans hf
    refine gx_iconst C (v := 1) d_Mod_wall_10 (by decide) ?_
    refine gx_goto (tgt := 15) C d_Mod_wall_11 (by decide) ?_
    exact jc_CaseLayoutModel_wall_15 C hR hr hlk a1 a2 a3 1 x1 _ hf hk

def j_CaseLayoutModel_zone_29 (v1 : Int32) (v2 : Int32) (v3 : Int32) (w0 : Int32) (w1 : Int32) (x : gx_S) : Option (Int32 × gx_S) :=
  gx_bd (f_CaseLayoutModel_throwing w1 w0 0 x) (fun r5 x5 => if r5 = 0 then (gx_ck ((9 * v2) + v1) 81 (gx_ck ((9 * v2) + v1) 81 (gx_bd (f_CaseLayoutModel_forget  (gx_sA x5 21 ((9 * v2) + v1 : Int32).toNatClampNeg v3)) (fun r9 x9 => some (gx_gA x5 21 ((9 * v2) + v1 : Int32).toNatClampNeg, x9))))) else (some (0, x5)))
def j_CaseLayoutModel_zone_15 (v1 : Int32) (v2 : Int32) (v3 : Int32) (w0 : Int32) (x : gx_S) : Option (Int32 × gx_S) :=
  gx_bd (f_CaseLayoutModel_in v3 0 3 x) (fun r3 x3 => if r3 = 0 then (j_CaseLayoutModel_zone_29 v1 v2 v3 1 w0 x3) else (j_CaseLayoutModel_zone_29 v1 v2 v3 0 w0 x3))
def f_CaseLayoutModel_zone (a1 : Int32) (a2 : Int32) (a3 : Int32) (x : gx_S) : Option (Int32 × gx_S) :=
  gx_bd (f_CaseLayoutModel_isCell a1 a2 x) (fun r1 x1 => if r1 = 0 then (j_CaseLayoutModel_zone_15 a1 a2 a3 1 x1) else (j_CaseLayoutModel_zone_15 a1 a2 a3 0 x1))
abbrev rm_CaseLayoutModel_zone : Room := { frames := 2, cells := 0, slots := 0, locals := 44 }
set_option maxHeartbeats 4000000 in
set_option maxRecDepth 100000 in
theorem jc_CaseLayoutModel_zone_29 {K : gx_K} {E : gx_E} (C : gx_C K E "CaseLayoutModel" prog_10_method_12_code 5) (hR : K.R = rm_CaseLayoutModel_zone) (hr : K.meth.sig.returnType = (some .int)) (hlk : K.meth.locks = false) (v1 : Int32) (v2 : Int32) (v3 : Int32) (w0 : Int32) (w1 : Int32) (x : gx_S) (o : Int32 × gx_S) (hf : j_CaseLayoutModel_zone_29 v1 v2 v3 w0 w1 x = some o) (hk : ∀ t, MQ K.below (gx_Qi E (gx_AB true E K.s.heap.size) o.1 o.2) K.args K.s 0 0 (gx_AB true E K.s.heap.size) t → K.Q t) : gx_G K E (gx_AB true E K.s.heap.size) 0 0 x 29 [(0, .ref (gx_ad E 29)), (1, .int v1), (2, .int v2), (3, .int v3)] [.int w0, .int w1, .ref (gx_ad E 29)] := by
  unfold j_CaseLayoutModel_zone_29 at hf
  refine gx_iconst C (v := 0) d_Mod_zone_29 (by decide) ?_
  obtain ⟨r5, x5, hc5, hf⟩ := gx_bd_some hf
  refine gx_cVi (n2 := 0) (k2 := 0) C (As := [.int w1, .int w0, .int 0]) (rest := []) 29 3 (c_CaseLayoutModel_throwing K.l w1 w0 0 x _ hc5) (Or.inl rfl) rfl (gx_goodV gw_774 gw_776 gs_17 gw_10 gw_777) (by decide +kernel) (gx_w29 E _) rfl (by rw [hR]; decide) rfl rfl (Nat.le_of_ble_eq_true rfl) d_Mod_zone_30 (by rw [hR]; decide) rfl rfl ?_
  refine gx_if_eq (tgt := 38) C d_Mod_zone_33 (by decide) (fun h6 => ?_) (fun h6 => ?_)
  · have hf := (if_pos h6).symm.trans hf
    refine gx_aload_n C 0 d_Mod_zone_38 rfl rfl ?_
    refine gx_get C iw_Mod 29 (gx_w29 E _) rfl 4 (by decide) gw_678 rfl rfl d_Mod_zone_39 ?_
    refine gx_bipush C (v := 9) d_Mod_zone_42 (by decide) ?_
    refine gx_iload_n C 2 d_Mod_zone_44 rfl rfl ?_
    refine gx_imul C d_Mod_zone_45 ?_
    refine gx_iload_n C 1 d_Mod_zone_46 rfl rfl ?_
    refine gx_iadd C d_Mod_zone_47 ?_
    obtain ⟨hi7, hf⟩ := gx_ck_some hf
    refine gx_iald C 31 0 (gx_w31 E _) rfl hi7 d_Mod_zone_48 ?_
    refine gx_istore C (lv' := [(4, .int (gx_gA x5 21 ((9 * v2) + v1 : Int32).toNatClampNeg)), (0, .ref (gx_ad E 29)), (1, .int v1), (2, .int v2), (3, .int v3)]) d_Mod_zone_49 (by decide) rfl ?_
    refine gx_aload_n C 1 d_Mod_zone_51 rfl rfl ?_
    refine gx_get C iw_Mod 29 (gx_w29 E _) rfl 4 (by decide) gw_678 rfl rfl d_Mod_zone_52 ?_
    refine gx_bipush C (v := 9) d_Mod_zone_55 (by decide) ?_
    refine gx_iload_n C 3 d_Mod_zone_57 rfl rfl ?_
    refine gx_imul C d_Mod_zone_58 ?_
    refine gx_iload_n C 2 d_Mod_zone_59 rfl rfl ?_
    refine gx_iadd C d_Mod_zone_60 ?_
    refine gx_iload_n C 4 d_Mod_zone_61 rfl rfl ?_
    obtain ⟨hi8, hf⟩ := gx_ck_some hf
    refine gx_iast C (x' := gx_sA x5 21 ((9 * v2) + v1 : Int32).toNatClampNeg v3) 31 0 (gx_w31 E _) rfl hi8 (gx_q31 E _ _ _) d_Mod_zone_62 ?_
    refine gx_aload_n C 1 d_Mod_zone_63 rfl rfl ?_
    obtain ⟨r9, x9, hc9, hf⟩ := gx_bd_some hf
    refine gx_cVv (n2 := 0) (k2 := 0) C (As := []) (rest := []) 29 0 (c_CaseLayoutModel_forget K.l  (gx_sA x5 21 ((9 * v2) + v1 : Int32).toNatClampNeg v3) _ hc9) (Or.inl rfl) rfl (gx_goodV gw_786 gw_788 gs_20 gw_10 gw_789) (by decide +kernel) (gx_w29 E _) rfl (by rw [hR]; decide) rfl rfl (Nat.le_of_ble_eq_true rfl) d_Mod_zone_64 (by rw [hR]; decide) rfl rfl ?_
    refine gx_iload C 0 d_Mod_zone_67 rfl ?_
    cases hf
    exact gx_iret C hr hlk hk d_Mod_zone_69
  · have hf := (if_neg h6).symm.trans hf
    refine gx_iconst C (v := 0) d_Mod_zone_36 (by decide) ?_
    cases hf
    exact gx_iret C hr hlk hk d_Mod_zone_37
set_option maxHeartbeats 4000000 in
set_option maxRecDepth 100000 in
theorem jc_CaseLayoutModel_zone_15 {K : gx_K} {E : gx_E} (C : gx_C K E "CaseLayoutModel" prog_10_method_12_code 5) (hR : K.R = rm_CaseLayoutModel_zone) (hr : K.meth.sig.returnType = (some .int)) (hlk : K.meth.locks = false) (v1 : Int32) (v2 : Int32) (v3 : Int32) (w0 : Int32) (x : gx_S) (o : Int32 × gx_S) (hf : j_CaseLayoutModel_zone_15 v1 v2 v3 w0 x = some o) (hk : ∀ t, MQ K.below (gx_Qi E (gx_AB true E K.s.heap.size) o.1 o.2) K.args K.s 0 0 (gx_AB true E K.s.heap.size) t → K.Q t) : gx_G K E (gx_AB true E K.s.heap.size) 0 0 x 15 [(0, .ref (gx_ad E 29)), (1, .int v1), (2, .int v2), (3, .int v3)] [.int w0, .ref (gx_ad E 29)] := by
  unfold j_CaseLayoutModel_zone_15 at hf
  refine gx_iload_n C 3 d_Mod_zone_15 rfl rfl ?_
  refine gx_iconst C (v := 0) d_Mod_zone_16 (by decide) ?_
  refine gx_iconst C (v := 3) d_Mod_zone_17 (by decide) ?_
  obtain ⟨r3, x3, hc3, hf⟩ := gx_bd_some hf
  refine gx_cSi (n2 := 0) (k2 := 0) C (As := [.int v3, .int 0, .int 3]) (rest := [.int w0, .ref (gx_ad E 29)]) 3 (c_CaseLayoutModel_in K.l v3 0 3 x _ hc3) (Or.inl rfl) rfl (gx_goodS gw_771 gw_772 gw_10 gw_773) (by decide +kernel) (by rw [hR]; decide) rfl rfl (Nat.le_of_ble_eq_true rfl) d_Mod_zone_18 (by rw [hR]; decide) rfl rfl ?_
  refine gx_if_ne (tgt := 28) C d_Mod_zone_21 (by decide) (fun h4 => ?_) (fun h4 => ?_)
  · have hf := (if_neg h4).symm.trans hf
    refine gx_iconst C (v := 0) d_Mod_zone_28 (by decide) ?_
    exact jc_CaseLayoutModel_zone_29 C hR hr hlk v1 v2 v3 0 w0 x3 _ hf hk
  · have hf := (if_pos h4).symm.trans hf
    refine gx_iconst C (v := 1) d_Mod_zone_24 (by decide) ?_
    refine gx_goto (tgt := 29) C d_Mod_zone_25 (by decide) ?_
    exact jc_CaseLayoutModel_zone_29 C hR hr hlk v1 v2 v3 1 w0 x3 _ hf hk
set_option maxHeartbeats 4000000 in
set_option maxRecDepth 100000 in
theorem c_CaseLayoutModel_zone (l : Launch) (a1 : Int32) (a2 : Int32) (a3 : Int32) (x : gx_S) (o : Int32 × gx_S) (hf : f_CaseLayoutModel_zone a1 a2 a3 x = some o) : gx_Mi true l y_Mod_zone prog_10_method_12_code 5 (some .int) rm_CaseLayoutModel_zone (fun E => [.ref (gx_ad E 29), .int a1, .int a2, .int a3]) x o.1 o.2 := by
  refine gx_meti (own := "CaseLayoutModel") (by decide) rfl (fun E => Nat.le_of_ble_eq_true rfl) (fun K E hl0 hR hr hlk hk C => ?_)
  subst hl0
  unfold f_CaseLayoutModel_zone at hf
  show gx_G K E _ 0 0 x 0 [(0, .ref (gx_ad E 29)), (1, .int a1), (2, .int a2), (3, .int a3)] []
  refine gx_aload_n C 0 d_Mod_zone_0 rfl rfl ?_
  refine gx_aload_n C 0 d_Mod_zone_1 rfl rfl ?_
  refine gx_iload_n C 1 d_Mod_zone_2 rfl rfl ?_
  refine gx_iload_n C 2 d_Mod_zone_3 rfl rfl ?_
  obtain ⟨r1, x1, hc1, hf⟩ := gx_bd_some hf
  refine gx_cVi (n2 := 0) (k2 := 0) C (As := [.int a1, .int a2]) (rest := [.ref (gx_ad E 29)]) 29 2 (c_CaseLayoutModel_isCell K.l a1 a2 x _ hc1) (Or.inl rfl) rfl (gx_goodV gw_767 gw_769 gs_16 gw_10 gw_770) (by decide +kernel) (gx_w29 E _) rfl (by rw [hR]; decide) rfl rfl (Nat.le_of_ble_eq_true rfl) d_Mod_zone_4 (by rw [hR]; decide) rfl rfl ?_
  refine gx_if_ne (tgt := 14) C d_Mod_zone_7 (by decide) (fun h2 => ?_) (fun h2 => ?_)
  · have hf := (if_neg h2).symm.trans hf
    refine gx_iconst C (v := 0) d_Mod_zone_14 (by decide) ?_
    exact jc_CaseLayoutModel_zone_15 C hR hr hlk a1 a2 a3 0 x1 _ hf hk
  · have hf := (if_pos h2).symm.trans hf
    refine gx_iconst C (v := 1) d_Mod_zone_10 (by decide) ?_
    refine gx_goto (tgt := 15) C d_Mod_zone_11 (by decide) ?_
    exact jc_CaseLayoutModel_zone_15 C hR hr hlk a1 a2 a3 1 x1 _ hf hk

def j_CaseLayoutModel_thing_47 (v1 : Int32) (v2 : Int32) (v3 : Int32) (w0 : Int32) (w1 : Int32) (x : gx_S) : Option (Int32 × gx_S) :=
  gx_bd (f_CaseLayoutModel_throwing w1 w0 0 x) (fun r4 x4 => if r4 = 0 then (gx_ck (gx_gI x4 14) 7 (gx_ck (gx_gI (gx_sA x4 22 (gx_gI x4 14 : Int32).toNatClampNeg v1) 14) 7 (gx_ck (gx_gI (gx_sA (gx_sA x4 22 (gx_gI x4 14 : Int32).toNatClampNeg v1) 23 (gx_gI (gx_sA x4 22 (gx_gI x4 14 : Int32).toNatClampNeg v1) 14 : Int32).toNatClampNeg v2) 14) 7 (gx_bd (f_CaseLayoutModel_forget  (gx_sI (gx_sA (gx_sA (gx_sA x4 22 (gx_gI x4 14 : Int32).toNatClampNeg v1) 23 (gx_gI (gx_sA x4 22 (gx_gI x4 14 : Int32).toNatClampNeg v1) 14 : Int32).toNatClampNeg v2) 24 (gx_gI (gx_sA (gx_sA x4 22 (gx_gI x4 14 : Int32).toNatClampNeg v1) 23 (gx_gI (gx_sA x4 22 (gx_gI x4 14 : Int32).toNatClampNeg v1) 14 : Int32).toNatClampNeg v2) 14 : Int32).toNatClampNeg v3) 14 ((gx_gI (gx_sA (gx_sA (gx_sA x4 22 (gx_gI x4 14 : Int32).toNatClampNeg v1) 23 (gx_gI (gx_sA x4 22 (gx_gI x4 14 : Int32).toNatClampNeg v1) 14 : Int32).toNatClampNeg v2) 24 (gx_gI (gx_sA (gx_sA x4 22 (gx_gI x4 14 : Int32).toNatClampNeg v1) 23 (gx_gI (gx_sA x4 22 (gx_gI x4 14 : Int32).toNatClampNeg v1) 14 : Int32).toNatClampNeg v2) 14 : Int32).toNatClampNeg v3) 14) + 1))) (fun r9 x9 => some ((gx_gI x9 14) - 1, x9)))))) else (some (0, x4)))
def j_CaseLayoutModel_thing_42 (v1 : Int32) (v2 : Int32) (v3 : Int32) (w0 : Int32) (x : gx_S) : Option (Int32 × gx_S) :=
  j_CaseLayoutModel_thing_47 v1 v2 v3 1 w0 x
def j_CaseLayoutModel_thing_15 (v1 : Int32) (v2 : Int32) (v3 : Int32) (w0 : Int32) (x : gx_S) : Option (Int32 × gx_S) :=
  gx_bd (f_CaseLayoutModel_in v1 1 4 x) (fun r2 x2 => if r2 = 0 then (j_CaseLayoutModel_thing_42 v1 v2 v3 w0 x2) else (gx_bd (f_CaseLayoutModel_in v2 1 4 x2) (fun r10 x10 => if r10 = 0 then (j_CaseLayoutModel_thing_42 v1 v2 v3 w0 x10) else (gx_bd (f_CaseLayoutModel_in v3 0 3 x10) (fun r12 x12 => if r12 = 0 then (j_CaseLayoutModel_thing_42 v1 v2 v3 w0 x12) else (j_CaseLayoutModel_thing_47 v1 v2 v3 0 w0 x12))))))
def f_CaseLayoutModel_thing (a1 : Int32) (a2 : Int32) (a3 : Int32) (x : gx_S) : Option (Int32 × gx_S) :=
  if (gx_gI x 14) = 7 then (j_CaseLayoutModel_thing_15 a1 a2 a3 1 x) else (j_CaseLayoutModel_thing_15 a1 a2 a3 0 x)
abbrev rm_CaseLayoutModel_thing : Room := { frames := 1, cells := 0, slots := 0, locals := 23 }
set_option maxHeartbeats 4000000 in
set_option maxRecDepth 100000 in
theorem jc_CaseLayoutModel_thing_47 {K : gx_K} {E : gx_E} (C : gx_C K E "CaseLayoutModel" prog_10_method_13_code 4) (hR : K.R = rm_CaseLayoutModel_thing) (hr : K.meth.sig.returnType = (some .int)) (hlk : K.meth.locks = false) (v1 : Int32) (v2 : Int32) (v3 : Int32) (w0 : Int32) (w1 : Int32) (x : gx_S) (o : Int32 × gx_S) (hf : j_CaseLayoutModel_thing_47 v1 v2 v3 w0 w1 x = some o) (hk : ∀ t, MQ K.below (gx_Qi E (gx_AB true E K.s.heap.size) o.1 o.2) K.args K.s 0 0 (gx_AB true E K.s.heap.size) t → K.Q t) : gx_G K E (gx_AB true E K.s.heap.size) 0 0 x 47 [(0, .ref (gx_ad E 29)), (1, .int v1), (2, .int v2), (3, .int v3)] [.int w0, .int w1, .ref (gx_ad E 29)] := by
  unfold j_CaseLayoutModel_thing_47 at hf
  refine gx_iconst C (v := 0) d_Mod_thing_47 (by decide) ?_
  obtain ⟨r4, x4, hc4, hf⟩ := gx_bd_some hf
  refine gx_cVi (n2 := 0) (k2 := 0) C (As := [.int w1, .int w0, .int 0]) (rest := []) 29 3 (c_CaseLayoutModel_throwing K.l w1 w0 0 x _ hc4) (Or.inl rfl) rfl (gx_goodV gw_774 gw_776 gs_17 gw_10 gw_777) (by decide +kernel) (gx_w29 E _) rfl (by rw [hR]; decide) rfl rfl (Nat.le_of_ble_eq_true rfl) d_Mod_thing_48 (by rw [hR]; decide) rfl rfl ?_
  refine gx_if_eq (tgt := 56) C d_Mod_thing_51 (by decide) (fun h5 => ?_) (fun h5 => ?_)
  · have hf := (if_pos h5).symm.trans hf
    refine gx_aload_n C 0 d_Mod_thing_56 rfl rfl ?_
    refine gx_get C iw_Mod 29 (gx_w29 E _) rfl 6 (by decide) gw_680 rfl rfl d_Mod_thing_57 ?_
    refine gx_aload_n C 0 d_Mod_thing_60 rfl rfl ?_
    refine gx_get C iw_Mod 29 (gx_w29 E _) rfl 5 (by decide) gw_679 rfl rfl d_Mod_thing_61 ?_
    refine gx_iload_n C 1 d_Mod_thing_64 rfl rfl ?_
    obtain ⟨hi6, hf⟩ := gx_ck_some hf
    refine gx_iast C (x' := gx_sA x4 22 (gx_gI x4 14 : Int32).toNatClampNeg v1) 32 0 (gx_w32 E _) rfl hi6 (gx_q32 E _ _ _) d_Mod_thing_65 ?_
    refine gx_aload_n C 0 d_Mod_thing_66 rfl rfl ?_
    refine gx_get C iw_Mod 29 (gx_w29 E _) rfl 7 (by decide) gw_681 rfl rfl d_Mod_thing_67 ?_
    refine gx_aload_n C 0 d_Mod_thing_70 rfl rfl ?_
    refine gx_get C iw_Mod 29 (gx_w29 E _) rfl 5 (by decide) gw_679 rfl rfl d_Mod_thing_71 ?_
    refine gx_iload_n C 2 d_Mod_thing_74 rfl rfl ?_
    obtain ⟨hi7, hf⟩ := gx_ck_some hf
    refine gx_iast C (x' := gx_sA (gx_sA x4 22 (gx_gI x4 14 : Int32).toNatClampNeg v1) 23 (gx_gI (gx_sA x4 22 (gx_gI x4 14 : Int32).toNatClampNeg v1) 14 : Int32).toNatClampNeg v2) 33 0 (gx_w33 E _) rfl hi7 (gx_q33 E _ _ _) d_Mod_thing_75 ?_
    refine gx_aload_n C 0 d_Mod_thing_76 rfl rfl ?_
    refine gx_get C iw_Mod 29 (gx_w29 E _) rfl 8 (by decide) gw_682 rfl rfl d_Mod_thing_77 ?_
    refine gx_aload_n C 0 d_Mod_thing_80 rfl rfl ?_
    refine gx_get C iw_Mod 29 (gx_w29 E _) rfl 5 (by decide) gw_679 rfl rfl d_Mod_thing_81 ?_
    refine gx_iload_n C 3 d_Mod_thing_84 rfl rfl ?_
    obtain ⟨hi8, hf⟩ := gx_ck_some hf
    refine gx_iast C (x' := gx_sA (gx_sA (gx_sA x4 22 (gx_gI x4 14 : Int32).toNatClampNeg v1) 23 (gx_gI (gx_sA x4 22 (gx_gI x4 14 : Int32).toNatClampNeg v1) 14 : Int32).toNatClampNeg v2) 24 (gx_gI (gx_sA (gx_sA x4 22 (gx_gI x4 14 : Int32).toNatClampNeg v1) 23 (gx_gI (gx_sA x4 22 (gx_gI x4 14 : Int32).toNatClampNeg v1) 14 : Int32).toNatClampNeg v2) 14 : Int32).toNatClampNeg v3) 34 0 (gx_w34 E _) rfl hi8 (gx_q34 E _ _ _) d_Mod_thing_85 ?_
    refine gx_aload_n C 0 d_Mod_thing_86 rfl rfl ?_
    refine gx_dup C d_Mod_thing_87 rfl ?_
    refine gx_get C iw_Mod 29 (gx_w29 E _) rfl 5 (by decide) gw_679 rfl rfl d_Mod_thing_88 ?_
    refine gx_iconst C (v := 1) d_Mod_thing_91 (by decide) ?_
    refine gx_iadd C d_Mod_thing_92 ?_
    refine gx_put C (ty := .int) (x' := gx_sI (gx_sA (gx_sA (gx_sA x4 22 (gx_gI x4 14 : Int32).toNatClampNeg v1) 23 (gx_gI (gx_sA x4 22 (gx_gI x4 14 : Int32).toNatClampNeg v1) 14 : Int32).toNatClampNeg v2) 24 (gx_gI (gx_sA (gx_sA x4 22 (gx_gI x4 14 : Int32).toNatClampNeg v1) 23 (gx_gI (gx_sA x4 22 (gx_gI x4 14 : Int32).toNatClampNeg v1) 14 : Int32).toNatClampNeg v2) 14 : Int32).toNatClampNeg v3) 14 ((gx_gI (gx_sA (gx_sA (gx_sA x4 22 (gx_gI x4 14 : Int32).toNatClampNeg v1) 23 (gx_gI (gx_sA x4 22 (gx_gI x4 14 : Int32).toNatClampNeg v1) 14 : Int32).toNatClampNeg v2) 24 (gx_gI (gx_sA (gx_sA x4 22 (gx_gI x4 14 : Int32).toNatClampNeg v1) 23 (gx_gI (gx_sA x4 22 (gx_gI x4 14 : Int32).toNatClampNeg v1) 14 : Int32).toNatClampNeg v2) 14 : Int32).toNatClampNeg v3) 14) + 1)) iw_Mod ty_Mod tk_Mod tn_Mod 29 (gx_w29 E _) rfl 5 (by decide) gw_679 rfl rfl (by decide +kernel) rfl rfl (Nat.le_of_ble_eq_true rfl) (gx_p29_5 E _ _) d_Mod_thing_93 ?_
    refine gx_aload_n C 0 d_Mod_thing_96 rfl rfl ?_
    obtain ⟨r9, x9, hc9, hf⟩ := gx_bd_some hf
    refine gx_cVv (n2 := 0) (k2 := 0) C (As := []) (rest := []) 29 0 (c_CaseLayoutModel_forget K.l  (gx_sI (gx_sA (gx_sA (gx_sA x4 22 (gx_gI x4 14 : Int32).toNatClampNeg v1) 23 (gx_gI (gx_sA x4 22 (gx_gI x4 14 : Int32).toNatClampNeg v1) 14 : Int32).toNatClampNeg v2) 24 (gx_gI (gx_sA (gx_sA x4 22 (gx_gI x4 14 : Int32).toNatClampNeg v1) 23 (gx_gI (gx_sA x4 22 (gx_gI x4 14 : Int32).toNatClampNeg v1) 14 : Int32).toNatClampNeg v2) 14 : Int32).toNatClampNeg v3) 14 ((gx_gI (gx_sA (gx_sA (gx_sA x4 22 (gx_gI x4 14 : Int32).toNatClampNeg v1) 23 (gx_gI (gx_sA x4 22 (gx_gI x4 14 : Int32).toNatClampNeg v1) 14 : Int32).toNatClampNeg v2) 24 (gx_gI (gx_sA (gx_sA x4 22 (gx_gI x4 14 : Int32).toNatClampNeg v1) 23 (gx_gI (gx_sA x4 22 (gx_gI x4 14 : Int32).toNatClampNeg v1) 14 : Int32).toNatClampNeg v2) 14 : Int32).toNatClampNeg v3) 14) + 1)) _ hc9) (Or.inl rfl) rfl (gx_goodV gw_786 gw_788 gs_20 gw_10 gw_789) (by decide +kernel) (gx_w29 E _) rfl (by rw [hR]; decide) rfl rfl (Nat.le_of_ble_eq_true rfl) d_Mod_thing_97 (by rw [hR]; decide) rfl rfl ?_
    refine gx_aload_n C 0 d_Mod_thing_100 rfl rfl ?_
    refine gx_get C iw_Mod 29 (gx_w29 E _) rfl 5 (by decide) gw_679 rfl rfl d_Mod_thing_101 ?_
    refine gx_iconst C (v := 1) d_Mod_thing_104 (by decide) ?_
    refine gx_isub C d_Mod_thing_105 ?_
    cases hf
    exact gx_iret C hr hlk hk d_Mod_thing_106
  · have hf := (if_neg h5).symm.trans hf
    refine gx_iconst C (v := 0) d_Mod_thing_54 (by decide) ?_
    cases hf
    exact gx_iret C hr hlk hk d_Mod_thing_55
set_option maxHeartbeats 4000000 in
set_option maxRecDepth 100000 in
theorem jc_CaseLayoutModel_thing_42 {K : gx_K} {E : gx_E} (C : gx_C K E "CaseLayoutModel" prog_10_method_13_code 4) (hR : K.R = rm_CaseLayoutModel_thing) (hr : K.meth.sig.returnType = (some .int)) (hlk : K.meth.locks = false) (v1 : Int32) (v2 : Int32) (v3 : Int32) (w0 : Int32) (x : gx_S) (o : Int32 × gx_S) (hf : j_CaseLayoutModel_thing_42 v1 v2 v3 w0 x = some o) (hk : ∀ t, MQ K.below (gx_Qi E (gx_AB true E K.s.heap.size) o.1 o.2) K.args K.s 0 0 (gx_AB true E K.s.heap.size) t → K.Q t) : gx_G K E (gx_AB true E K.s.heap.size) 0 0 x 42 [(0, .ref (gx_ad E 29)), (1, .int v1), (2, .int v2), (3, .int v3)] [.int w0, .ref (gx_ad E 29)] := by
  unfold j_CaseLayoutModel_thing_42 at hf
  refine gx_iconst C (v := 1) d_Mod_thing_42 (by decide) ?_
  refine gx_goto (tgt := 47) C d_Mod_thing_43 (by decide) ?_
  exact jc_CaseLayoutModel_thing_47 C hR hr hlk v1 v2 v3 1 w0 x _ hf hk
set_option maxHeartbeats 4000000 in
set_option maxRecDepth 100000 in
theorem jc_CaseLayoutModel_thing_15 {K : gx_K} {E : gx_E} (C : gx_C K E "CaseLayoutModel" prog_10_method_13_code 4) (hR : K.R = rm_CaseLayoutModel_thing) (hr : K.meth.sig.returnType = (some .int)) (hlk : K.meth.locks = false) (v1 : Int32) (v2 : Int32) (v3 : Int32) (w0 : Int32) (x : gx_S) (o : Int32 × gx_S) (hf : j_CaseLayoutModel_thing_15 v1 v2 v3 w0 x = some o) (hk : ∀ t, MQ K.below (gx_Qi E (gx_AB true E K.s.heap.size) o.1 o.2) K.args K.s 0 0 (gx_AB true E K.s.heap.size) t → K.Q t) : gx_G K E (gx_AB true E K.s.heap.size) 0 0 x 15 [(0, .ref (gx_ad E 29)), (1, .int v1), (2, .int v2), (3, .int v3)] [.int w0, .ref (gx_ad E 29)] := by
  unfold j_CaseLayoutModel_thing_15 at hf
  refine gx_iload_n C 1 d_Mod_thing_15 rfl rfl ?_
  refine gx_iconst C (v := 1) d_Mod_thing_16 (by decide) ?_
  refine gx_iconst C (v := 4) d_Mod_thing_17 (by decide) ?_
  obtain ⟨r2, x2, hc2, hf⟩ := gx_bd_some hf
  refine gx_cSi (n2 := 0) (k2 := 0) C (As := [.int v1, .int 1, .int 4]) (rest := [.int w0, .ref (gx_ad E 29)]) 3 (c_CaseLayoutModel_in K.l v1 1 4 x _ hc2) (Or.inl rfl) rfl (gx_goodS gw_771 gw_772 gw_10 gw_773) (by decide +kernel) (by rw [hR]; decide) rfl rfl (Nat.le_of_ble_eq_true rfl) d_Mod_thing_18 (by rw [hR]; decide) rfl rfl ?_
  refine gx_if_eq (tgt := 42) C d_Mod_thing_21 (by decide) (fun h3 => ?_) (fun h3 => ?_)
  · have hf := (if_pos h3).symm.trans hf
    exact jc_CaseLayoutModel_thing_42 C hR hr hlk v1 v2 v3 w0 x2 _ hf hk
  · have hf := (if_neg h3).symm.trans hf
    refine gx_iload_n C 2 d_Mod_thing_24 rfl rfl ?_
    refine gx_iconst C (v := 1) d_Mod_thing_25 (by decide) ?_
    refine gx_iconst C (v := 4) d_Mod_thing_26 (by decide) ?_
    obtain ⟨r10, x10, hc10, hf⟩ := gx_bd_some hf
    refine gx_cSi (n2 := 0) (k2 := 0) C (As := [.int v2, .int 1, .int 4]) (rest := [.int w0, .ref (gx_ad E 29)]) 3 (c_CaseLayoutModel_in K.l v2 1 4 x2 _ hc10) (Or.inl rfl) rfl (gx_goodS gw_771 gw_772 gw_10 gw_773) (by decide +kernel) (by rw [hR]; decide) rfl rfl (Nat.le_of_ble_eq_true rfl) d_Mod_thing_27 (by rw [hR]; decide) rfl rfl ?_
    refine gx_if_eq (tgt := 42) C d_Mod_thing_30 (by decide) (fun h11 => ?_) (fun h11 => ?_)
    · have hf := (if_pos h11).symm.trans hf
      exact jc_CaseLayoutModel_thing_42 C hR hr hlk v1 v2 v3 w0 x10 _ hf hk
    · have hf := (if_neg h11).symm.trans hf
      refine gx_iload_n C 3 d_Mod_thing_33 rfl rfl ?_
      refine gx_iconst C (v := 0) d_Mod_thing_34 (by decide) ?_
      refine gx_iconst C (v := 3) d_Mod_thing_35 (by decide) ?_
      obtain ⟨r12, x12, hc12, hf⟩ := gx_bd_some hf
      refine gx_cSi (n2 := 0) (k2 := 0) C (As := [.int v3, .int 0, .int 3]) (rest := [.int w0, .ref (gx_ad E 29)]) 3 (c_CaseLayoutModel_in K.l v3 0 3 x10 _ hc12) (Or.inl rfl) rfl (gx_goodS gw_771 gw_772 gw_10 gw_773) (by decide +kernel) (by rw [hR]; decide) rfl rfl (Nat.le_of_ble_eq_true rfl) d_Mod_thing_36 (by rw [hR]; decide) rfl rfl ?_
      refine gx_if_ne (tgt := 46) C d_Mod_thing_39 (by decide) (fun h13 => ?_) (fun h13 => ?_)
      · have hf := (if_neg h13).symm.trans hf
        refine gx_iconst C (v := 0) d_Mod_thing_46 (by decide) ?_
        exact jc_CaseLayoutModel_thing_47 C hR hr hlk v1 v2 v3 0 w0 x12 _ hf hk
      · have hf := (if_pos h13).symm.trans hf
        exact jc_CaseLayoutModel_thing_42 C hR hr hlk v1 v2 v3 w0 x12 _ hf hk
set_option maxHeartbeats 4000000 in
set_option maxRecDepth 100000 in
theorem c_CaseLayoutModel_thing (l : Launch) (a1 : Int32) (a2 : Int32) (a3 : Int32) (x : gx_S) (o : Int32 × gx_S) (hf : f_CaseLayoutModel_thing a1 a2 a3 x = some o) : gx_Mi true l y_Mod_thing prog_10_method_13_code 4 (some .int) rm_CaseLayoutModel_thing (fun E => [.ref (gx_ad E 29), .int a1, .int a2, .int a3]) x o.1 o.2 := by
  refine gx_meti (own := "CaseLayoutModel") (by decide) rfl (fun E => Nat.le_of_ble_eq_true rfl) (fun K E hl0 hR hr hlk hk C => ?_)
  subst hl0
  unfold f_CaseLayoutModel_thing at hf
  show gx_G K E _ 0 0 x 0 [(0, .ref (gx_ad E 29)), (1, .int a1), (2, .int a2), (3, .int a3)] []
  refine gx_aload_n C 0 d_Mod_thing_0 rfl rfl ?_
  refine gx_aload_n C 0 d_Mod_thing_1 rfl rfl ?_
  refine gx_get C iw_Mod 29 (gx_w29 E _) rfl 5 (by decide) gw_679 rfl rfl d_Mod_thing_2 ?_
  refine gx_bipush C (v := 7) d_Mod_thing_5 (by decide) ?_
  refine gx_icmp_ne (tgt := 14) C d_Mod_thing_7 (by decide) (fun h1 => ?_) (fun h1 => ?_)
  · have hf := (if_neg h1).symm.trans hf
    refine gx_iconst C (v := 0) d_Mod_thing_14 (by decide) ?_
    exact jc_CaseLayoutModel_thing_15 C hR hr hlk a1 a2 a3 0 x _ hf hk
  · have hf := (if_pos h1).symm.trans hf
    refine gx_iconst C (v := 1) d_Mod_thing_10 (by decide) ?_
    refine gx_goto (tgt := 15) C d_Mod_thing_11 (by decide) ?_
    exact jc_CaseLayoutModel_thing_15 C hR hr hlk a1 a2 a3 1 x _ hf hk

def f_CaseLayoutModel_isThing (a1 : Int32) (x : gx_S) : Option (Int32 × gx_S) :=
  gx_bd (f_CaseLayoutModel_in a1 0 ((gx_gI x 14) - 1) x) (fun r1 x1 => gx_nb r1 (some (r1, x1)))
abbrev rm_CaseLayoutModel_isThing : Room := { frames := 1, cells := 0, slots := 0, locals := 22 }
set_option maxHeartbeats 4000000 in
set_option maxRecDepth 100000 in
theorem c_CaseLayoutModel_isThing (l : Launch) (a1 : Int32) (x : gx_S) (o : Int32 × gx_S) (hf : f_CaseLayoutModel_isThing a1 x = some o) : gx_Mi false l y_Mod_isThing prog_10_method_7_code 2 (some .boolean) rm_CaseLayoutModel_isThing (fun E => [.ref (gx_ad E 29), .int a1]) x o.1 o.2 := by
  refine gx_meti (own := "CaseLayoutModel") (by decide) rfl (fun E => Nat.le_of_ble_eq_true rfl) (fun K E hl0 hR hr hlk hk C => ?_)
  subst hl0
  unfold f_CaseLayoutModel_isThing at hf
  show gx_G K E _ 0 0 x 0 [(0, .ref (gx_ad E 29)), (1, .int a1)] []
  refine gx_iload_n C 1 d_Mod_isThing_0 rfl rfl ?_
  refine gx_iconst C (v := 0) d_Mod_isThing_1 (by decide) ?_
  refine gx_aload_n C 0 d_Mod_isThing_2 rfl rfl ?_
  refine gx_get C iw_Mod 29 (gx_w29 E _) rfl 5 (by decide) gw_679 rfl rfl d_Mod_isThing_3 ?_
  refine gx_iconst C (v := 1) d_Mod_isThing_6 (by decide) ?_
  refine gx_isub C d_Mod_isThing_7 ?_
  obtain ⟨r1, x1, hc1, hf⟩ := gx_bd_some hf
  refine gx_cSi (n2 := 0) (k2 := 0) C (As := [.int a1, .int 0, .int ((gx_gI x 14) - 1)]) (rest := []) 3 (c_CaseLayoutModel_in K.l a1 0 ((gx_gI x 14) - 1) x _ hc1) (Or.inr rfl) rfl (gx_goodS gw_771 gw_772 gw_10 gw_773) (by decide +kernel) (by rw [hR]; decide) rfl rfl (Nat.le_of_ble_eq_true rfl) d_Mod_isThing_8 (by rw [hR]; decide) rfl rfl ?_
  obtain ⟨hn2, hf⟩ := gx_nb_some hf
  cases hf
  exact gx_zret C hr hlk hk hn2 d_Mod_isThing_11
