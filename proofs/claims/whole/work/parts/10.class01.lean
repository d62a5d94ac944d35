def f_Grid_holds (a1 : Int32) (a2 : Int32) (x : gx_S) : Option (Int32 × gx_S) :=
  if a1 < 0 then (some (0, x)) else (if (gx_gI x 0) ≤ a1 then (some (0, x)) else (if a2 < 0 then (some (0, x)) else (if (gx_gI x 1) ≤ a2 then (some (0, x)) else (some (1, x)))))
abbrev rm_Grid_holds : Room := { frames := 0, cells := 0, slots := 0, locals := 0 }
set_option maxHeartbeats 4000000 in
set_option maxRecDepth 100000 in
theorem c_Grid_holds (l : Launch) (a1 : Int32) (a2 : Int32) (x : gx_S) (o : Int32 × gx_S) (hf : f_Grid_holds a1 a2 x = some o) : gx_Mi false l y_Grid_holds prog_4_method_2_code 3 (some .boolean) rm_Grid_holds (fun E => [.ref (gx_ad E 0), .int a1, .int a2]) x o.1 o.2 := by
  refine gx_meti (own := "CaseLayout$Grid") (by decide) rfl (fun E => Nat.le_of_ble_eq_true rfl) (fun K E hl0 hR hr hlk hk C => ?_)
  subst hl0
  unfold f_Grid_holds at hf
  show gx_G K E _ 0 0 x 0 [(0, .ref (gx_ad E 0)), (1, .int a1), (2, .int a2)] []
  refine gx_iload_n C 1 d_Grid_holds_0 rfl rfl ?_
  refine gx_if_lt (tgt := 28) C d_Grid_holds_1 (by decide) (fun h1 => ?_) (fun h1 => ?_)
  · have hf := (if_pos h1).symm.trans hf
    refine gx_iconst C (v := 0) d_Grid_holds_28 (by decide) ?_
    cases hf
    exact gx_zret C hr hlk hk (by decide) d_Grid_holds_29
  · have hf := (if_neg h1).symm.trans hf
    refine gx_iload_n C 1 d_Grid_holds_4 rfl rfl ?_
    refine gx_aload_n C 0 d_Grid_holds_5 rfl rfl ?_
    refine gx_get C iw_Grid 0 (gx_w0 E _) rfl 0 (by decide) gw_42 rfl rfl d_Grid_holds_6 ?_
    refine gx_icmp_ge (tgt := 28) C d_Grid_holds_9 (by decide) (fun h2 => ?_) (fun h2 => ?_)
    · have hf := (if_pos h2).symm.trans hf
      refine gx_iconst C (v := 0) d_Grid_holds_28 (by decide) ?_
      cases hf
      exact gx_zret C hr hlk hk (by decide) d_Grid_holds_29
    · have hf := (if_neg h2).symm.trans hf
      refine gx_iload_n C 2 d_Grid_holds_12 rfl rfl ?_
      refine gx_if_lt (tgt := 28) C d_Grid_holds_13 (by decide) (fun h3 => ?_) (fun h3 => ?_)
      · have hf := (if_pos h3).symm.trans hf
        refine gx_iconst C (v := 0) d_Grid_holds_28 (by decide) ?_
        cases hf
        exact gx_zret C hr hlk hk (by decide) d_Grid_holds_29
      · have hf := (if_neg h3).symm.trans hf
        refine gx_iload_n C 2 d_Grid_holds_16 rfl rfl ?_
        refine gx_aload_n C 0 d_Grid_holds_17 rfl rfl ?_
        refine gx_get C iw_Grid 0 (gx_w0 E _) rfl 1 (by decide) gw_44 rfl rfl d_Grid_holds_18 ?_
        refine gx_icmp_ge (tgt := 28) C d_Grid_holds_21 (by decide) (fun h4 => ?_) (fun h4 => ?_)
        · have hf := (if_pos h4).symm.trans hf
          refine gx_iconst C (v := 0) d_Grid_holds_28 (by decide) ?_
          cases hf
          exact gx_zret C hr hlk hk (by decide) d_Grid_holds_29
        · have hf := (if_neg h4).symm.trans hf
          refine gx_iconst C (v := 1) d_Grid_holds_24 (by decide) ?_
          refine gx_goto (tgt := 29) C d_Grid_holds_25 (by decide) ?_
          cases hf
          exact gx_zret C hr hlk hk (by decide) d_Grid_holds_29

def f_CaseLayout_needCell (a1 : Int32) (a2 : Int32) (x : gx_S) : Option (Nat × Int32 × gx_S) :=
  gx_bd (f_Grid_holds a1 a2 x) (fun r1 x1 => if r1 = 0 then (some (1, 0, x1)) else (some (0, 0, x1)))
abbrev rm_CaseLayout_needCell : Room := { frames := 6, cells := 1, slots := 6, locals := 82 }
set_option maxHeartbeats 4000000 in
set_option maxRecDepth 100000 in
theorem c_CaseLayout_needCell (l : Launch) (hlt : l.stackTraces = false) (a1 : Int32) (a2 : Int32) (x : gx_S) (o : Nat × Int32 × gx_S) (hf : f_CaseLayout_needCell a1 a2 x = some o) : gx_MX false l y_CaseLayout_needCell prog_1_method_18_code 3 none rm_CaseLayout_needCell (fun E => [.ref (gx_ad E 28), .int a1, .int a2]) x none o.1 o.2.2 := by
  refine gx_metX (own := "CaseLayout") (by decide) rfl (fun E => Nat.le_of_ble_eq_true rfl) (fun K E hl0 hR hr hlk hnh hLT hk C => ?_)
  subst hl0
  unfold f_CaseLayout_needCell at hf
  show gx_G K E (gx_AB false E K.s.heap.size) 0 0 x 0 [(0, .ref (gx_ad E 28)), (1, .int a1), (2, .int a2)] []
  refine gx_aload_n C 0 d_CaseLayout_needCell_0 rfl rfl ?_
  refine gx_get C iw_CaseLayout 28 (gx_w28 E _) rfl 0 (by decide) gw_246 rfl rfl d_CaseLayout_needCell_1 ?_
  refine gx_iload_n C 1 d_CaseLayout_needCell_4 rfl rfl ?_
  refine gx_iload_n C 2 d_CaseLayout_needCell_5 rfl rfl ?_
  obtain ⟨r1, x1, hc1, hf⟩ := gx_bd_some hf
  refine gx_cVi (n2 := 0) (k2 := 0) C (As := [.int a1, .int a2]) (rest := []) 0 2 (c_Grid_holds K.l a1 a2 x _ hc1) (Or.inr rfl) rfl (gx_goodV gw_288 gw_289 gw_290 gw_2 gw_291) (by decide +kernel) (gx_w0 E _) rfl (by rw [hR]; decide) rfl rfl (Nat.le_of_ble_eq_true rfl) d_CaseLayout_needCell_6 (by rw [hR]; decide) rfl rfl ?_
  refine gx_if_ne (tgt := 22) C d_CaseLayout_needCell_9 (by decide) (fun h2 => ?_) (fun h2 => ?_)
  · have hf := (if_neg h2).symm.trans hf
    cases hf
    refine gx_widen (n' := 1) (k' := 6) (by decide) (by decide) ?_
    exact gx_vretX C hr hlk hk d_CaseLayout_needCell_22
  · have hf := (if_pos h2).symm.trans hf
    cases hf
    exact gx_throw (w := false) (j := 1) (tx := "no such cell") (names := ["java/lang/RuntimeException", "java/lang/Exception"]) C (by decide) hLT hlt hnh hlk gw_292 gw_293 gw_14 (by decide +kernel) (ga_CaseLayout_171 C) (by decide +kernel) (by decide +kernel) d_CaseLayout_needCell_12 d_CaseLayout_needCell_15 d_CaseLayout_needCell_16 d_CaseLayout_needCell_18 d_CaseLayout_needCell_21 (by rw [hR]; decide) (by rw [hR]; exact Nat.le_of_ble_eq_true rfl) (by rw [hR]; decide) (by rw [hR]; decide) hk

def f_CaseLayout_cellOf (a0 : Int32) (a1 : Int32) (x : gx_S) : Option (Int32 × gx_S) :=
  some ((a1 * 9) + a0, x)
abbrev rm_CaseLayout_cellOf : Room := { frames := 0, cells := 0, slots := 0, locals := 0 }
set_option maxHeartbeats 4000000 in
set_option maxRecDepth 100000 in
theorem c_CaseLayout_cellOf (l : Launch) (a0 : Int32) (a1 : Int32) (x : gx_S) (o : Int32 × gx_S) (hf : f_CaseLayout_cellOf a0 a1 x = some o) : gx_Mi false l y_CaseLayout_cellOf prog_1_method_25_code 2 (some .int) rm_CaseLayout_cellOf (fun E => [.int a0, .int a1]) x o.1 o.2 := by
  refine gx_meti (own := "CaseLayout") (by decide) rfl (fun E => Nat.le_of_ble_eq_true rfl) (fun K E hl0 hR hr hlk hk C => ?_)
  subst hl0
  unfold f_CaseLayout_cellOf at hf
  show gx_G K E _ 0 0 x 0 [(0, .int a0), (1, .int a1)] []
  refine gx_iload_n C 1 d_CaseLayout_cellOf_0 rfl rfl ?_
  refine gx_bipush C (v := 9) d_CaseLayout_cellOf_1 (by decide) ?_
  refine gx_imul C d_CaseLayout_cellOf_3 ?_
  refine gx_iload_n C 0 d_CaseLayout_cellOf_4 rfl rfl ?_
  refine gx_iadd C d_CaseLayout_cellOf_5 ?_
  cases hf
  exact gx_iret C hr hlk hk d_CaseLayout_cellOf_6

def s_Places_standOn_2 (v1 : Int32) (a : Int32 × gx_S) : Option ((Int32 × gx_S) ⊕ (Nat × Int32 × gx_S)) :=
  if (gx_gI a.2 4) ≤ a.1 then (some (.inr (1, a.1, a.2))) else (gx_ck a.1 8 (gx_ck a.1 8 (gx_bd (f_CaseLayout_cellOf (gx_gA a.2 7 (a.1 : Int32).toNatClampNeg) (gx_gA a.2 8 (a.1 : Int32).toNatClampNeg) a.2) (fun r4 x4 => if r4 = v1 then (some (.inr (0, a.1, x4))) else (some (.inl (a.1 + 1, x4)))))))
def f_Places_standOn (a1 : Int32) (x : gx_S) : Option (Int32 × gx_S) :=
  gx_bl (gx_it (s_Places_standOn_2 a1) gx_fuel (0, x)) (fun e6 => if e6.1 = 0 then (some (1, e6.2.2)) else (some (0, e6.2.2)))
abbrev rm_Places_standOn : Room := { frames := 1, cells := 0, slots := 0, locals := 21 }
def pp_Places_standOn_2 (K : gx_K) (E : gx_E) (v1 : Int32) (a : Int32 × gx_S) : Prop := gx_G K E (gx_AB false E K.s.heap.size) 0 0 (a.2) 2 [(0, .ref (gx_ad E 9)), (1, .int v1), (2, .int a.1)] []
def pq_Places_standOn_2 (K : gx_K) (E : gx_E) (v1 : Int32) (b : Nat × Int32 × gx_S) : Prop := if b.1 = 0 then gx_G K E (gx_AB false E K.s.heap.size) 0 0 (b.2.2) 29 [] [] else (gx_G K E (gx_AB false E K.s.heap.size) 0 0 (b.2.2) 37 [] [])
set_option maxHeartbeats 4000000 in
set_option maxRecDepth 100000 in
theorem sc_Places_standOn_2 {K : gx_K} {E : gx_E} (C : gx_C K E "CaseLayout$Places" prog_6_method_3_code 3) (hR : K.R = rm_Places_standOn) (hr : K.meth.sig.returnType = (some .boolean)) (hlk : K.meth.locks = false) (v1 : Int32) (a : Int32 × gx_S) (o : (Int32 × gx_S) ⊕ (Nat × Int32 × gx_S)) (hf : s_Places_standOn_2 v1 a = some o) (hk : gx_or (pp_Places_standOn_2 K E v1) (pq_Places_standOn_2 K E v1) o) : pp_Places_standOn_2 K E v1 a := by
  unfold s_Places_standOn_2 at hf
  unfold pp_Places_standOn_2
  refine gx_iload_n C 2 d_Places_standOn_2 rfl rfl ?_
  refine gx_aload_n C 0 d_Places_standOn_3 rfl rfl ?_
  refine gx_get C iw_Places 9 (gx_w9 E _) rfl 3 (by decide) gw_120 rfl rfl d_Places_standOn_4 ?_
  refine gx_icmp_ge (tgt := 37) C d_Places_standOn_7 (by decide) (fun h1 => ?_) (fun h1 => ?_)
  · have hf := (if_pos h1).symm.trans hf
    cases hf
    have hk : pq_Places_standOn_2 K E v1 _ := hk
    unfold pq_Places_standOn_2 at hk
    have hk := gx_ifn (by decide : ¬ ((1 : Nat) = 0)) hk
    refine gx_lv (lv' := []) [] rfl ?_
    exact hk
  · have hf := (if_neg h1).symm.trans hf
    refine gx_aload_n C 0 d_Places_standOn_10 rfl rfl ?_
    refine gx_get C iw_Places 9 (gx_w9 E _) rfl 0 (by decide) gw_111 rfl rfl d_Places_standOn_11 ?_
    refine gx_iload_n C 2 d_Places_standOn_14 rfl rfl ?_
    obtain ⟨hi2, hf⟩ := gx_ck_some hf
    refine gx_iald C 10 0 (gx_w10 E _) rfl hi2 d_Places_standOn_15 ?_
    refine gx_aload_n C 0 d_Places_standOn_16 rfl rfl ?_
    refine gx_get C iw_Places 9 (gx_w9 E _) rfl 1 (by decide) gw_114 rfl rfl d_Places_standOn_17 ?_
    refine gx_iload_n C 2 d_Places_standOn_20 rfl rfl ?_
    obtain ⟨hi3, hf⟩ := gx_ck_some hf
    refine gx_iald C 11 0 (gx_w11 E _) rfl hi3 d_Places_standOn_21 ?_
    obtain ⟨r4, x4, hc4, hf⟩ := gx_bd_some hf
    refine gx_cSNi (n2 := 0) (k2 := 0) C (As := [.int (gx_gA a.2 7 (a.1 : Int32).toNatClampNeg), .int (gx_gA a.2 8 (a.1 : Int32).toNatClampNeg)]) (rest := []) 2 (c_CaseLayout_cellOf K.l (gx_gA a.2 7 (a.1 : Int32).toNatClampNeg) (gx_gA a.2 8 (a.1 : Int32).toNatClampNeg) a.2 _ hc4) (Or.inr rfl) rfl gw_362 gn_367 gw_1 gw_361 (by decide +kernel) (by rw [hR]; decide) rfl rfl (Nat.le_of_ble_eq_true rfl) d_Places_standOn_22 (by rw [hR]; decide) rfl rfl ?_
    refine gx_iload_n C 1 d_Places_standOn_25 rfl rfl ?_
    refine gx_icmp_ne (tgt := 31) C d_Places_standOn_26 (by decide) (fun h5 => ?_) (fun h5 => ?_)
    · have hf := (if_neg h5).symm.trans hf
      refine gx_iinc C (v := a.1 + 1) (lv' := [(2, .int (a.1 + 1)), (0, .ref (gx_ad E 9)), (1, .int v1)]) 2 d_Places_standOn_31 rfl rfl (by decide) rfl ?_
      refine gx_goto (tgt := 2) C d_Places_standOn_34 (by decide) ?_
      cases hf
      refine gx_lv (lv' := [(0, .ref (gx_ad E 9)), (1, .int v1), (2, .int (a.1 + 1))]) [1, 2, 0] rfl ?_
      exact hk
    · have hf := (if_pos h5).symm.trans hf
      cases hf
      have hk : pq_Places_standOn_2 K E v1 _ := hk
      unfold pq_Places_standOn_2 at hk
      have hk := gx_ifp (rfl : (0 : Nat) = 0) hk
      refine gx_lv (lv' := []) [] rfl ?_
      exact hk
set_option maxHeartbeats 4000000 in
set_option maxRecDepth 100000 in
theorem c_Places_standOn (l : Launch) (a1 : Int32) (x : gx_S) (o : Int32 × gx_S) (hf : f_Places_standOn a1 x = some o) : gx_Mi false l y_Places_standOn prog_6_method_3_code 3 (some .boolean) rm_Places_standOn (fun E => [.ref (gx_ad E 9), .int a1]) x o.1 o.2 := by
  refine gx_meti (own := "CaseLayout$Places") (by decide) rfl (fun E => Nat.le_of_ble_eq_true rfl) (fun K E hl0 hR hr hlk hk C => ?_)
  subst hl0
  unfold f_Places_standOn at hf
  show gx_G K E _ 0 0 x 0 [(0, .ref (gx_ad E 9)), (1, .int a1)] []
  refine gx_iconst C (v := 0) d_Places_standOn_0 (by decide) ?_
  refine gx_istore_n C (lv' := [(2, .int 0), (0, .ref (gx_ad E 9)), (1, .int a1)]) d_Places_standOn_1 rfl (by decide) rfl ?_
  refine gx_lv (lv' := [(0, .ref (gx_ad E 9)), (1, .int a1), (2, .int 0)]) [1, 2, 0] rfl ?_
  obtain ⟨e6, he6, hf⟩ := gx_bl_some hf
  refine (gx_loop (P := pp_Places_standOn_2 K E a1) (Q := pq_Places_standOn_2 K E a1) (fun a9 o9 h1 h2 => sc_Places_standOn_2 C hR hr hlk a1 a9 o9 h1 h2) gx_fuel (0, x) e6 he6 ?_ : pp_Places_standOn_2 K E a1 (0, x))
  unfold pq_Places_standOn_2
  by_cases ht7 : e6.1 = 0
  · rw [if_pos ht7]
    have hf := (if_pos ht7).symm.trans hf
    refine gx_iconst C (v := 1) d_Places_standOn_29 (by decide) ?_
    cases hf
    exact gx_zret C hr hlk hk (by decide) d_Places_standOn_30
  · rw [if_neg ht7]
    have hf := (if_neg ht7).symm.trans hf
    refine gx_iconst C (v := 0) d_Places_standOn_37 (by decide) ?_
    cases hf
    exact gx_zret C hr hlk hk (by decide) d_Places_standOn_38

def s_Exits_standOn_2 (v1 : Int32) (a : Int32 × gx_S) : Option ((Int32 × gx_S) ⊕ (Nat × Int32 × gx_S)) :=
  if (gx_gI a.2 5) ≤ a.1 then (some (.inr (1, a.1, a.2))) else (gx_ck a.1 6 (if (gx_gA a.2 10 (a.1 : Int32).toNatClampNeg) = v1 then (some (.inr (0, a.1, a.2))) else (some (.inl (a.1 + 1, a.2)))))
def f_Exits_standOn (a1 : Int32) (x : gx_S) : Option (Int32 × gx_S) :=
  gx_bl (gx_it (s_Exits_standOn_2 a1) gx_fuel (0, x)) (fun e4 => if e4.1 = 0 then (some (1, e4.2.2)) else (some (0, e4.2.2)))
abbrev rm_Exits_standOn : Room := { frames := 0, cells := 0, slots := 0, locals := 0 }
def pp_Exits_standOn_2 (K : gx_K) (E : gx_E) (v1 : Int32) (a : Int32 × gx_S) : Prop := gx_G K E (gx_AB false E K.s.heap.size) 0 0 (a.2) 2 [(0, .ref (gx_ad E 13)), (1, .int v1), (2, .int a.1)] []
def pq_Exits_standOn_2 (K : gx_K) (E : gx_E) (v1 : Int32) (b : Nat × Int32 × gx_S) : Prop := if b.1 = 0 then gx_G K E (gx_AB false E K.s.heap.size) 0 0 (b.2.2) 20 [] [] else (gx_G K E (gx_AB false E K.s.heap.size) 0 0 (b.2.2) 28 [] [])
set_option maxHeartbeats 4000000 in
set_option maxRecDepth 100000 in
theorem sc_Exits_standOn_2 {K : gx_K} {E : gx_E} (C : gx_C K E "CaseLayout$Exits" prog_2_method_3_code 3) (hR : K.R = rm_Exits_standOn) (hr : K.meth.sig.returnType = (some .boolean)) (hlk : K.meth.locks = false) (v1 : Int32) (a : Int32 × gx_S) (o : (Int32 × gx_S) ⊕ (Nat × Int32 × gx_S)) (hf : s_Exits_standOn_2 v1 a = some o) (hk : gx_or (pp_Exits_standOn_2 K E v1) (pq_Exits_standOn_2 K E v1) o) : pp_Exits_standOn_2 K E v1 a := by
  unfold s_Exits_standOn_2 at hf
  unfold pp_Exits_standOn_2
  refine gx_iload_n C 2 d_Exits_standOn_2 rfl rfl ?_
  refine gx_aload_n C 0 d_Exits_standOn_3 rfl rfl ?_
  refine gx_get C iw_Exits 13 (gx_w13 E _) rfl 1 (by decide) gw_140 rfl rfl d_Exits_standOn_4 ?_
  refine gx_icmp_ge (tgt := 28) C d_Exits_standOn_7 (by decide) (fun h1 => ?_) (fun h1 => ?_)
  · have hf := (if_pos h1).symm.trans hf
    cases hf
    have hk : pq_Exits_standOn_2 K E v1 _ := hk
    unfold pq_Exits_standOn_2 at hk
    have hk := gx_ifn (by decide : ¬ ((1 : Nat) = 0)) hk
    refine gx_lv (lv' := []) [] rfl ?_
    exact hk
  · have hf := (if_neg h1).symm.trans hf
    refine gx_aload_n C 0 d_Exits_standOn_10 rfl rfl ?_
    refine gx_get C iw_Exits 13 (gx_w13 E _) rfl 0 (by decide) gw_138 rfl rfl d_Exits_standOn_11 ?_
    refine gx_iload_n C 2 d_Exits_standOn_14 rfl rfl ?_
    obtain ⟨hi2, hf⟩ := gx_ck_some hf
    refine gx_iald C 14 0 (gx_w14 E _) rfl hi2 d_Exits_standOn_15 ?_
    refine gx_iload_n C 1 d_Exits_standOn_16 rfl rfl ?_
    refine gx_icmp_ne (tgt := 22) C d_Exits_standOn_17 (by decide) (fun h3 => ?_) (fun h3 => ?_)
    · have hf := (if_neg h3).symm.trans hf
      refine gx_iinc C (v := a.1 + 1) (lv' := [(2, .int (a.1 + 1)), (0, .ref (gx_ad E 13)), (1, .int v1)]) 2 d_Exits_standOn_22 rfl rfl (by decide) rfl ?_
      refine gx_goto (tgt := 2) C d_Exits_standOn_25 (by decide) ?_
      cases hf
      refine gx_lv (lv' := [(0, .ref (gx_ad E 13)), (1, .int v1), (2, .int (a.1 + 1))]) [1, 2, 0] rfl ?_
      exact hk
    · have hf := (if_pos h3).symm.trans hf
      cases hf
      have hk : pq_Exits_standOn_2 K E v1 _ := hk
      unfold pq_Exits_standOn_2 at hk
      have hk := gx_ifp (rfl : (0 : Nat) = 0) hk
      refine gx_lv (lv' := []) [] rfl ?_
      exact hk
set_option maxHeartbeats 4000000 in
set_option maxRecDepth 100000 in
theorem c_Exits_standOn (l : Launch) (a1 : Int32) (x : gx_S) (o : Int32 × gx_S) (hf : f_Exits_standOn a1 x = some o) : gx_Mi false l y_Exits_standOn prog_2_method_3_code 3 (some .boolean) rm_Exits_standOn (fun E => [.ref (gx_ad E 13), .int a1]) x o.1 o.2 := by
  refine gx_meti (own := "CaseLayout$Exits") (by decide) rfl (fun E => Nat.le_of_ble_eq_true rfl) (fun K E hl0 hR hr hlk hk C => ?_)
  subst hl0
  unfold f_Exits_standOn at hf
  show gx_G K E _ 0 0 x 0 [(0, .ref (gx_ad E 13)), (1, .int a1)] []
  refine gx_iconst C (v := 0) d_Exits_standOn_0 (by decide) ?_
  refine gx_istore_n C (lv' := [(2, .int 0), (0, .ref (gx_ad E 13)), (1, .int a1)]) d_Exits_standOn_1 rfl (by decide) rfl ?_
  refine gx_lv (lv' := [(0, .ref (gx_ad E 13)), (1, .int a1), (2, .int 0)]) [1, 2, 0] rfl ?_
  obtain ⟨e4, he4, hf⟩ := gx_bl_some hf
  refine (gx_loop (P := pp_Exits_standOn_2 K E a1) (Q := pq_Exits_standOn_2 K E a1) (fun a9 o9 h1 h2 => sc_Exits_standOn_2 C hR hr hlk a1 a9 o9 h1 h2) gx_fuel (0, x) e4 he4 ?_ : pp_Exits_standOn_2 K E a1 (0, x))
  unfold pq_Exits_standOn_2
  by_cases ht5 : e4.1 = 0
  · rw [if_pos ht5]
    have hf := (if_pos ht5).symm.trans hf
    refine gx_iconst C (v := 1) d_Exits_standOn_20 (by decide) ?_
    cases hf
    exact gx_zret C hr hlk hk (by decide) d_Exits_standOn_21
  · rw [if_neg ht5]
    have hf := (if_neg ht5).symm.trans hf
    refine gx_iconst C (v := 0) d_Exits_standOn_28 (by decide) ?_
    cases hf
    exact gx_zret C hr hlk hk (by decide) d_Exits_standOn_29

def f_Grid_setWall (a1 : Int32) (a2 : Int32) (x : gx_S) : Option (Int32 × gx_S) :=
  gx_ck a1 81 (if a2 = 0 then (some (0, gx_sI (gx_sA x 0 (a1 : Int32).toNatClampNeg (vp_nar .boolean a2)) 2 ((gx_gI (gx_sA x 0 (a1 : Int32).toNatClampNeg (vp_nar .boolean a2)) 2) + (-1)))) else (some (0, gx_sI (gx_sA x 0 (a1 : Int32).toNatClampNeg (vp_nar .boolean a2)) 2 ((gx_gI (gx_sA x 0 (a1 : Int32).toNatClampNeg (vp_nar .boolean a2)) 2) + 1))))
abbrev rm_Grid_setWall : Room := { frames := 0, cells := 0, slots := 0, locals := 0 }
set_option maxHeartbeats 4000000 in
set_option maxRecDepth 100000 in
theorem c_Grid_setWall (l : Launch) (a1 : Int32) (a2 : Int32) (x : gx_S) (o : Int32 × gx_S) (hf : f_Grid_setWall a1 a2 x = some o) : gx_Mv true l y_Grid_setWall prog_4_method_3_code 3 rm_Grid_setWall (fun E => [.ref (gx_ad E 0), .int a1, .int a2]) x o.2 := by
  refine gx_metv (own := "CaseLayout$Grid") (by decide) rfl (fun E => Nat.le_of_ble_eq_true rfl) (fun K E hl0 hR hr hlk hk C => ?_)
  subst hl0
  unfold f_Grid_setWall at hf
  show gx_G K E _ 0 0 x 0 [(0, .ref (gx_ad E 0)), (1, .int a1), (2, .int a2)] []
  refine gx_aload_n C 0 d_Grid_setWall_0 rfl rfl ?_
  refine gx_get C iw_Grid 0 (gx_w0 E _) rfl 2 (by decide) gw_46 rfl rfl d_Grid_setWall_1 ?_
  refine gx_iload_n C 1 d_Grid_setWall_4 rfl rfl ?_
  refine gx_iload_n C 2 d_Grid_setWall_5 rfl rfl ?_
  obtain ⟨hi1, hf⟩ := gx_ck_some hf
  refine gx_zast C (x' := gx_sA x 0 (a1 : Int32).toNatClampNeg (vp_nar .boolean a2)) 1 1 (gx_w1 E _) rfl hi1 (gx_q1 E _ _ _) d_Grid_setWall_6 ?_
  refine gx_aload_n C 0 d_Grid_setWall_7 rfl rfl ?_
  refine gx_dup C d_Grid_setWall_8 rfl ?_
  refine gx_get C iw_Grid 0 (gx_w0 E _) rfl 4 (by decide) gw_51 rfl rfl d_Grid_setWall_9 ?_
  refine gx_iload_n C 2 d_Grid_setWall_12 rfl rfl ?_
  refine gx_if_eq (tgt := 20) C d_Grid_setWall_13 (by decide) (fun h2 => ?_) (fun h2 => ?_)
  · have hf := (if_pos h2).symm.trans hf
    refine gx_iconst C (v := (-1)) d_Grid_setWall_20 (by decide) ?_
    refine gx_iadd C d_Grid_setWall_21 ?_
    refine gx_put C (ty := .int) (x' := gx_sI (gx_sA x 0 (a1 : Int32).toNatClampNeg (vp_nar .boolean a2)) 2 ((gx_gI (gx_sA x 0 (a1 : Int32).toNatClampNeg (vp_nar .boolean a2)) 2) + (-1))) iw_Grid ty_Grid tk_Grid tn_Grid 0 (gx_w0 E _) rfl 4 (by decide) gw_51 rfl rfl (by decide +kernel) rfl rfl (Nat.le_of_ble_eq_true rfl) (gx_p0_4 E _ _) d_Grid_setWall_22 ?_
    cases hf
    exact gx_vret C hr hlk hk d_Grid_setWall_25
  · have hf := (if_neg h2).symm.trans hf
    refine gx_iconst C (v := 1) d_Grid_setWall_16 (by decide) ?_
    refine gx_goto (tgt := 21) C d_Grid_setWall_17 (by decide) ?_
    refine gx_iadd C d_Grid_setWall_21 ?_
    refine gx_put C (ty := .int) (x' := gx_sI (gx_sA x 0 (a1 : Int32).toNatClampNeg (vp_nar .boolean a2)) 2 ((gx_gI (gx_sA x 0 (a1 : Int32).toNatClampNeg (vp_nar .boolean a2)) 2) + 1)) iw_Grid ty_Grid tk_Grid tn_Grid 0 (gx_w0 E _) rfl 4 (by decide) gw_51 rfl rfl (by decide +kernel) rfl rfl (Nat.le_of_ble_eq_true rfl) (gx_p0_4 E _ _) d_Grid_setWall_22 ?_
    cases hf
    exact gx_vret C hr hlk hk d_Grid_setWall_25

def f_Search_forget  (x : gx_S) : Option (Int32 × gx_S) :=
  some (0, gx_sI (gx_sI x 9 0) 10 (-1))
abbrev rm_Search_forget : Room := { frames := 0, cells := 0, slots := 0, locals := 0 }
set_option maxHeartbeats 4000000 in
set_option maxRecDepth 100000 in
theorem c_Search_forget (l : Launch)  (x : gx_S) (o : Int32 × gx_S) (hf : f_Search_forget  x = some o) : gx_Mv true l y_Search_forget prog_7_method_2_code 1 rm_Search_forget (fun E => [.ref (gx_ad E 25)]) x o.2 := by
  refine gx_metv (own := "CaseLayout$Search") (by decide) rfl (fun E => Nat.le_of_ble_eq_true rfl) (fun K E hl0 hR hr hlk hk C => ?_)
  subst hl0
  unfold f_Search_forget at hf
  show gx_G K E _ 0 0 x 0 [(0, .ref (gx_ad E 25))] []
  refine gx_aload_n C 0 d_Search_forget_0 rfl rfl ?_
  refine gx_iconst C (v := 0) d_Search_forget_1 (by decide) ?_
  refine gx_put C (ty := .int) (x' := gx_sI x 9 0) iw_Search ty_Search tk_Search tn_Search 25 (gx_w25 E _) rfl 10 (by decide) gw_217 rfl rfl (by decide +kernel) rfl rfl (Nat.le_of_ble_eq_true rfl) (gx_p25_10 E _ _) d_Search_forget_2 ?_
  refine gx_aload_n C 0 d_Search_forget_5 rfl rfl ?_
  refine gx_iconst C (v := (-1)) d_Search_forget_6 (by decide) ?_
  refine gx_put C (ty := .int) (x' := gx_sI (gx_sI x 9 0) 10 (-1)) iw_Search ty_Search tk_Search tn_Search 25 (gx_w25 E _) rfl 11 (by decide) gw_219 rfl rfl (by decide +kernel) rfl rfl (Nat.le_of_ble_eq_true rfl) (gx_p25_11 E _ _) d_Search_forget_7 ?_
  cases hf
  exact gx_vret C hr hlk hk d_Search_forget_10

def f_CaseLayout_wall (a1 : Int32) (a2 : Int32) (a3 : Int32) (x : gx_S) : Option (Nat × Int32 × gx_S) :=
  gx_bx (f_CaseLayout_needCell a1 a2 x) (fun r1 x1 => gx_bd (f_CaseLayout_cellOf a1 a2 x1) (fun r2 x2 => gx_ck r2 81 (if (gx_gA x2 0 (r2 : Int32).toNatClampNeg) = a3 then (some (0, 0, x2)) else (gx_bd (f_Places_standOn r2 x2) (fun r5 x5 => if r5 = 0 then (gx_bd (f_Exits_standOn r2 x5) (fun r7 x7 => if r7 = 0 then (gx_bd (f_Grid_setWall r2 a3 x7) (fun r9 x9 => gx_bd (f_Search_forget  x9) (fun r10 x10 => some (0, 1, x10)))) else (some (0, 0, x7)))) else (some (0, 0, x5)))))))
abbrev rm_CaseLayout_wall : Room := { frames := 7, cells := 1, slots := 6, locals := 104 }
set_option maxHeartbeats 4000000 in
set_option maxRecDepth 100000 in
theorem c_CaseLayout_wall (l : Launch) (hlt : l.stackTraces = false) (a1 : Int32) (a2 : Int32) (a3 : Int32) (x : gx_S) (o : Nat × Int32 × gx_S) (hf : f_CaseLayout_wall a1 a2 a3 x = some o) : gx_MX true l y_CaseLayout_wall prog_1_method_2_code 5 (some .boolean) rm_CaseLayout_wall (fun E => [.ref (gx_ad E 28), .int a1, .int a2, .int a3]) x (some (.int o.2.1)) o.1 o.2.2 := by
  refine gx_metX (own := "CaseLayout") (by decide) rfl (fun E => Nat.le_of_ble_eq_true rfl) (fun K E hl0 hR hr hlk hnh hLT hk C => ?_)
  subst hl0
  unfold f_CaseLayout_wall at hf
  show gx_G K E (gx_AB false E K.s.heap.size) 0 0 x 0 [(0, .ref (gx_ad E 28)), (1, .int a1), (2, .int a2), (3, .int a3)] []
  refine gx_aload_n C 0 d_CaseLayout_wall_0 rfl rfl ?_
  refine gx_iload_n C 1 d_CaseLayout_wall_1 rfl rfl ?_
  refine gx_iload_n C 2 d_CaseLayout_wall_2 rfl rfl ?_
  obtain ⟨j1, r1, x1, hc1, ⟨hq1, hf⟩ | ⟨hq1, hf⟩⟩ := gx_bx_some hf
  rotate_left
  · subst hf
    refine gx_cVx (n2 := 1) (k2 := 6) C hq1 (As := [.int a1, .int a2]) (rest := []) 28 2 (c_CaseLayout_needCell K.l hlt a1 a2 x _ hc1) (Or.inr rfl) rfl (gx_goodV gw_284 gw_286 gs_0 gw_1 gw_287) (by decide +kernel) (gx_w28 E _) rfl (by rw [hR]; decide) rfl rfl (Nat.le_of_ble_eq_true rfl) d_CaseLayout_wall_3 (by rw [hR]; decide) rfl rfl ?_
    refine gx_H.toF ?_
    exact gx_outX hq1 hnh hlk hk
  subst hq1
  refine gx_cVv (n2 := 1) (k2 := 6) C (As := [.int a1, .int a2]) (rest := []) 28 2 (c_CaseLayout_needCell K.l hlt a1 a2 x _ hc1).toV (Or.inr rfl) rfl (gx_goodV gw_284 gw_286 gs_0 gw_1 gw_287) (by decide +kernel) (gx_w28 E _) rfl (by rw [hR]; decide) rfl rfl (Nat.le_of_ble_eq_true rfl) d_CaseLayout_wall_3 (by rw [hR]; decide) rfl rfl ?_
  refine gx_iload_n C 1 d_CaseLayout_wall_6 rfl rfl ?_
  refine gx_iload_n C 2 d_CaseLayout_wall_7 rfl rfl ?_
  obtain ⟨r2, x2, hc2, hf⟩ := gx_bd_some hf
  refine gx_cSi (n2 := 1) (k2 := 6) C (As := [.int a1, .int a2]) (rest := []) 2 (c_CaseLayout_cellOf K.l a1 a2 x1 _ hc2) (Or.inr rfl) rfl (gx_goodS gw_360 gw_361 gw_1 gw_362) (by decide +kernel) (by rw [hR]; decide) rfl rfl (Nat.le_of_ble_eq_true rfl) d_CaseLayout_wall_8 (by rw [hR]; decide) rfl rfl ?_
  refine gx_istore C (lv' := [(4, .int r2), (0, .ref (gx_ad E 28)), (1, .int a1), (2, .int a2), (3, .int a3)]) d_CaseLayout_wall_11 (by decide) rfl ?_
  refine gx_aload_n C 1 d_CaseLayout_wall_13 rfl rfl ?_
  refine gx_get C iw_CaseLayout 28 (gx_w28 E _) rfl 0 (by decide) gw_246 rfl rfl d_CaseLayout_wall_14 ?_
  refine gx_getN C iw_Grid 0 (gx_w0 E _) rfl 2 (by decide) gn_47 rfl rfl d_CaseLayout_wall_17 ?_
  refine gx_iload C 0 d_CaseLayout_wall_20 rfl ?_
  obtain ⟨hi3, hf⟩ := gx_ck_some hf
  refine gx_zald C 1 1 (gx_w1 E _) rfl hi3 d_CaseLayout_wall_22 ?_
  refine gx_iload_n C 4 d_CaseLayout_wall_23 rfl rfl ?_
  refine gx_icmp_eq (tgt := 51) C d_CaseLayout_wall_24 (by decide) (fun h4 => ?_) (fun h4 => ?_)
  · have hf := (if_pos h4).symm.trans hf
    refine gx_iconst C (v := 0) d_CaseLayout_wall_51 (by decide) ?_
    cases hf
    refine gx_toF ?_
    exact gx_zretX C hr hlk hk (by decide) d_CaseLayout_wall_52
  · have hf := (if_neg h4).symm.trans hf
    refine gx_aload_n C 1 d_CaseLayout_wall_27 rfl rfl ?_
    refine gx_get C iw_CaseLayout 28 (gx_w28 E _) rfl 2 (by decide) gw_248 rfl rfl d_CaseLayout_wall_28 ?_
    refine gx_iload C 0 d_CaseLayout_wall_31 rfl ?_
    obtain ⟨r5, x5, hc5, hf⟩ := gx_bd_some hf
    refine gx_cVi (n2 := 1) (k2 := 6) C (As := [.int r2]) (rest := []) 9 1 (c_Places_standOn K.l r2 x2 _ hc5) (Or.inr rfl) rfl (gx_goodV gw_363 gw_364 gw_365 gw_5 gw_366) (by decide +kernel) (gx_w9 E _) rfl (by rw [hR]; decide) rfl rfl (Nat.le_of_ble_eq_true rfl) d_CaseLayout_wall_33 (by rw [hR]; decide) rfl rfl ?_
    refine gx_if_ne (tgt := 51) C d_CaseLayout_wall_36 (by decide) (fun h6 => ?_) (fun h6 => ?_)
    · have hf := (if_neg h6).symm.trans hf
      refine gx_iconst C (v := 0) d_CaseLayout_wall_51 (by decide) ?_
      cases hf
      refine gx_toF ?_
      exact gx_zretX C hr hlk hk (by decide) d_CaseLayout_wall_52
    · have hf := (if_pos h6).symm.trans hf
      refine gx_aload_n C 1 d_CaseLayout_wall_39 rfl rfl ?_
      refine gx_get C iw_CaseLayout 28 (gx_w28 E _) rfl 3 (by decide) gw_249 rfl rfl d_CaseLayout_wall_40 ?_
      refine gx_iload C 0 d_CaseLayout_wall_43 rfl ?_
      obtain ⟨r7, x7, hc7, hf⟩ := gx_bd_some hf
      refine gx_cVi (n2 := 1) (k2 := 6) C (As := [.int r2]) (rest := []) 13 1 (c_Exits_standOn K.l r2 x5 _ hc7) (Or.inr rfl) rfl (gx_goodV gw_368 gw_369 gw_370 gw_6 gw_371) (by decide +kernel) (gx_w13 E _) rfl (by rw [hR]; decide) rfl rfl (Nat.le_of_ble_eq_true rfl) d_CaseLayout_wall_45 (by rw [hR]; decide) rfl rfl ?_
      refine gx_if_eq (tgt := 53) C d_CaseLayout_wall_48 (by decide) (fun h8 => ?_) (fun h8 => ?_)
      · have hf := (if_pos h8).symm.trans hf
        refine gx_aload_n C 1 d_CaseLayout_wall_53 rfl rfl ?_
        refine gx_get C iw_CaseLayout 28 (gx_w28 E _) rfl 0 (by decide) gw_246 rfl rfl d_CaseLayout_wall_54 ?_
        refine gx_iload C 0 d_CaseLayout_wall_57 rfl ?_
        refine gx_iload_n C 4 d_CaseLayout_wall_59 rfl rfl ?_
        refine gx_toF ?_
        obtain ⟨r9, x9, hc9, hf⟩ := gx_bd_some hf
        refine gx_cVv (n2 := 1) (k2 := 6) C (As := [.int r2, .int a3]) (rest := []) 0 2 (c_Grid_setWall K.l r2 a3 x7 _ hc9) (Or.inl rfl) rfl (gx_goodV gw_372 gw_373 gw_374 gw_2 gw_375) (by decide +kernel) (gx_w0 E _) rfl (by rw [hR]; decide) rfl rfl (Nat.le_of_ble_eq_true rfl) d_CaseLayout_wall_60 (by rw [hR]; decide) rfl rfl ?_
        refine gx_aload_n C 1 d_CaseLayout_wall_63 rfl rfl ?_
        refine gx_get C iw_CaseLayout 28 (gx_w28 E _) rfl 5 (by decide) gw_251 rfl rfl d_CaseLayout_wall_64 ?_
        obtain ⟨r10, x10, hc10, hf⟩ := gx_bd_some hf
        refine gx_cVv (n2 := 1) (k2 := 6) C (As := []) (rest := []) 25 0 (c_Search_forget K.l  x9 _ hc10) (Or.inl rfl) rfl (gx_goodV gw_376 gw_377 gw_378 gw_8 gw_379) (by decide +kernel) (gx_w25 E _) rfl (by rw [hR]; decide) rfl rfl (Nat.le_of_ble_eq_true rfl) d_CaseLayout_wall_67 (by rw [hR]; decide) rfl rfl ?_
        refine gx_iconst C (v := 1) d_CaseLayout_wall_70 (by decide) ?_
        cases hf
        exact gx_zretX C hr hlk hk (by decide) d_CaseLayout_wall_71
      · have hf := (if_neg h8).symm.trans hf
        refine gx_iconst C (v := 0) d_CaseLayout_wall_51 (by decide) ?_
        cases hf
        refine gx_toF ?_
        exact gx_zretX C hr hlk hk (by decide) d_CaseLayout_wall_52

def j_CaseLayout_needWithin_10  (x : gx_S) : Option (Nat × Int32 × gx_S) :=
  some (3, 0, x)
def f_CaseLayout_needWithin (a0 : Int32) (a1 : Int32) (a2 : Int32) (x : gx_S) : Option (Nat × Int32 × gx_S) :=
  if a0 < a1 then (j_CaseLayout_needWithin_10   x) else (if a0 ≤ a2 then (some (0, 0, x)) else (j_CaseLayout_needWithin_10   x))
abbrev rm_CaseLayout_needWithin : Room := { frames := 6, cells := 1, slots := 6, locals := 82 }
set_option maxHeartbeats 4000000 in
set_option maxRecDepth 100000 in
theorem jc_CaseLayout_needWithin_10 {K : gx_K} {E : gx_E} (C : gx_C K E "CaseLayout" prog_1_method_23_code 3) (hR : K.R = rm_CaseLayout_needWithin) (hr : K.meth.sig.returnType = none) (hlk : K.meth.locks = false) (hlt : K.l.stackTraces = false) (hnh : K.c.exceptionTable.isEmpty = true) (hLT : gx_LT E K.s.heap.size)  (x : gx_S) (o : Nat × Int32 × gx_S) (hf : j_CaseLayout_needWithin_10  x = some o) (hk : ∀ t, gx_MQX K.below (gx_QX E (gx_AB false E K.s.heap.size) none o.1 o.2.2) K.args K.s 1 6 (gx_AB false E K.s.heap.size) t → K.Q t) : gx_G K E (gx_AB false E K.s.heap.size) 0 0 x 10 [] [] := by
  unfold j_CaseLayout_needWithin_10 at hf
  cases hf
  exact gx_throw (w := false) (j := 3) (tx := "out of range") (names := ["java/lang/RuntimeException", "java/lang/Exception"]) C (by decide) hLT hlt hnh hlk gw_391 gw_392 gw_15 (by decide +kernel) (ga_CaseLayout_126 C) (by decide +kernel) (by decide +kernel) d_CaseLayout_needWithin_10 d_CaseLayout_needWithin_13 d_CaseLayout_needWithin_14 d_CaseLayout_needWithin_16 d_CaseLayout_needWithin_19 (by rw [hR]; decide) (by rw [hR]; exact Nat.le_of_ble_eq_true rfl) (by rw [hR]; decide) (by rw [hR]; decide) hk
set_option maxHeartbeats 4000000 in
set_option maxRecDepth 100000 in
theorem c_CaseLayout_needWithin (l : Launch) (hlt : l.stackTraces = false) (a0 : Int32) (a1 : Int32) (a2 : Int32) (x : gx_S) (o : Nat × Int32 × gx_S) (hf : f_CaseLayout_needWithin a0 a1 a2 x = some o) : gx_MX false l y_CaseLayout_needWithin prog_1_method_23_code 3 none rm_CaseLayout_needWithin (fun E => [.int a0, .int a1, .int a2]) x none o.1 o.2.2 := by
  refine gx_metX (own := "CaseLayout") (by decide) rfl (fun E => Nat.le_of_ble_eq_true rfl) (fun K E hl0 hR hr hlk hnh hLT hk C => ?_)
  subst hl0
  unfold f_CaseLayout_needWithin at hf
  show gx_G K E (gx_AB false E K.s.heap.size) 0 0 x 0 [(0, .int a0), (1, .int a1), (2, .int a2)] []
  refine gx_iload_n C 0 d_CaseLayout_needWithin_0 rfl rfl ?_
  refine gx_iload_n C 1 d_CaseLayout_needWithin_1 rfl rfl ?_
  refine gx_icmp_lt (tgt := 10) C d_CaseLayout_needWithin_2 (by decide) (fun h1 => ?_) (fun h1 => ?_)
  · have hf := (if_pos h1).symm.trans hf
    refine gx_lv (lv' := []) [] rfl ?_
    exact jc_CaseLayout_needWithin_10 C hR hr hlk hlt hnh hLT   x _ hf hk
  · have hf := (if_neg h1).symm.trans hf
    refine gx_iload_n C 0 d_CaseLayout_needWithin_5 rfl rfl ?_
    refine gx_iload_n C 2 d_CaseLayout_needWithin_6 rfl rfl ?_
    refine gx_icmp_le (tgt := 20) C d_CaseLayout_needWithin_7 (by decide) (fun h2 => ?_) (fun h2 => ?_)
    · have hf := (if_pos h2).symm.trans hf
      cases hf
      refine gx_widen (n' := 1) (k' := 6) (by decide) (by decide) ?_
      exact gx_vretX C hr hlk hk d_CaseLayout_needWithin_20
    · have hf := (if_neg h2).symm.trans hf
      refine gx_lv (lv' := []) [] rfl ?_
      exact jc_CaseLayout_needWithin_10 C hR hr hlk hlt hnh hLT   x _ hf hk

def f_CaseLayout_zone (a1 : Int32) (a2 : Int32) (a3 : Int32) (x : gx_S) : Option (Nat × Int32 × gx_S) :=
  gx_bx (f_CaseLayout_needCell a1 a2 x) (fun r1 x1 => gx_bx (f_CaseLayout_needWithin a3 0 3 x1) (fun r2 x2 => gx_bd (f_CaseLayout_cellOf a1 a2 x2) (fun r3 x3 => gx_ck r3 81 (gx_ck r3 81 (gx_bd (f_Search_forget  (gx_sA x3 1 (r3 : Int32).toNatClampNeg a3)) (fun r6 x6 => some (0, gx_gA x3 1 (r3 : Int32).toNatClampNeg, x6)))))))
abbrev rm_CaseLayout_zone : Room := { frames := 7, cells := 2, slots := 12, locals := 104 }
set_option maxHeartbeats 4000000 in
set_option maxRecDepth 100000 in
theorem c_CaseLayout_zone (l : Launch) (hlt : l.stackTraces = false) (a1 : Int32) (a2 : Int32) (a3 : Int32) (x : gx_S) (o : Nat × Int32 × gx_S) (hf : f_CaseLayout_zone a1 a2 a3 x = some o) : gx_MX true l y_CaseLayout_zone prog_1_method_3_code 6 (some .int) rm_CaseLayout_zone (fun E => [.ref (gx_ad E 28), .int a1, .int a2, .int a3]) x (some (.int o.2.1)) o.1 o.2.2 := by
  refine gx_metX (own := "CaseLayout") (by decide) rfl (fun E => Nat.le_of_ble_eq_true rfl) (fun K E hl0 hR hr hlk hnh hLT hk C => ?_)
  subst hl0
  unfold f_CaseLayout_zone at hf
  show gx_G K E (gx_AB false E K.s.heap.size) 0 0 x 0 [(0, .ref (gx_ad E 28)), (1, .int a1), (2, .int a2), (3, .int a3)] []
  refine gx_aload_n C 0 d_CaseLayout_zone_0 rfl rfl ?_
  refine gx_iload_n C 1 d_CaseLayout_zone_1 rfl rfl ?_
  refine gx_iload_n C 2 d_CaseLayout_zone_2 rfl rfl ?_
  obtain ⟨j1, r1, x1, hc1, ⟨hq1, hf⟩ | ⟨hq1, hf⟩⟩ := gx_bx_some hf
  rotate_left
  · subst hf
    refine gx_cVx (n2 := 1) (k2 := 6) C hq1 (As := [.int a1, .int a2]) (rest := []) 28 2 (c_CaseLayout_needCell K.l hlt a1 a2 x _ hc1) (Or.inr rfl) rfl (gx_goodV gw_284 gw_286 gs_0 gw_1 gw_287) (by decide +kernel) (gx_w28 E _) rfl (by rw [hR]; decide) rfl rfl (Nat.le_of_ble_eq_true rfl) d_CaseLayout_zone_3 (by rw [hR]; decide) rfl rfl ?_
    refine gx_H.widen (n' := 2) (k' := 12) (by decide) (by decide) ?_
    refine gx_H.toF ?_
    exact gx_outX hq1 hnh hlk hk
  subst hq1
  refine gx_cVv (n2 := 1) (k2 := 6) C (As := [.int a1, .int a2]) (rest := []) 28 2 (c_CaseLayout_needCell K.l hlt a1 a2 x _ hc1).toV (Or.inr rfl) rfl (gx_goodV gw_284 gw_286 gs_0 gw_1 gw_287) (by decide +kernel) (gx_w28 E _) rfl (by rw [hR]; decide) rfl rfl (Nat.le_of_ble_eq_true rfl) d_CaseLayout_zone_3 (by rw [hR]; decide) rfl rfl ?_
  refine gx_iload_n C 3 d_CaseLayout_zone_6 rfl rfl ?_
  refine gx_iconst C (v := 0) d_CaseLayout_zone_7 (by decide) ?_
  refine gx_iconst C (v := 3) d_CaseLayout_zone_8 (by decide) ?_
  obtain ⟨j2, r2, x2, hc2, ⟨hq2, hf⟩ | ⟨hq2, hf⟩⟩ := gx_bx_some hf
  rotate_left
  · subst hf
    refine gx_cSx (n2 := 2) (k2 := 12) C hq2 (As := [.int a3, .int 0, .int 3]) (rest := []) 3 (c_CaseLayout_needWithin K.l hlt a3 0 3 x1 _ hc2) (Or.inr rfl) rfl (gx_goodS gw_388 gw_389 gw_1 gw_390) (by decide +kernel) (by rw [hR]; decide) rfl rfl (Nat.le_of_ble_eq_true rfl) d_CaseLayout_zone_9 (by rw [hR]; decide) rfl rfl ?_
    refine gx_H.toF ?_
    exact gx_outX hq2 hnh hlk hk
  subst hq2
  refine gx_cSv (n2 := 2) (k2 := 12) C (As := [.int a3, .int 0, .int 3]) (rest := []) 3 (c_CaseLayout_needWithin K.l hlt a3 0 3 x1 _ hc2).toV (Or.inr rfl) rfl (gx_goodS gw_388 gw_389 gw_1 gw_390) (by decide +kernel) (by rw [hR]; decide) rfl rfl (Nat.le_of_ble_eq_true rfl) d_CaseLayout_zone_9 (by rw [hR]; decide) rfl rfl ?_
  refine gx_iload_n C 1 d_CaseLayout_zone_12 rfl rfl ?_
  refine gx_iload_n C 2 d_CaseLayout_zone_13 rfl rfl ?_
  obtain ⟨r3, x3, hc3, hf⟩ := gx_bd_some hf
  refine gx_cSi (n2 := 2) (k2 := 12) C (As := [.int a1, .int a2]) (rest := []) 2 (c_CaseLayout_cellOf K.l a1 a2 x2 _ hc3) (Or.inr rfl) rfl (gx_goodS gw_360 gw_361 gw_1 gw_362) (by decide +kernel) (by rw [hR]; decide) rfl rfl (Nat.le_of_ble_eq_true rfl) d_CaseLayout_zone_14 (by rw [hR]; decide) rfl rfl ?_
  refine gx_istore C (lv' := [(4, .int r3), (0, .ref (gx_ad E 28)), (1, .int a1), (2, .int a2), (3, .int a3)]) d_CaseLayout_zone_17 (by decide) rfl ?_
  refine gx_aload_n C 1 d_CaseLayout_zone_19 rfl rfl ?_
  refine gx_get C iw_CaseLayout 28 (gx_w28 E _) rfl 0 (by decide) gw_246 rfl rfl d_CaseLayout_zone_20 ?_
  refine gx_getN C iw_Grid 0 (gx_w0 E _) rfl 3 (by decide) gn_50 rfl rfl d_CaseLayout_zone_23 ?_
  refine gx_iload C 0 d_CaseLayout_zone_26 rfl ?_
  obtain ⟨hi4, hf⟩ := gx_ck_some hf
  refine gx_iald C 2 0 (gx_w2 E _) rfl hi4 d_CaseLayout_zone_28 ?_
  refine gx_istore C (lv' := [(5, .int (gx_gA x3 1 (r3 : Int32).toNatClampNeg)), (4, .int r3), (0, .ref (gx_ad E 28)), (1, .int a1), (2, .int a2), (3, .int a3)]) d_CaseLayout_zone_29 (by decide) rfl ?_
  refine gx_aload_n C 2 d_CaseLayout_zone_31 rfl rfl ?_
  refine gx_get C iw_CaseLayout 28 (gx_w28 E _) rfl 0 (by decide) gw_246 rfl rfl d_CaseLayout_zone_32 ?_
  refine gx_getN C iw_Grid 0 (gx_w0 E _) rfl 3 (by decide) gn_50 rfl rfl d_CaseLayout_zone_35 ?_
  refine gx_iload C 1 d_CaseLayout_zone_38 rfl ?_
  refine gx_iload_n C 5 d_CaseLayout_zone_40 rfl rfl ?_
  refine gx_toF ?_
  obtain ⟨hi5, hf⟩ := gx_ck_some hf
  refine gx_iast C (x' := gx_sA x3 1 (r3 : Int32).toNatClampNeg a3) 2 0 (gx_w2 E _) rfl hi5 (gx_q2 E _ _ _) d_CaseLayout_zone_41 ?_
  refine gx_aload_n C 2 d_CaseLayout_zone_42 rfl rfl ?_
  refine gx_get C iw_CaseLayout 28 (gx_w28 E _) rfl 5 (by decide) gw_251 rfl rfl d_CaseLayout_zone_43 ?_
  obtain ⟨r6, x6, hc6, hf⟩ := gx_bd_some hf
  refine gx_cVv (n2 := 2) (k2 := 12) C (As := []) (rest := []) 25 0 (c_Search_forget K.l  (gx_sA x3 1 (r3 : Int32).toNatClampNeg a3) _ hc6) (Or.inl rfl) rfl (gx_goodV gw_376 gw_377 gw_378 gw_8 gw_379) (by decide +kernel) (gx_w25 E _) rfl (by rw [hR]; decide) rfl rfl (Nat.le_of_ble_eq_true rfl) d_CaseLayout_zone_46 (by rw [hR]; decide) rfl rfl ?_
  refine gx_iload C 0 d_CaseLayout_zone_49 rfl ?_
  cases hf
  exact gx_iretX C hr hlk hk d_CaseLayout_zone_51

def f_Things_add (a1 : Int32) (a2 : Int32) (a3 : Int32) (x : gx_S) : Option (Int32 × gx_S) :=
  gx_ck (gx_gI x 3) 7 (gx_ck (gx_gI x 3) 7 (gx_ck (gx_gI x 3) 7 (some (gx_gI x 3, gx_sI (gx_sA (gx_sA (gx_sA x 2 (gx_gI x 3 : Int32).toNatClampNeg a1) 3 (gx_gI x 3 : Int32).toNatClampNeg a2) 4 (gx_gI x 3 : Int32).toNatClampNeg a3) 3 ((gx_gI (gx_sA (gx_sA (gx_sA x 2 (gx_gI x 3 : Int32).toNatClampNeg a1) 3 (gx_gI x 3 : Int32).toNatClampNeg a2) 4 (gx_gI x 3 : Int32).toNatClampNeg a3) 3) + 1)))))
abbrev rm_Things_add : Room := { frames := 0, cells := 0, slots := 0, locals := 0 }
set_option maxHeartbeats 4000000 in
set_option maxRecDepth 100000 in
theorem c_Things_add (l : Launch) (a1 : Int32) (a2 : Int32) (a3 : Int32) (x : gx_S) (o : Int32 × gx_S) (hf : f_Things_add a1 a2 a3 x = some o) : gx_Mi true l y_Things_add prog_8_method_2_code 5 (some .int) rm_Things_add (fun E => [.ref (gx_ad E 3), .int a1, .int a2, .int a3]) x o.1 o.2 := by
  refine gx_meti (own := "CaseLayout$Things") (by decide) rfl (fun E => Nat.le_of_ble_eq_true rfl) (fun K E hl0 hR hr hlk hk C => ?_)
  subst hl0
  unfold f_Things_add at hf
  show gx_G K E _ 0 0 x 0 [(0, .ref (gx_ad E 3)), (1, .int a1), (2, .int a2), (3, .int a3)] []
  refine gx_aload_n C 0 d_Things_add_0 rfl rfl ?_
  refine gx_get C iw_Things 3 (gx_w3 E _) rfl 5 (by decide) gw_88 rfl rfl d_Things_add_1 ?_
  refine gx_istore C (lv' := [(4, .int (gx_gI x 3)), (0, .ref (gx_ad E 3)), (1, .int a1), (2, .int a2), (3, .int a3)]) d_Things_add_4 (by decide) rfl ?_
  refine gx_aload_n C 1 d_Things_add_6 rfl rfl ?_
  refine gx_get C iw_Things 3 (gx_w3 E _) rfl 0 (by decide) gw_72 rfl rfl d_Things_add_7 ?_
  refine gx_iload C 0 d_Things_add_10 rfl ?_
  refine gx_iload_n C 2 d_Things_add_12 rfl rfl ?_
  obtain ⟨hi1, hf⟩ := gx_ck_some hf
  refine gx_iast C (x' := gx_sA x 2 (gx_gI x 3 : Int32).toNatClampNeg a1) 4 0 (gx_w4 E _) rfl hi1 (gx_q4 E _ _ _) d_Things_add_13 ?_
  refine gx_aload_n C 1 d_Things_add_14 rfl rfl ?_
  refine gx_get C iw_Things 3 (gx_w3 E _) rfl 1 (by decide) gw_76 rfl rfl d_Things_add_15 ?_
  refine gx_iload C 0 d_Things_add_18 rfl ?_
  refine gx_iload_n C 3 d_Things_add_20 rfl rfl ?_
  obtain ⟨hi2, hf⟩ := gx_ck_some hf
  refine gx_iast C (x' := gx_sA (gx_sA x 2 (gx_gI x 3 : Int32).toNatClampNeg a1) 3 (gx_gI x 3 : Int32).toNatClampNeg a2) 5 0 (gx_w5 E _) rfl hi2 (gx_q5 E _ _ _) d_Things_add_21 ?_
  refine gx_aload_n C 1 d_Things_add_22 rfl rfl ?_
  refine gx_get C iw_Things 3 (gx_w3 E _) rfl 2 (by decide) gw_80 rfl rfl d_Things_add_23 ?_
  refine gx_iload C 0 d_Things_add_26 rfl ?_
  refine gx_iload_n C 4 d_Things_add_28 rfl rfl ?_
  obtain ⟨hi3, hf⟩ := gx_ck_some hf
  refine gx_iast C (x' := gx_sA (gx_sA (gx_sA x 2 (gx_gI x 3 : Int32).toNatClampNeg a1) 3 (gx_gI x 3 : Int32).toNatClampNeg a2) 4 (gx_gI x 3 : Int32).toNatClampNeg a3) 6 0 (gx_w6 E _) rfl hi3 (gx_q6 E _ _ _) d_Things_add_29 ?_
  refine gx_aload_n C 1 d_Things_add_30 rfl rfl ?_
  refine gx_dup C d_Things_add_31 rfl ?_
  refine gx_get C iw_Things 3 (gx_w3 E _) rfl 5 (by decide) gw_88 rfl rfl d_Things_add_32 ?_
  refine gx_iconst C (v := 1) d_Things_add_35 (by decide) ?_
  refine gx_iadd C d_Things_add_36 ?_
  refine gx_put C (ty := .int) (x' := gx_sI (gx_sA (gx_sA (gx_sA x 2 (gx_gI x 3 : Int32).toNatClampNeg a1) 3 (gx_gI x 3 : Int32).toNatClampNeg a2) 4 (gx_gI x 3 : Int32).toNatClampNeg a3) 3 ((gx_gI (gx_sA (gx_sA (gx_sA x 2 (gx_gI x 3 : Int32).toNatClampNeg a1) 3 (gx_gI x 3 : Int32).toNatClampNeg a2) 4 (gx_gI x 3 : Int32).toNatClampNeg a3) 3) + 1)) iw_Things ty_Things tk_Things tn_Things 3 (gx_w3 E _) rfl 5 (by decide) gw_88 rfl rfl (by decide +kernel) rfl rfl (Nat.le_of_ble_eq_true rfl) (gx_p3_5 E _ _) d_Things_add_37 ?_
  refine gx_iload C 0 d_Things_add_40 rfl ?_
  cases hf
  exact gx_iret C hr hlk hk d_Things_add_42

def f_CaseLayout_thing (a1 : Int32) (a2 : Int32) (a3 : Int32) (x : gx_S) : Option (Nat × Int32 × gx_S) :=
  if (gx_gI x 3) < 7 then (gx_bx (f_CaseLayout_needWithin a1 1 4 x) (fun r2 x2 => gx_bx (f_CaseLayout_needWithin a2 1 4 x2) (fun r3 x3 => gx_bx (f_CaseLayout_needWithin a3 0 3 x3) (fun r4 x4 => gx_bd (f_Search_forget  x4) (fun r5 x5 => gx_bd (f_Things_add a1 a2 a3 x5) (fun r6 x6 => some (0, r6, x6))))))) else (some (2, 0, x))
abbrev rm_CaseLayout_thing : Room := { frames := 7, cells := 3, slots := 18, locals := 104 }
set_option maxHeartbeats 4000000 in
set_option maxRecDepth 100000 in
theorem c_CaseLayout_thing (l : Launch) (hlt : l.stackTraces = false) (a1 : Int32) (a2 : Int32) (a3 : Int32) (x : gx_S) (o : Nat × Int32 × gx_S) (hf : f_CaseLayout_thing a1 a2 a3 x = some o) : gx_MX true l y_CaseLayout_thing prog_1_method_4_code 4 (some .int) rm_CaseLayout_thing (fun E => [.ref (gx_ad E 28), .int a1, .int a2, .int a3]) x (some (.int o.2.1)) o.1 o.2.2 := by
  refine gx_metX (own := "CaseLayout") (by decide) rfl (fun E => Nat.le_of_ble_eq_true rfl) (fun K E hl0 hR hr hlk hnh hLT hk C => ?_)
  subst hl0
  unfold f_CaseLayout_thing at hf
  show gx_G K E (gx_AB false E K.s.heap.size) 0 0 x 0 [(0, .ref (gx_ad E 28)), (1, .int a1), (2, .int a2), (3, .int a3)] []
  refine gx_aload_n C 0 d_CaseLayout_thing_0 rfl rfl ?_
  refine gx_get C iw_CaseLayout 28 (gx_w28 E _) rfl 1 (by decide) gw_247 rfl rfl d_CaseLayout_thing_1 ?_
  refine gx_getN C iw_Things 3 (gx_w3 E _) rfl 5 (by decide) gn_90 rfl rfl d_CaseLayout_thing_4 ?_
  refine gx_bipush C (v := 7) d_CaseLayout_thing_7 (by decide) ?_
  refine gx_icmp_lt (tgt := 22) C d_CaseLayout_thing_9 (by decide) (fun h1 => ?_) (fun h1 => ?_)
  · have hf := (if_pos h1).symm.trans hf
    refine gx_iload_n C 1 d_CaseLayout_thing_22 rfl rfl ?_
    refine gx_iconst C (v := 1) d_CaseLayout_thing_23 (by decide) ?_
    refine gx_iconst C (v := 4) d_CaseLayout_thing_24 (by decide) ?_
    obtain ⟨j2, r2, x2, hc2, ⟨hq2, hf⟩ | ⟨hq2, hf⟩⟩ := gx_bx_some hf
    rotate_left
    · subst hf
      refine gx_cSx (n2 := 1) (k2 := 6) C hq2 (As := [.int a1, .int 1, .int 4]) (rest := []) 3 (c_CaseLayout_needWithin K.l hlt a1 1 4 x _ hc2) (Or.inr rfl) rfl (gx_goodS gw_388 gw_389 gw_1 gw_390) (by decide +kernel) (by rw [hR]; decide) rfl rfl (Nat.le_of_ble_eq_true rfl) d_CaseLayout_thing_25 (by rw [hR]; decide) rfl rfl ?_
      refine gx_H.widen (n' := 3) (k' := 18) (by decide) (by decide) ?_
      refine gx_H.toF ?_
      exact gx_outX hq2 hnh hlk hk
    subst hq2
    refine gx_cSv (n2 := 1) (k2 := 6) C (As := [.int a1, .int 1, .int 4]) (rest := []) 3 (c_CaseLayout_needWithin K.l hlt a1 1 4 x _ hc2).toV (Or.inr rfl) rfl (gx_goodS gw_388 gw_389 gw_1 gw_390) (by decide +kernel) (by rw [hR]; decide) rfl rfl (Nat.le_of_ble_eq_true rfl) d_CaseLayout_thing_25 (by rw [hR]; decide) rfl rfl ?_
    refine gx_iload_n C 2 d_CaseLayout_thing_28 rfl rfl ?_
    refine gx_iconst C (v := 1) d_CaseLayout_thing_29 (by decide) ?_
    refine gx_iconst C (v := 4) d_CaseLayout_thing_30 (by decide) ?_
    obtain ⟨j3, r3, x3, hc3, ⟨hq3, hf⟩ | ⟨hq3, hf⟩⟩ := gx_bx_some hf
    rotate_left
    · subst hf
      refine gx_cSx (n2 := 2) (k2 := 12) C hq3 (As := [.int a2, .int 1, .int 4]) (rest := []) 3 (c_CaseLayout_needWithin K.l hlt a2 1 4 x2 _ hc3) (Or.inr rfl) rfl (gx_goodS gw_388 gw_389 gw_1 gw_390) (by decide +kernel) (by rw [hR]; decide) rfl rfl (Nat.le_of_ble_eq_true rfl) d_CaseLayout_thing_31 (by rw [hR]; decide) rfl rfl ?_
      refine gx_H.widen (n' := 3) (k' := 18) (by decide) (by decide) ?_
      refine gx_H.toF ?_
      exact gx_outX hq3 hnh hlk hk
    subst hq3
    refine gx_cSv (n2 := 2) (k2 := 12) C (As := [.int a2, .int 1, .int 4]) (rest := []) 3 (c_CaseLayout_needWithin K.l hlt a2 1 4 x2 _ hc3).toV (Or.inr rfl) rfl (gx_goodS gw_388 gw_389 gw_1 gw_390) (by decide +kernel) (by rw [hR]; decide) rfl rfl (Nat.le_of_ble_eq_true rfl) d_CaseLayout_thing_31 (by rw [hR]; decide) rfl rfl ?_
    refine gx_iload_n C 3 d_CaseLayout_thing_34 rfl rfl ?_
    refine gx_iconst C (v := 0) d_CaseLayout_thing_35 (by decide) ?_
    refine gx_iconst C (v := 3) d_CaseLayout_thing_36 (by decide) ?_
    obtain ⟨j4, r4, x4, hc4, ⟨hq4, hf⟩ | ⟨hq4, hf⟩⟩ := gx_bx_some hf
    rotate_left
    · subst hf
      refine gx_cSx (n2 := 3) (k2 := 18) C hq4 (As := [.int a3, .int 0, .int 3]) (rest := []) 3 (c_CaseLayout_needWithin K.l hlt a3 0 3 x3 _ hc4) (Or.inr rfl) rfl (gx_goodS gw_388 gw_389 gw_1 gw_390) (by decide +kernel) (by rw [hR]; decide) rfl rfl (Nat.le_of_ble_eq_true rfl) d_CaseLayout_thing_37 (by rw [hR]; decide) rfl rfl ?_
      refine gx_H.toF ?_
      exact gx_outX hq4 hnh hlk hk
    subst hq4
    refine gx_cSv (n2 := 3) (k2 := 18) C (As := [.int a3, .int 0, .int 3]) (rest := []) 3 (c_CaseLayout_needWithin K.l hlt a3 0 3 x3 _ hc4).toV (Or.inr rfl) rfl (gx_goodS gw_388 gw_389 gw_1 gw_390) (by decide +kernel) (by rw [hR]; decide) rfl rfl (Nat.le_of_ble_eq_true rfl) d_CaseLayout_thing_37 (by rw [hR]; decide) rfl rfl ?_
    refine gx_aload_n C 0 d_CaseLayout_thing_40 rfl rfl ?_
    refine gx_get C iw_CaseLayout 28 (gx_w28 E _) rfl 5 (by decide) gw_251 rfl rfl d_CaseLayout_thing_41 ?_
    refine gx_toF ?_
    obtain ⟨r5, x5, hc5, hf⟩ := gx_bd_some hf
    refine gx_cVv (n2 := 3) (k2 := 18) C (As := []) (rest := []) 25 0 (c_Search_forget K.l  x4 _ hc5) (Or.inl rfl) rfl (gx_goodV gw_376 gw_377 gw_378 gw_8 gw_379) (by decide +kernel) (gx_w25 E _) rfl (by rw [hR]; decide) rfl rfl (Nat.le_of_ble_eq_true rfl) d_CaseLayout_thing_44 (by rw [hR]; decide) rfl rfl ?_
    refine gx_aload_n C 0 d_CaseLayout_thing_47 rfl rfl ?_
    refine gx_get C iw_CaseLayout 28 (gx_w28 E _) rfl 1 (by decide) gw_247 rfl rfl d_CaseLayout_thing_48 ?_
    refine gx_iload_n C 1 d_CaseLayout_thing_51 rfl rfl ?_
    refine gx_iload_n C 2 d_CaseLayout_thing_52 rfl rfl ?_
    refine gx_iload_n C 3 d_CaseLayout_thing_53 rfl rfl ?_
    obtain ⟨r6, x6, hc6, hf⟩ := gx_bd_some hf
    refine gx_cVi (n2 := 3) (k2 := 18) C (As := [.int a1, .int a2, .int a3]) (rest := []) 3 3 (c_Things_add K.l a1 a2 a3 x5 _ hc6) (Or.inl rfl) rfl (gx_goodV gw_431 gw_432 gw_433 gw_4 gw_434) (by decide +kernel) (gx_w3 E _) rfl (by rw [hR]; decide) rfl rfl (Nat.le_of_ble_eq_true rfl) d_CaseLayout_thing_54 (by rw [hR]; decide) rfl rfl ?_
    cases hf
    exact gx_iretX C hr hlk hk d_CaseLayout_thing_57
  · have hf := (if_neg h1).symm.trans hf
    cases hf
    refine gx_widen (n' := 2) (k' := 12) (by decide) (by decide) ?_
    exact gx_throw (w := true) (j := 2) (tx := "there are seven things") (names := ["java/lang/RuntimeException", "java/lang/Exception"]) C (by decide) hLT hlt hnh hlk gw_415 gw_416 gw_16 (by decide +kernel) (ga_CaseLayout_100 C) (by decide +kernel) (by decide +kernel) d_CaseLayout_thing_12 d_CaseLayout_thing_15 d_CaseLayout_thing_16 d_CaseLayout_thing_18 d_CaseLayout_thing_21 (by rw [hR]; decide) (by rw [hR]; exact Nat.le_of_ble_eq_true rfl) (by rw [hR]; decide) (by rw [hR]; decide) hk

def j_CaseLayout_needThing_15  (x : gx_S) : Option (Nat × Int32 × gx_S) :=
  some (1, 0, x)
def f_CaseLayout_needThing (a1 : Int32) (x : gx_S) : Option (Nat × Int32 × gx_S) :=
  if a1 < 0 then (j_CaseLayout_needThing_15   x) else (if a1 < (gx_gI x 3) then (some (0, 0, x)) else (j_CaseLayout_needThing_15   x))
abbrev rm_CaseLayout_needThing : Room := { frames := 6, cells := 1, slots := 6, locals := 82 }
set_option maxHeartbeats 4000000 in
set_option maxRecDepth 100000 in
theorem jc_CaseLayout_needThing_15 {K : gx_K} {E : gx_E} (C : gx_C K E "CaseLayout" prog_1_method_19_code 2) (hR : K.R = rm_CaseLayout_needThing) (hr : K.meth.sig.returnType = none) (hlk : K.meth.locks = false) (hlt : K.l.stackTraces = false) (hnh : K.c.exceptionTable.isEmpty = true) (hLT : gx_LT E K.s.heap.size)  (x : gx_S) (o : Nat × Int32 × gx_S) (hf : j_CaseLayout_needThing_15  x = some o) (hk : ∀ t, gx_MQX K.below (gx_QX E (gx_AB false E K.s.heap.size) none o.1 o.2.2) K.args K.s 1 6 (gx_AB false E K.s.heap.size) t → K.Q t) : gx_G K E (gx_AB false E K.s.heap.size) 0 0 x 15 [] [] := by
  unfold j_CaseLayout_needThing_15 at hf
  cases hf
  exact gx_throw (w := false) (j := 1) (tx := "no such thing") (names := ["java/lang/RuntimeException", "java/lang/Exception"]) C (by decide) hLT hlt hnh hlk gw_292 gw_293 gw_14 (by decide +kernel) (ga_CaseLayout_171 C) (by decide +kernel) (by decide +kernel) d_CaseLayout_needThing_15 d_CaseLayout_needThing_18 d_CaseLayout_needThing_19 d_CaseLayout_needThing_21 d_CaseLayout_needThing_24 (by rw [hR]; decide) (by rw [hR]; exact Nat.le_of_ble_eq_true rfl) (by rw [hR]; decide) (by rw [hR]; decide) hk
set_option maxHeartbeats 4000000 in
set_option maxRecDepth 100000 in
theorem c_CaseLayout_needThing (l : Launch) (hlt : l.stackTraces = false) (a1 : Int32) (x : gx_S) (o : Nat × Int32 × gx_S) (hf : f_CaseLayout_needThing a1 x = some o) : gx_MX false l y_CaseLayout_needThing prog_1_method_19_code 2 none rm_CaseLayout_needThing (fun E => [.ref (gx_ad E 28), .int a1]) x none o.1 o.2.2 := by
  refine gx_metX (own := "CaseLayout") (by decide) rfl (fun E => Nat.le_of_ble_eq_true rfl) (fun K E hl0 hR hr hlk hnh hLT hk C => ?_)
  subst hl0
  unfold f_CaseLayout_needThing at hf
  show gx_G K E (gx_AB false E K.s.heap.size) 0 0 x 0 [(0, .ref (gx_ad E 28)), (1, .int a1)] []
  refine gx_iload_n C 1 d_CaseLayout_needThing_0 rfl rfl ?_
  refine gx_if_lt (tgt := 15) C d_CaseLayout_needThing_1 (by decide) (fun h1 => ?_) (fun h1 => ?_)
  · have hf := (if_pos h1).symm.trans hf
    refine gx_lv (lv' := []) [] rfl ?_
    exact jc_CaseLayout_needThing_15 C hR hr hlk hlt hnh hLT   x _ hf hk
  · have hf := (if_neg h1).symm.trans hf
    refine gx_iload_n C 1 d_CaseLayout_needThing_4 rfl rfl ?_
    refine gx_aload_n C 0 d_CaseLayout_needThing_5 rfl rfl ?_
    refine gx_get C iw_CaseLayout 28 (gx_w28 E _) rfl 1 (by decide) gw_247 rfl rfl d_CaseLayout_needThing_6 ?_
    refine gx_getN C iw_Things 3 (gx_w3 E _) rfl 5 (by decide) gn_90 rfl rfl d_CaseLayout_needThing_9 ?_
    refine gx_icmp_lt (tgt := 25) C d_CaseLayout_needThing_12 (by decide) (fun h2 => ?_) (fun h2 => ?_)
    · have hf := (if_pos h2).symm.trans hf
      cases hf
      refine gx_widen (n' := 1) (k' := 6) (by decide) (by decide) ?_
      exact gx_vretX C hr hlk hk d_CaseLayout_needThing_25
    · have hf := (if_neg h2).symm.trans hf
      refine gx_lv (lv' := []) [] rfl ?_
      exact jc_CaseLayout_needThing_15 C hR hr hlk hlt hnh hLT   x _ hf hk

def f_CaseLayout_needPair (a1 : Int32) (a2 : Int32) (x : gx_S) : Option (Nat × Int32 × gx_S) :=
  gx_bx (f_CaseLayout_needThing a1 x) (fun r1 x1 => gx_bx (f_CaseLayout_needThing a2 x1) (fun r2 x2 => if a1 = a2 then (some (3, 0, x2)) else (some (0, 0, x2))))
abbrev rm_CaseLayout_needPair : Room := { frames := 7, cells := 3, slots := 18, locals := 103 }
set_option maxHeartbeats 4000000 in
set_option maxRecDepth 100000 in
theorem c_CaseLayout_needPair (l : Launch) (hlt : l.stackTraces = false) (a1 : Int32) (a2 : Int32) (x : gx_S) (o : Nat × Int32 × gx_S) (hf : f_CaseLayout_needPair a1 a2 x = some o) : gx_MX false l y_CaseLayout_needPair prog_1_method_21_code 3 none rm_CaseLayout_needPair (fun E => [.ref (gx_ad E 28), .int a1, .int a2]) x none o.1 o.2.2 := by
  refine gx_metX (own := "CaseLayout") (by decide) rfl (fun E => Nat.le_of_ble_eq_true rfl) (fun K E hl0 hR hr hlk hnh hLT hk C => ?_)
  subst hl0
  unfold f_CaseLayout_needPair at hf
  show gx_G K E (gx_AB false E K.s.heap.size) 0 0 x 0 [(0, .ref (gx_ad E 28)), (1, .int a1), (2, .int a2)] []
  refine gx_aload_n C 0 d_CaseLayout_needPair_0 rfl rfl ?_
  refine gx_iload_n C 1 d_CaseLayout_needPair_1 rfl rfl ?_
  obtain ⟨j1, r1, x1, hc1, ⟨hq1, hf⟩ | ⟨hq1, hf⟩⟩ := gx_bx_some hf
  rotate_left
  · subst hf
    refine gx_cVx (n2 := 1) (k2 := 6) C hq1 (As := [.int a1]) (rest := []) 28 1 (c_CaseLayout_needThing K.l hlt a1 x _ hc1) (Or.inr rfl) rfl (gx_goodV gw_446 gw_448 gs_3 gw_1 gw_449) (by decide +kernel) (gx_w28 E _) rfl (by rw [hR]; decide) rfl rfl (Nat.le_of_ble_eq_true rfl) d_CaseLayout_needPair_2 (by rw [hR]; decide) rfl rfl ?_
    refine gx_H.widen (n' := 3) (k' := 18) (by decide) (by decide) ?_
    exact gx_outX hq1 hnh hlk hk
  subst hq1
  refine gx_cVv (n2 := 1) (k2 := 6) C (As := [.int a1]) (rest := []) 28 1 (c_CaseLayout_needThing K.l hlt a1 x _ hc1).toV (Or.inr rfl) rfl (gx_goodV gw_446 gw_448 gs_3 gw_1 gw_449) (by decide +kernel) (gx_w28 E _) rfl (by rw [hR]; decide) rfl rfl (Nat.le_of_ble_eq_true rfl) d_CaseLayout_needPair_2 (by rw [hR]; decide) rfl rfl ?_
  refine gx_aload_n C 0 d_CaseLayout_needPair_5 rfl rfl ?_
  refine gx_iload_n C 2 d_CaseLayout_needPair_6 rfl rfl ?_
  obtain ⟨j2, r2, x2, hc2, ⟨hq2, hf⟩ | ⟨hq2, hf⟩⟩ := gx_bx_some hf
  rotate_left
  · subst hf
    refine gx_cVx (n2 := 2) (k2 := 12) C hq2 (As := [.int a2]) (rest := []) 28 1 (c_CaseLayout_needThing K.l hlt a2 x1 _ hc2) (Or.inr rfl) rfl (gx_goodV gw_446 gw_448 gs_3 gw_1 gw_449) (by decide +kernel) (gx_w28 E _) rfl (by rw [hR]; decide) rfl rfl (Nat.le_of_ble_eq_true rfl) d_CaseLayout_needPair_7 (by rw [hR]; decide) rfl rfl ?_
    refine gx_H.widen (n' := 3) (k' := 18) (by decide) (by decide) ?_
    exact gx_outX hq2 hnh hlk hk
  subst hq2
  refine gx_cVv (n2 := 2) (k2 := 12) C (As := [.int a2]) (rest := []) 28 1 (c_CaseLayout_needThing K.l hlt a2 x1 _ hc2).toV (Or.inr rfl) rfl (gx_goodV gw_446 gw_448 gs_3 gw_1 gw_449) (by decide +kernel) (gx_w28 E _) rfl (by rw [hR]; decide) rfl rfl (Nat.le_of_ble_eq_true rfl) d_CaseLayout_needPair_7 (by rw [hR]; decide) rfl rfl ?_
  refine gx_iload_n C 1 d_CaseLayout_needPair_10 rfl rfl ?_
  refine gx_iload_n C 2 d_CaseLayout_needPair_11 rfl rfl ?_
  refine gx_icmp_ne (tgt := 25) C d_CaseLayout_needPair_12 (by decide) (fun h3 => ?_) (fun h3 => ?_)
  · have hf := (if_neg h3).symm.trans hf
    cases hf
    refine gx_widen (n' := 3) (k' := 18) (by decide) (by decide) ?_
    exact gx_vretX C hr hlk hk d_CaseLayout_needPair_25
  · have hf := (if_pos h3).symm.trans hf
    cases hf
    exact gx_throw (w := false) (j := 3) (tx := "a thing and itself are no pair") (names := ["java/lang/RuntimeException", "java/lang/Exception"]) C (by decide) hLT hlt hnh hlk gw_391 gw_392 gw_15 (by decide +kernel) (ga_CaseLayout_126 C) (by decide +kernel) (by decide +kernel) d_CaseLayout_needPair_15 d_CaseLayout_needPair_18 d_CaseLayout_needPair_19 d_CaseLayout_needPair_21 d_CaseLayout_needPair_24 (by rw [hR]; decide) (by rw [hR]; exact Nat.le_of_ble_eq_true rfl) (by rw [hR]; decide) (by rw [hR]; decide) hk

def f_CaseLayout_pairOf (a0 : Int32) (a1 : Int32) (x : gx_S) : Option (Int32 × gx_S) :=
  some ((a0 * 7) + a1, x)
abbrev rm_CaseLayout_pairOf : Room := { frames := 0, cells := 0, slots := 0, locals := 0 }
set_option maxHeartbeats 4000000 in
set_option maxRecDepth 100000 in
theorem c_CaseLayout_pairOf (l : Launch) (a0 : Int32) (a1 : Int32) (x : gx_S) (o : Int32 × gx_S) (hf : f_CaseLayout_pairOf a0 a1 x = some o) : gx_Mi false l y_CaseLayout_pairOf prog_1_method_26_code 2 (some .int) rm_CaseLayout_pairOf (fun E => [.int a0, .int a1]) x o.1 o.2 := by
  refine gx_meti (own := "CaseLayout") (by decide) rfl (fun E => Nat.le_of_ble_eq_true rfl) (fun K E hl0 hR hr hlk hk C => ?_)
  subst hl0
  unfold f_CaseLayout_pairOf at hf
  show gx_G K E _ 0 0 x 0 [(0, .int a0), (1, .int a1)] []
  refine gx_iload_n C 0 d_CaseLayout_pairOf_0 rfl rfl ?_
  refine gx_bipush C (v := 7) d_CaseLayout_pairOf_1 (by decide) ?_
  refine gx_imul C d_CaseLayout_pairOf_3 ?_
  refine gx_iload_n C 1 d_CaseLayout_pairOf_4 rfl rfl ?_
  refine gx_iadd C d_CaseLayout_pairOf_5 ?_
  cases hf
  exact gx_iret C hr hlk hk d_CaseLayout_pairOf_6

def f_CaseLayout_setBoth (a1 : Int32) (a2 : Int32) (a3 : Int32) (x : gx_S) : Option (Int32 × gx_S) :=
  gx_bd (f_CaseLayout_pairOf a1 a2 x) (fun r1 x1 => gx_ck r1 49 (gx_bd (f_CaseLayout_pairOf a1 a2 x1) (fun r3 x3 => gx_ck r3 49 (gx_bd (f_CaseLayout_pairOf a2 a1 (gx_sA x3 5 (r3 : Int32).toNatClampNeg a3)) (fun r5 x5 => gx_ck r5 49 (some (gx_gA x1 5 (r1 : Int32).toNatClampNeg, gx_sA x5 5 (r5 : Int32).toNatClampNeg a3)))))))
abbrev rm_CaseLayout_setBoth : Room := { frames := 1, cells := 0, slots := 0, locals := 21 }
set_option maxHeartbeats 4000000 in
set_option maxRecDepth 100000 in
theorem c_CaseLayout_setBoth (l : Launch) (a1 : Int32) (a2 : Int32) (a3 : Int32) (x : gx_S) (o : Int32 × gx_S) (hf : f_CaseLayout_setBoth a1 a2 a3 x = some o) : gx_Mi true l y_CaseLayout_setBoth prog_1_method_28_code 5 (some .int) rm_CaseLayout_setBoth (fun E => [.ref (gx_ad E 7), .int a1, .int a2, .int a3]) x o.1 o.2 := by
  refine gx_meti (own := "CaseLayout") (by decide) rfl (fun E => Nat.le_of_ble_eq_true rfl) (fun K E hl0 hR hr hlk hk C => ?_)
  subst hl0
  unfold f_CaseLayout_setBoth at hf
  show gx_G K E _ 0 0 x 0 [(0, .ref (gx_ad E 7)), (1, .int a1), (2, .int a2), (3, .int a3)] []
  refine gx_aload_n C 0 d_CaseLayout_setBoth_0 rfl rfl ?_
  refine gx_iload_n C 1 d_CaseLayout_setBoth_1 rfl rfl ?_
  refine gx_iload_n C 2 d_CaseLayout_setBoth_2 rfl rfl ?_
  obtain ⟨r1, x1, hc1, hf⟩ := gx_bd_some hf
  refine gx_cSi (n2 := 0) (k2 := 0) C (As := [.int a1, .int a2]) (rest := [.ref (gx_ad E 7)]) 2 (c_CaseLayout_pairOf K.l a1 a2 x _ hc1) (Or.inl rfl) rfl (gx_goodS gw_455 gw_456 gw_1 gw_457) (by decide +kernel) (by rw [hR]; decide) rfl rfl (Nat.le_of_ble_eq_true rfl) d_CaseLayout_setBoth_3 (by rw [hR]; decide) rfl rfl ?_
  obtain ⟨hi2, hf⟩ := gx_ck_some hf
  refine gx_iald C 7 0 (gx_w7 E _) rfl hi2 d_CaseLayout_setBoth_6 ?_
  refine gx_istore C (lv' := [(4, .int (gx_gA x1 5 (r1 : Int32).toNatClampNeg)), (0, .ref (gx_ad E 7)), (1, .int a1), (2, .int a2), (3, .int a3)]) d_CaseLayout_setBoth_7 (by decide) rfl ?_
  refine gx_aload_n C 1 d_CaseLayout_setBoth_9 rfl rfl ?_
  refine gx_iload_n C 2 d_CaseLayout_setBoth_10 rfl rfl ?_
  refine gx_iload_n C 3 d_CaseLayout_setBoth_11 rfl rfl ?_
  obtain ⟨r3, x3, hc3, hf⟩ := gx_bd_some hf
  refine gx_cSi (n2 := 0) (k2 := 0) C (As := [.int a1, .int a2]) (rest := [.ref (gx_ad E 7)]) 2 (c_CaseLayout_pairOf K.l a1 a2 x1 _ hc3) (Or.inl rfl) rfl (gx_goodS gw_455 gw_456 gw_1 gw_457) (by decide +kernel) (by rw [hR]; decide) rfl rfl (Nat.le_of_ble_eq_true rfl) d_CaseLayout_setBoth_12 (by rw [hR]; decide) rfl rfl ?_
  refine gx_iload_n C 4 d_CaseLayout_setBoth_15 rfl rfl ?_
  obtain ⟨hi4, hf⟩ := gx_ck_some hf
  refine gx_iast C (x' := gx_sA x3 5 (r3 : Int32).toNatClampNeg a3) 7 0 (gx_w7 E _) rfl hi4 (gx_q7 E _ _ _) d_CaseLayout_setBoth_16 ?_
  refine gx_aload_n C 1 d_CaseLayout_setBoth_17 rfl rfl ?_
  refine gx_iload_n C 3 d_CaseLayout_setBoth_18 rfl rfl ?_
  refine gx_iload_n C 2 d_CaseLayout_setBoth_19 rfl rfl ?_
  obtain ⟨r5, x5, hc5, hf⟩ := gx_bd_some hf
  refine gx_cSi (n2 := 0) (k2 := 0) C (As := [.int a2, .int a1]) (rest := [.ref (gx_ad E 7)]) 2 (c_CaseLayout_pairOf K.l a2 a1 (gx_sA x3 5 (r3 : Int32).toNatClampNeg a3) _ hc5) (Or.inl rfl) rfl (gx_goodS gw_455 gw_456 gw_1 gw_457) (by decide +kernel) (by rw [hR]; decide) rfl rfl (Nat.le_of_ble_eq_true rfl) d_CaseLayout_setBoth_20 (by rw [hR]; decide) rfl rfl ?_
  refine gx_iload_n C 4 d_CaseLayout_setBoth_23 rfl rfl ?_
  obtain ⟨hi6, hf⟩ := gx_ck_some hf
  refine gx_iast C (x' := gx_sA x5 5 (r5 : Int32).toNatClampNeg a3) 7 0 (gx_w7 E _) rfl hi6 (gx_q7 E _ _ _) d_CaseLayout_setBoth_24 ?_
  refine gx_iload C 0 d_CaseLayout_setBoth_25 rfl ?_
  cases hf
  exact gx_iret C hr hlk hk d_CaseLayout_setBoth_27
