def f_CaseLayout_sightOf (a0 : Int32) (a1 : Int32) (x : gx_S) : Option (Int32 × gx_S) :=
  some ((a0 * 7) + a1, x)
abbrev rm_CaseLayout_sightOf : Room := { frames := 0, cells := 0, slots := 0, locals := 0 }
set_option maxHeartbeats 4000000 in
set_option maxRecDepth 100000 in
theorem c_CaseLayout_sightOf (l : Launch) (a0 : Int32) (a1 : Int32) (x : gx_S) (o : Int32 × gx_S) (hf : f_CaseLayout_sightOf a0 a1 x = some o) : gx_Mi false l y_CaseLayout_sightOf prog_1_method_27_code 2 (some .int) rm_CaseLayout_sightOf (fun E => [.int a0, .int a1]) x o.1 o.2 := by
  refine gx_meti (own := "CaseLayout") (by decide) rfl (fun E => Nat.le_of_ble_eq_true rfl) (fun K E hl0 hR hr hlk hk C => ?_)
  subst hl0
  unfold f_CaseLayout_sightOf at hf
  show gx_G K E _ 0 0 x 0 [(0, .int a0), (1, .int a1)] []
  refine gx_iload_n C 0 d_CaseLayout_sightOf_0 rfl rfl ?_
  refine gx_bipush C (v := 7) d_CaseLayout_sightOf_1 (by decide) ?_
  refine gx_imul C d_CaseLayout_sightOf_3 ?_
  refine gx_iload_n C 1 d_CaseLayout_sightOf_4 rfl rfl ?_
  refine gx_iadd C d_CaseLayout_sightOf_5 ?_
  cases hf
  exact gx_iret C hr hlk hk d_CaseLayout_sightOf_6

def s_Search_allSeen_15 (v1 : Int32) (a : Int32 × gx_S) : Option ((Int32 × gx_S) ⊕ (Nat × Int32 × gx_S)) :=
  if (gx_gI a.2 3) ≤ a.1 then (some (.inr (1, a.1, a.2))) else (gx_bd (f_CaseLayout_sightOf v1 a.1 a.2) (fun r3 x3 => gx_ck r3 56 (if (gx_gA x3 9 (r3 : Int32).toNatClampNeg) = 0 then (some (.inl (a.1 + 1, x3))) else (gx_ck v1 8 (gx_ck v1 8 (gx_bd (f_Floor_isSeen a.1 (gx_gA x3 7 (v1 : Int32).toNatClampNeg) (gx_gA x3 8 (v1 : Int32).toNatClampNeg) x3) (fun r8 x8 => if r8 = 0 then (some (.inr (0, a.1, x8))) else (some (.inl (a.1 + 1, x8))))))))))
def s_Search_allSeen_2  (a : Int32 × gx_S) : Option ((Int32 × gx_S) ⊕ (Nat × Int32 × gx_S)) :=
  if (gx_gI a.2 4) ≤ a.1 then (some (.inr (1, a.1, a.2))) else (gx_bl (gx_it (s_Search_allSeen_15 a.1) gx_fuel (0, a.2)) (fun e10 => if e10.1 = 0 then (some (.inr (0, a.1, e10.2.2))) else (some (.inl (a.1 + 1, e10.2.2)))))
def f_Search_allSeen  (x : gx_S) : Option (Int32 × gx_S) :=
  gx_bl (gx_it (s_Search_allSeen_2 ) gx_fuel (0, x)) (fun e12 => if e12.1 = 0 then (some (0, e12.2.2)) else (some (1, e12.2.2)))
abbrev rm_Search_allSeen : Room := { frames := 3, cells := 0, slots := 0, locals := 74 }
def pp_Search_allSeen_15 (K : gx_K) (E : gx_E) (v1 : Int32) (a : Int32 × gx_S) : Prop := gx_G K E (gx_AB false E K.s.heap.size) 0 0 (a.2) 15 [(0, .ref (gx_ad E 25)), (1, .int v1), (2, .int a.1)] []
def pq_Search_allSeen_15 (K : gx_K) (E : gx_E) (v1 : Int32) (b : Nat × Int32 × gx_S) : Prop := if b.1 = 0 then gx_G K E (gx_AB false E K.s.heap.size) 0 0 (b.2.2) 75 [(1, .int v1)] [] else (gx_G K E (gx_AB false E K.s.heap.size) 0 0 (b.2.2) 83 [(0, .ref (gx_ad E 25)), (1, .int v1)] [])
def pp_Search_allSeen_2 (K : gx_K) (E : gx_E)  (a : Int32 × gx_S) : Prop := gx_G K E (gx_AB false E K.s.heap.size) 0 0 (a.2) 2 [(0, .ref (gx_ad E 25)), (1, .int a.1)] []
def pq_Search_allSeen_2 (K : gx_K) (E : gx_E)  (b : Nat × Int32 × gx_S) : Prop := if b.1 = 0 then gx_G K E (gx_AB false E K.s.heap.size) 0 0 (b.2.2) 75 [] [] else (gx_G K E (gx_AB false E K.s.heap.size) 0 0 (b.2.2) 89 [] [])
set_option maxHeartbeats 4000000 in
set_option maxRecDepth 100000 in
theorem sc_Search_allSeen_15 {K : gx_K} {E : gx_E} (C : gx_C K E "CaseLayout$Search" prog_7_method_10_code 3) (hR : K.R = rm_Search_allSeen) (hr : K.meth.sig.returnType = (some .boolean)) (hlk : K.meth.locks = false) (v1 : Int32) (a : Int32 × gx_S) (o : (Int32 × gx_S) ⊕ (Nat × Int32 × gx_S)) (hf : s_Search_allSeen_15 v1 a = some o) (hk : gx_or (pp_Search_allSeen_15 K E v1) (pq_Search_allSeen_15 K E v1) o) : pp_Search_allSeen_15 K E v1 a := by
  unfold s_Search_allSeen_15 at hf
  unfold pp_Search_allSeen_15
  refine gx_iload_n C 2 d_Search_allSeen_15 rfl rfl ?_
  refine gx_aload_n C 0 d_Search_allSeen_16 rfl rfl ?_
  refine gx_get C iw_Search 25 (gx_w25 E _) rfl 1 (by decide) gw_207 rfl rfl d_Search_allSeen_17 ?_
  refine gx_getN C iw_Things 3 (gx_w3 E _) rfl 5 (by decide) gn_91 rfl rfl d_Search_allSeen_20 ?_
  refine gx_icmp_ge (tgt := 83) C d_Search_allSeen_23 (by decide) (fun h2 => ?_) (fun h2 => ?_)
  · have hf := (if_pos h2).symm.trans hf
    cases hf
    have hk : pq_Search_allSeen_15 K E v1 _ := hk
    unfold pq_Search_allSeen_15 at hk
    have hk := gx_ifn (by decide : ¬ ((1 : Nat) = 0)) hk
    refine gx_lv (lv' := [(0, .ref (gx_ad E 25)), (1, .int v1)]) [0, 1] rfl ?_
    exact hk
  · have hf := (if_neg h2).symm.trans hf
    refine gx_aload_n C 0 d_Search_allSeen_26 rfl rfl ?_
    refine gx_get C iw_Search 25 (gx_w25 E _) rfl 2 (by decide) gw_208 rfl rfl d_Search_allSeen_27 ?_
    refine gx_getN C iw_Places 9 (gx_w9 E _) rfl 2 (by decide) gn_119 rfl rfl d_Search_allSeen_30 ?_
    refine gx_iload_n C 1 d_Search_allSeen_33 rfl rfl ?_
    refine gx_iload_n C 2 d_Search_allSeen_34 rfl rfl ?_
    obtain ⟨r3, x3, hc3, hf⟩ := gx_bd_some hf
    refine gx_cSNi (n2 := 0) (k2 := 0) C (As := [.int v1, .int a.1]) (rest := [.ref (gx_ad E 12)]) 2 (c_CaseLayout_sightOf K.l v1 a.1 a.2 _ hc3) (Or.inr rfl) rfl gw_492 gn_558 gw_1 gw_491 (by decide +kernel) (by rw [hR]; decide) rfl rfl (Nat.le_of_ble_eq_true rfl) d_Search_allSeen_35 (by rw [hR]; decide) rfl rfl ?_
    obtain ⟨hi4, hf⟩ := gx_ck_some hf
    refine gx_zald C 12 1 (gx_w12 E _) rfl hi4 d_Search_allSeen_38 ?_
    refine gx_if_eq (tgt := 77) C d_Search_allSeen_39 (by decide) (fun h5 => ?_) (fun h5 => ?_)
    · have hf := (if_pos h5).symm.trans hf
      refine gx_iinc C (v := a.1 + 1) (lv' := [(2, .int (a.1 + 1)), (0, .ref (gx_ad E 25)), (1, .int v1)]) 2 d_Search_allSeen_77 rfl rfl (by decide) rfl ?_
      refine gx_goto (tgt := 15) C d_Search_allSeen_80 (by decide) ?_
      cases hf
      refine gx_lv (lv' := [(0, .ref (gx_ad E 25)), (1, .int v1), (2, .int (a.1 + 1))]) [1, 2, 0] rfl ?_
      exact hk
    · have hf := (if_neg h5).symm.trans hf
      refine gx_aload_n C 0 d_Search_allSeen_42 rfl rfl ?_
      refine gx_get C iw_Search 25 (gx_w25 E _) rfl 4 (by decide) gw_210 rfl rfl d_Search_allSeen_43 ?_
      refine gx_aload_n C 0 d_Search_allSeen_46 rfl rfl ?_
      refine gx_get C iw_Search 25 (gx_w25 E _) rfl 5 (by decide) gw_211 rfl rfl d_Search_allSeen_47 ?_
      refine gx_iload_n C 2 d_Search_allSeen_50 rfl rfl ?_
      refine gx_aload_n C 0 d_Search_allSeen_51 rfl rfl ?_
      refine gx_get C iw_Search 25 (gx_w25 E _) rfl 2 (by decide) gw_208 rfl rfl d_Search_allSeen_52 ?_
      refine gx_getN C iw_Places 9 (gx_w9 E _) rfl 0 (by decide) gn_112 rfl rfl d_Search_allSeen_55 ?_
      refine gx_iload_n C 1 d_Search_allSeen_58 rfl rfl ?_
      obtain ⟨hi6, hf⟩ := gx_ck_some hf
      refine gx_iald C 10 0 (gx_w10 E _) rfl hi6 d_Search_allSeen_59 ?_
      refine gx_aload_n C 0 d_Search_allSeen_60 rfl rfl ?_
      refine gx_get C iw_Search 25 (gx_w25 E _) rfl 2 (by decide) gw_208 rfl rfl d_Search_allSeen_61 ?_
      refine gx_getN C iw_Places 9 (gx_w9 E _) rfl 1 (by decide) gn_115 rfl rfl d_Search_allSeen_64 ?_
      refine gx_iload_n C 1 d_Search_allSeen_67 rfl rfl ?_
      obtain ⟨hi7, hf⟩ := gx_ck_some hf
      refine gx_iald C 11 0 (gx_w11 E _) rfl hi7 d_Search_allSeen_68 ?_
      obtain ⟨r8, x8, hc8, hf⟩ := gx_bd_some hf
      refine gx_cVi (n2 := 0) (k2 := 0) C (As := [.ref (gx_ad E 19), .int a.1, .int (gx_gA x3 7 (v1 : Int32).toNatClampNeg), .int (gx_gA x3 8 (v1 : Int32).toNatClampNeg)]) (rest := []) 15 4 (c_Floor_isSeen K.l a.1 (gx_gA x3 7 (v1 : Int32).toNatClampNeg) (gx_gA x3 8 (v1 : Int32).toNatClampNeg) x3 _ hc8) (Or.inr rfl) rfl (gx_goodV gw_559 gw_560 gw_561 gw_7 gw_562) (by decide +kernel) (gx_w15 E _) rfl (by rw [hR]; decide) rfl rfl (Nat.le_of_ble_eq_true rfl) d_Search_allSeen_69 (by rw [hR]; decide) rfl rfl ?_
      refine gx_if_ne (tgt := 77) C d_Search_allSeen_72 (by decide) (fun h9 => ?_) (fun h9 => ?_)
      · have hf := (if_neg h9).symm.trans hf
        refine gx_iinc C (v := a.1 + 1) (lv' := [(2, .int (a.1 + 1)), (0, .ref (gx_ad E 25)), (1, .int v1)]) 2 d_Search_allSeen_77 rfl rfl (by decide) rfl ?_
        refine gx_goto (tgt := 15) C d_Search_allSeen_80 (by decide) ?_
        cases hf
        refine gx_lv (lv' := [(0, .ref (gx_ad E 25)), (1, .int v1), (2, .int (a.1 + 1))]) [1, 2, 0] rfl ?_
        exact hk
      · have hf := (if_pos h9).symm.trans hf
        cases hf
        have hk : pq_Search_allSeen_15 K E v1 _ := hk
        unfold pq_Search_allSeen_15 at hk
        have hk := gx_ifp (rfl : (0 : Nat) = 0) hk
        refine gx_lv (lv' := [(1, .int v1)]) [1] rfl ?_
        exact hk
set_option maxHeartbeats 4000000 in
set_option maxRecDepth 100000 in
theorem sc_Search_allSeen_2 {K : gx_K} {E : gx_E} (C : gx_C K E "CaseLayout$Search" prog_7_method_10_code 3) (hR : K.R = rm_Search_allSeen) (hr : K.meth.sig.returnType = (some .boolean)) (hlk : K.meth.locks = false)  (a : Int32 × gx_S) (o : (Int32 × gx_S) ⊕ (Nat × Int32 × gx_S)) (hf : s_Search_allSeen_2  a = some o) (hk : gx_or (pp_Search_allSeen_2 K E ) (pq_Search_allSeen_2 K E ) o) : pp_Search_allSeen_2 K E  a := by
  unfold s_Search_allSeen_2 at hf
  unfold pp_Search_allSeen_2
  refine gx_iload_n C 1 d_Search_allSeen_2 rfl rfl ?_
  refine gx_aload_n C 0 d_Search_allSeen_3 rfl rfl ?_
  refine gx_get C iw_Search 25 (gx_w25 E _) rfl 2 (by decide) gw_208 rfl rfl d_Search_allSeen_4 ?_
  refine gx_getN C iw_Places 9 (gx_w9 E _) rfl 3 (by decide) gn_122 rfl rfl d_Search_allSeen_7 ?_
  refine gx_icmp_ge (tgt := 89) C d_Search_allSeen_10 (by decide) (fun h1 => ?_) (fun h1 => ?_)
  · have hf := (if_pos h1).symm.trans hf
    cases hf
    have hk : pq_Search_allSeen_2 K E  _ := hk
    unfold pq_Search_allSeen_2 at hk
    have hk := gx_ifn (by decide : ¬ ((1 : Nat) = 0)) hk
    refine gx_lv (lv' := []) [] rfl ?_
    exact hk
  · have hf := (if_neg h1).symm.trans hf
    refine gx_iconst C (v := 0) d_Search_allSeen_13 (by decide) ?_
    refine gx_istore_n C (lv' := [(2, .int 0), (0, .ref (gx_ad E 25)), (1, .int a.1)]) d_Search_allSeen_14 rfl (by decide) rfl ?_
    refine gx_lv (lv' := [(0, .ref (gx_ad E 25)), (1, .int a.1), (2, .int 0)]) [1, 2, 0] rfl ?_
    obtain ⟨e10, he10, hf⟩ := gx_bl_some hf
    refine (gx_loop (P := pp_Search_allSeen_15 K E a.1) (Q := pq_Search_allSeen_15 K E a.1) (fun a9 o9 h1 h2 => sc_Search_allSeen_15 C hR hr hlk a.1 a9 o9 h1 h2) gx_fuel (0, a.2) e10 he10 ?_ : pp_Search_allSeen_15 K E a.1 (0, a.2))
    unfold pq_Search_allSeen_15
    by_cases ht11 : e10.1 = 0
    · rw [if_pos ht11]
      have hf := (if_pos ht11).symm.trans hf
      cases hf
      have hk : pq_Search_allSeen_2 K E  _ := hk
      unfold pq_Search_allSeen_2 at hk
      have hk := gx_ifp (rfl : (0 : Nat) = 0) hk
      refine gx_lv (lv' := []) [] rfl ?_
      exact hk
    · rw [if_neg ht11]
      have hf := (if_neg ht11).symm.trans hf
      refine gx_iinc C (v := a.1 + 1) (lv' := [(1, .int (a.1 + 1)), (0, .ref (gx_ad E 25))]) 1 d_Search_allSeen_83 rfl rfl (by decide) rfl ?_
      refine gx_goto (tgt := 2) C d_Search_allSeen_86 (by decide) ?_
      cases hf
      refine gx_lv (lv' := [(0, .ref (gx_ad E 25)), (1, .int (a.1 + 1))]) [1, 0] rfl ?_
      exact hk
set_option maxHeartbeats 4000000 in
set_option maxRecDepth 100000 in
theorem c_Search_allSeen (l : Launch)  (x : gx_S) (o : Int32 × gx_S) (hf : f_Search_allSeen  x = some o) : gx_Mi false l y_Search_allSeen prog_7_method_10_code 3 (some .boolean) rm_Search_allSeen (fun E => [.ref (gx_ad E 25)]) x o.1 o.2 := by
  refine gx_meti (own := "CaseLayout$Search") (by decide) rfl (fun E => Nat.le_of_ble_eq_true rfl) (fun K E hl0 hR hr hlk hk C => ?_)
  subst hl0
  unfold f_Search_allSeen at hf
  show gx_G K E _ 0 0 x 0 [(0, .ref (gx_ad E 25))] []
  refine gx_iconst C (v := 0) d_Search_allSeen_0 (by decide) ?_
  refine gx_istore_n C (lv' := [(1, .int 0), (0, .ref (gx_ad E 25))]) d_Search_allSeen_1 rfl (by decide) rfl ?_
  refine gx_lv (lv' := [(0, .ref (gx_ad E 25)), (1, .int 0)]) [1, 0] rfl ?_
  obtain ⟨e12, he12, hf⟩ := gx_bl_some hf
  refine (gx_loop (P := pp_Search_allSeen_2 K E ) (Q := pq_Search_allSeen_2 K E ) (fun a9 o9 h1 h2 => sc_Search_allSeen_2 C hR hr hlk  a9 o9 h1 h2) gx_fuel (0, x) e12 he12 ?_ : pp_Search_allSeen_2 K E  (0, x))
  unfold pq_Search_allSeen_2
  by_cases ht13 : e12.1 = 0
  · rw [if_pos ht13]
    have hf := (if_pos ht13).symm.trans hf
    refine gx_iconst C (v := 0) d_Search_allSeen_75 (by decide) ?_
    cases hf
    exact gx_zret C hr hlk hk (by decide) d_Search_allSeen_76
  · rw [if_neg ht13]
    have hf := (if_neg ht13).symm.trans hf
    refine gx_iconst C (v := 1) d_Search_allSeen_89 (by decide) ?_
    cases hf
    exact gx_zret C hr hlk hk (by decide) d_Search_allSeen_90

def f_Floor_isNear (a1 : Int32) (a2 : Int32) (a3 : Int32) (x : gx_S) : Option (Int32 × gx_S) :=
  gx_bd (f_Grid_holds a1 a2 x) (fun r1 x1 => if r1 = 0 then (some (0, x1)) else (gx_bd (f_CaseLayout_cellOf a1 a2 x1) (fun r3 x3 => gx_ck r3 81 (if (gx_gA x3 12 (r3 : Int32).toNatClampNeg) = (-1) then (some (0, x3)) else (if a3 < (gx_gA x3 12 (r3 : Int32).toNatClampNeg) then (some (0, x3)) else (some (1, x3)))))))
abbrev rm_Floor_isNear : Room := { frames := 1, cells := 0, slots := 0, locals := 22 }
set_option maxHeartbeats 4000000 in
set_option maxRecDepth 100000 in
theorem c_Floor_isNear (l : Launch) (a1 : Int32) (a2 : Int32) (a3 : Int32) (x : gx_S) (o : Int32 × gx_S) (hf : f_Floor_isNear a1 a2 a3 x = some o) : gx_Mi false l y_Floor_isNear prog_3_method_10_code 5 (some .boolean) rm_Floor_isNear (fun E => [.ref (gx_ad E 15), .int a1, .int a2, .int a3]) x o.1 o.2 := by
  refine gx_meti (own := "CaseLayout$Floor") (by decide) rfl (fun E => Nat.le_of_ble_eq_true rfl) (fun K E hl0 hR hr hlk hk C => ?_)
  subst hl0
  unfold f_Floor_isNear at hf
  show gx_G K E _ 0 0 x 0 [(0, .ref (gx_ad E 15)), (1, .int a1), (2, .int a2), (3, .int a3)] []
  refine gx_aload_n C 0 d_Floor_isNear_0 rfl rfl ?_
  refine gx_get C iw_Floor 15 (gx_w15 E _) rfl 0 (by decide) gw_160 rfl rfl d_Floor_isNear_1 ?_
  refine gx_iload_n C 1 d_Floor_isNear_4 rfl rfl ?_
  refine gx_iload_n C 2 d_Floor_isNear_5 rfl rfl ?_
  obtain ⟨r1, x1, hc1, hf⟩ := gx_bd_some hf
  refine gx_cVi (n2 := 0) (k2 := 0) C (As := [.int a1, .int a2]) (rest := []) 0 2 (c_Grid_holds K.l a1 a2 x _ hc1) (Or.inr rfl) rfl (gx_goodV gw_552 gw_289 gw_290 gw_2 gw_291) (by decide +kernel) (gx_w0 E _) rfl (by rw [hR]; decide) rfl rfl (Nat.le_of_ble_eq_true rfl) d_Floor_isNear_6 (by rw [hR]; decide) rfl rfl ?_
  refine gx_if_ne (tgt := 14) C d_Floor_isNear_9 (by decide) (fun h2 => ?_) (fun h2 => ?_)
  · have hf := (if_neg h2).symm.trans hf
    refine gx_aload_n C 0 d_Floor_isNear_14 rfl rfl ?_
    refine gx_get C iw_Floor 15 (gx_w15 E _) rfl 2 (by decide) gw_162 rfl rfl d_Floor_isNear_15 ?_
    refine gx_iload_n C 1 d_Floor_isNear_18 rfl rfl ?_
    refine gx_iload_n C 2 d_Floor_isNear_19 rfl rfl ?_
    obtain ⟨r3, x3, hc3, hf⟩ := gx_bd_some hf
    refine gx_cSNi (n2 := 0) (k2 := 0) C (As := [.int a1, .int a2]) (rest := [.ref (gx_ad E 17)]) 2 (c_CaseLayout_cellOf K.l a1 a2 x1 _ hc3) (Or.inr rfl) rfl gw_362 gn_553 gw_1 gw_361 (by decide +kernel) (by rw [hR]; decide) rfl rfl (Nat.le_of_ble_eq_true rfl) d_Floor_isNear_20 (by rw [hR]; decide) rfl rfl ?_
    obtain ⟨hi4, hf⟩ := gx_ck_some hf
    refine gx_iald C 17 0 (gx_w17 E _) rfl hi4 d_Floor_isNear_23 ?_
    refine gx_istore C (lv' := [(4, .int (gx_gA x3 12 (r3 : Int32).toNatClampNeg)), (0, .ref (gx_ad E 15)), (1, .int a1), (2, .int a2), (3, .int a3)]) d_Floor_isNear_24 (by decide) rfl ?_
    refine gx_iload C 0 d_Floor_isNear_26 rfl ?_
    refine gx_iconst C (v := (-1)) d_Floor_isNear_28 (by decide) ?_
    refine gx_icmp_eq (tgt := 42) C d_Floor_isNear_29 (by decide) (fun h5 => ?_) (fun h5 => ?_)
    · have hf := (if_pos h5).symm.trans hf
      refine gx_iconst C (v := 0) d_Floor_isNear_42 (by decide) ?_
      cases hf
      exact gx_zret C hr hlk hk (by decide) d_Floor_isNear_43
    · have hf := (if_neg h5).symm.trans hf
      refine gx_iload C 0 d_Floor_isNear_32 rfl ?_
      refine gx_iload_n C 4 d_Floor_isNear_34 rfl rfl ?_
      refine gx_icmp_gt (tgt := 42) C d_Floor_isNear_35 (by decide) (fun h6 => ?_) (fun h6 => ?_)
      · have hf := (if_pos h6).symm.trans hf
        refine gx_iconst C (v := 0) d_Floor_isNear_42 (by decide) ?_
        cases hf
        exact gx_zret C hr hlk hk (by decide) d_Floor_isNear_43
      · have hf := (if_neg h6).symm.trans hf
        refine gx_iconst C (v := 1) d_Floor_isNear_38 (by decide) ?_
        refine gx_goto (tgt := 43) C d_Floor_isNear_39 (by decide) ?_
        cases hf
        exact gx_zret C hr hlk hk (by decide) d_Floor_isNear_43
  · have hf := (if_pos h2).symm.trans hf
    refine gx_iconst C (v := 0) d_Floor_isNear_12 (by decide) ?_
    cases hf
    exact gx_zret C hr hlk hk (by decide) d_Floor_isNear_13

def s_Floor_hasEscape_42 (v3 : Int32) (v4 : Int32) (v5 : Int32) (v6 : Int32) (v7 : Int32) (a : Int32 × gx_S) : Option ((Int32 × gx_S) ⊕ (Nat × Int32 × gx_S)) :=
  if (v5 + v7) ≤ a.1 then (some (.inr (1, a.1, a.2))) else (gx_bd (f_Floor_isNear (v4 - 1) a.1 v3 a.2) (fun r6 x6 => if r6 = 0 then (gx_bd (f_Floor_isNear (v4 + v6) a.1 v3 x6) (fun r8 x8 => if r8 = 0 then (some (.inl (a.1 + 1, x8))) else (some (.inr (0, a.1, x8))))) else (some (.inr (0, a.1, x6)))))
def s_Floor_hasEscape_93 (v3 : Int32) (v4 : Int32) (v5 : Int32) (v6 : Int32) (v7 : Int32) (a : Int32 × gx_S) : Option ((Int32 × gx_S) ⊕ (Nat × Int32 × gx_S)) :=
  if (v4 + v6) ≤ a.1 then (some (.inr (1, a.1, a.2))) else (gx_bd (f_Floor_isNear a.1 (v5 - 1) v3 a.2) (fun r13 x13 => if r13 = 0 then (gx_bd (f_Floor_isNear a.1 (v5 + v7) v3 x13) (fun r15 x15 => if r15 = 0 then (some (.inl (a.1 + 1, x15))) else (some (.inr (0, a.1, x15))))) else (some (.inr (0, a.1, x13)))))
def f_Floor_hasEscape (a2 : Int32) (a3 : Int32) (x : gx_S) : Option (Int32 × gx_S) :=
  gx_ck a2 7 (gx_ck a2 7 (gx_ck a2 7 (gx_ck a2 7 (gx_bl (gx_it (s_Floor_hasEscape_42 a3 (gx_gA x 14 (a2 : Int32).toNatClampNeg) (gx_gA x 15 (a2 : Int32).toNatClampNeg) (gx_gA x 2 (a2 : Int32).toNatClampNeg) (gx_gA x 3 (a2 : Int32).toNatClampNeg)) gx_fuel (gx_gA x 15 (a2 : Int32).toNatClampNeg, x)) (fun e10 => if e10.1 = 0 then (some (1, e10.2.2)) else (gx_bl (gx_it (s_Floor_hasEscape_93 a3 (gx_gA x 14 (a2 : Int32).toNatClampNeg) (gx_gA x 15 (a2 : Int32).toNatClampNeg) (gx_gA x 2 (a2 : Int32).toNatClampNeg) (gx_gA x 3 (a2 : Int32).toNatClampNeg)) gx_fuel (gx_gA x 14 (a2 : Int32).toNatClampNeg, e10.2.2)) (fun e17 => if e17.1 = 0 then (some (1, e17.2.2)) else (some (0, e17.2.2)))))))))
abbrev rm_Floor_hasEscape : Room := { frames := 2, cells := 0, slots := 0, locals := 46 }
def pp_Floor_hasEscape_42 (K : gx_K) (E : gx_E) (v3 : Int32) (v4 : Int32) (v5 : Int32) (v6 : Int32) (v7 : Int32) (a : Int32 × gx_S) : Prop := gx_G K E (gx_AB false E K.s.heap.size) 0 0 (a.2) 42 [(0, .ref (gx_ad E 15)), (3, .int v3), (4, .int v4), (5, .int v5), (6, .int v6), (7, .int v7), (8, .int a.1)] []
def pq_Floor_hasEscape_42 (K : gx_K) (E : gx_E) (v3 : Int32) (v4 : Int32) (v5 : Int32) (v6 : Int32) (v7 : Int32) (b : Nat × Int32 × gx_S) : Prop := if b.1 = 0 then gx_G K E (gx_AB false E K.s.heap.size) 0 0 (b.2.2) 81 [] [] else (gx_G K E (gx_AB false E K.s.heap.size) 0 0 (b.2.2) 89 [(0, .ref (gx_ad E 15)), (3, .int v3), (4, .int v4), (5, .int v5), (6, .int v6), (7, .int v7)] [])
def pp_Floor_hasEscape_93 (K : gx_K) (E : gx_E) (v3 : Int32) (v4 : Int32) (v5 : Int32) (v6 : Int32) (v7 : Int32) (a : Int32 × gx_S) : Prop := gx_G K E (gx_AB false E K.s.heap.size) 0 0 (a.2) 93 [(0, .ref (gx_ad E 15)), (3, .int v3), (4, .int v4), (5, .int v5), (6, .int v6), (7, .int v7), (8, .int a.1)] []
def pq_Floor_hasEscape_93 (K : gx_K) (E : gx_E) (v3 : Int32) (v4 : Int32) (v5 : Int32) (v6 : Int32) (v7 : Int32) (b : Nat × Int32 × gx_S) : Prop := if b.1 = 0 then gx_G K E (gx_AB false E K.s.heap.size) 0 0 (b.2.2) 132 [] [] else (gx_G K E (gx_AB false E K.s.heap.size) 0 0 (b.2.2) 140 [] [])
set_option maxHeartbeats 4000000 in
set_option maxRecDepth 100000 in
theorem sc_Floor_hasEscape_42 {K : gx_K} {E : gx_E} (C : gx_C K E "CaseLayout$Floor" prog_3_method_9_code 9) (hR : K.R = rm_Floor_hasEscape) (hr : K.meth.sig.returnType = (some .boolean)) (hlk : K.meth.locks = false) (v3 : Int32) (v4 : Int32) (v5 : Int32) (v6 : Int32) (v7 : Int32) (a : Int32 × gx_S) (o : (Int32 × gx_S) ⊕ (Nat × Int32 × gx_S)) (hf : s_Floor_hasEscape_42 v3 v4 v5 v6 v7 a = some o) (hk : gx_or (pp_Floor_hasEscape_42 K E v3 v4 v5 v6 v7) (pq_Floor_hasEscape_42 K E v3 v4 v5 v6 v7) o) : pp_Floor_hasEscape_42 K E v3 v4 v5 v6 v7 a := by
  unfold s_Floor_hasEscape_42 at hf
  unfold pp_Floor_hasEscape_42
  refine gx_iload C 6 d_Floor_hasEscape_42 rfl ?_
  refine gx_iload C 3 d_Floor_hasEscape_44 rfl ?_
  refine gx_iload C 5 d_Floor_hasEscape_46 rfl ?_
  refine gx_iadd C d_Floor_hasEscape_48 ?_
  refine gx_icmp_ge (tgt := 89) C d_Floor_hasEscape_49 (by decide) (fun h5 => ?_) (fun h5 => ?_)
  · have hf := (if_pos h5).symm.trans hf
    cases hf
    have hk : pq_Floor_hasEscape_42 K E v3 v4 v5 v6 v7 _ := hk
    unfold pq_Floor_hasEscape_42 at hk
    have hk := gx_ifn (by decide : ¬ ((1 : Nat) = 0)) hk
    refine gx_lv (lv' := [(0, .ref (gx_ad E 15)), (3, .int v3), (4, .int v4), (5, .int v5), (6, .int v6), (7, .int v7)]) [0, 1, 2, 3, 4, 5] rfl ?_
    exact hk
  · have hf := (if_neg h5).symm.trans hf
    refine gx_aload_n C 0 d_Floor_hasEscape_52 rfl rfl ?_
    refine gx_iload C 2 d_Floor_hasEscape_53 rfl ?_
    refine gx_iconst C (v := 1) d_Floor_hasEscape_55 (by decide) ?_
    refine gx_isub C d_Floor_hasEscape_56 ?_
    refine gx_iload C 6 d_Floor_hasEscape_57 rfl ?_
    refine gx_iload_n C 1 d_Floor_hasEscape_59 rfl rfl ?_
    obtain ⟨r6, x6, hc6, hf⟩ := gx_bd_some hf
    refine gx_cVi (n2 := 0) (k2 := 0) C (As := [.int (v4 - 1), .int a.1, .int v3]) (rest := []) 15 3 (c_Floor_isNear K.l (v4 - 1) a.1 v3 a.2 _ hc6) (Or.inr rfl) rfl (gx_goodV gw_594 gw_596 gs_12 gw_7 gw_597) (by decide +kernel) (gx_w15 E _) rfl (by rw [hR]; decide) rfl rfl (Nat.le_of_ble_eq_true rfl) d_Floor_hasEscape_60 (by rw [hR]; decide) rfl rfl ?_
    refine gx_if_ne (tgt := 81) C d_Floor_hasEscape_63 (by decide) (fun h7 => ?_) (fun h7 => ?_)
    · have hf := (if_neg h7).symm.trans hf
      cases hf
      have hk : pq_Floor_hasEscape_42 K E v3 v4 v5 v6 v7 _ := hk
      unfold pq_Floor_hasEscape_42 at hk
      have hk := gx_ifp (rfl : (0 : Nat) = 0) hk
      refine gx_lv (lv' := []) [] rfl ?_
      exact hk
    · have hf := (if_pos h7).symm.trans hf
      refine gx_aload_n C 0 d_Floor_hasEscape_66 rfl rfl ?_
      refine gx_iload C 2 d_Floor_hasEscape_67 rfl ?_
      refine gx_iload C 4 d_Floor_hasEscape_69 rfl ?_
      refine gx_iadd C d_Floor_hasEscape_71 ?_
      refine gx_iload C 6 d_Floor_hasEscape_72 rfl ?_
      refine gx_iload_n C 1 d_Floor_hasEscape_74 rfl rfl ?_
      obtain ⟨r8, x8, hc8, hf⟩ := gx_bd_some hf
      refine gx_cVi (n2 := 0) (k2 := 0) C (As := [.int (v4 + v6), .int a.1, .int v3]) (rest := []) 15 3 (c_Floor_isNear K.l (v4 + v6) a.1 v3 x6 _ hc8) (Or.inr rfl) rfl (gx_goodV gw_594 gw_596 gs_12 gw_7 gw_597) (by decide +kernel) (gx_w15 E _) rfl (by rw [hR]; decide) rfl rfl (Nat.le_of_ble_eq_true rfl) d_Floor_hasEscape_75 (by rw [hR]; decide) rfl rfl ?_
      refine gx_if_eq (tgt := 83) C d_Floor_hasEscape_78 (by decide) (fun h9 => ?_) (fun h9 => ?_)
      · have hf := (if_pos h9).symm.trans hf
        refine gx_iinc C (v := a.1 + 1) (lv' := [(8, .int (a.1 + 1)), (0, .ref (gx_ad E 15)), (3, .int v3), (4, .int v4), (5, .int v5), (6, .int v6), (7, .int v7)]) 6 d_Floor_hasEscape_83 rfl rfl (by decide) rfl ?_
        refine gx_goto (tgt := 42) C d_Floor_hasEscape_86 (by decide) ?_
        cases hf
        refine gx_lv (lv' := [(0, .ref (gx_ad E 15)), (3, .int v3), (4, .int v4), (5, .int v5), (6, .int v6), (7, .int v7), (8, .int (a.1 + 1))]) [1, 2, 3, 4, 5, 6, 0] rfl ?_
        exact hk
      · have hf := (if_neg h9).symm.trans hf
        cases hf
        have hk : pq_Floor_hasEscape_42 K E v3 v4 v5 v6 v7 _ := hk
        unfold pq_Floor_hasEscape_42 at hk
        have hk := gx_ifp (rfl : (0 : Nat) = 0) hk
        refine gx_lv (lv' := []) [] rfl ?_
        exact hk
set_option maxHeartbeats 4000000 in
set_option maxRecDepth 100000 in
theorem sc_Floor_hasEscape_93 {K : gx_K} {E : gx_E} (C : gx_C K E "CaseLayout$Floor" prog_3_method_9_code 9) (hR : K.R = rm_Floor_hasEscape) (hr : K.meth.sig.returnType = (some .boolean)) (hlk : K.meth.locks = false) (v3 : Int32) (v4 : Int32) (v5 : Int32) (v6 : Int32) (v7 : Int32) (a : Int32 × gx_S) (o : (Int32 × gx_S) ⊕ (Nat × Int32 × gx_S)) (hf : s_Floor_hasEscape_93 v3 v4 v5 v6 v7 a = some o) (hk : gx_or (pp_Floor_hasEscape_93 K E v3 v4 v5 v6 v7) (pq_Floor_hasEscape_93 K E v3 v4 v5 v6 v7) o) : pp_Floor_hasEscape_93 K E v3 v4 v5 v6 v7 a := by
  unfold s_Floor_hasEscape_93 at hf
  unfold pp_Floor_hasEscape_93
  refine gx_iload C 6 d_Floor_hasEscape_93 rfl ?_
  refine gx_iload C 2 d_Floor_hasEscape_95 rfl ?_
  refine gx_iload C 4 d_Floor_hasEscape_97 rfl ?_
  refine gx_iadd C d_Floor_hasEscape_99 ?_
  refine gx_icmp_ge (tgt := 140) C d_Floor_hasEscape_100 (by decide) (fun h12 => ?_) (fun h12 => ?_)
  · have hf := (if_pos h12).symm.trans hf
    cases hf
    have hk : pq_Floor_hasEscape_93 K E v3 v4 v5 v6 v7 _ := hk
    unfold pq_Floor_hasEscape_93 at hk
    have hk := gx_ifn (by decide : ¬ ((1 : Nat) = 0)) hk
    refine gx_lv (lv' := []) [] rfl ?_
    exact hk
  · have hf := (if_neg h12).symm.trans hf
    refine gx_aload_n C 0 d_Floor_hasEscape_103 rfl rfl ?_
    refine gx_iload C 6 d_Floor_hasEscape_104 rfl ?_
    refine gx_iload C 3 d_Floor_hasEscape_106 rfl ?_
    refine gx_iconst C (v := 1) d_Floor_hasEscape_108 (by decide) ?_
    refine gx_isub C d_Floor_hasEscape_109 ?_
    refine gx_iload_n C 1 d_Floor_hasEscape_110 rfl rfl ?_
    obtain ⟨r13, x13, hc13, hf⟩ := gx_bd_some hf
    refine gx_cVi (n2 := 0) (k2 := 0) C (As := [.int a.1, .int (v5 - 1), .int v3]) (rest := []) 15 3 (c_Floor_isNear K.l a.1 (v5 - 1) v3 a.2 _ hc13) (Or.inr rfl) rfl (gx_goodV gw_594 gw_596 gs_12 gw_7 gw_597) (by decide +kernel) (gx_w15 E _) rfl (by rw [hR]; decide) rfl rfl (Nat.le_of_ble_eq_true rfl) d_Floor_hasEscape_111 (by rw [hR]; decide) rfl rfl ?_
    refine gx_if_ne (tgt := 132) C d_Floor_hasEscape_114 (by decide) (fun h14 => ?_) (fun h14 => ?_)
    · have hf := (if_neg h14).symm.trans hf
      cases hf
      have hk : pq_Floor_hasEscape_93 K E v3 v4 v5 v6 v7 _ := hk
      unfold pq_Floor_hasEscape_93 at hk
      have hk := gx_ifp (rfl : (0 : Nat) = 0) hk
      refine gx_lv (lv' := []) [] rfl ?_
      exact hk
    · have hf := (if_pos h14).symm.trans hf
      refine gx_aload_n C 0 d_Floor_hasEscape_117 rfl rfl ?_
      refine gx_iload C 6 d_Floor_hasEscape_118 rfl ?_
      refine gx_iload C 3 d_Floor_hasEscape_120 rfl ?_
      refine gx_iload C 5 d_Floor_hasEscape_122 rfl ?_
      refine gx_iadd C d_Floor_hasEscape_124 ?_
      refine gx_iload_n C 1 d_Floor_hasEscape_125 rfl rfl ?_
      obtain ⟨r15, x15, hc15, hf⟩ := gx_bd_some hf
      refine gx_cVi (n2 := 0) (k2 := 0) C (As := [.int a.1, .int (v5 + v7), .int v3]) (rest := []) 15 3 (c_Floor_isNear K.l a.1 (v5 + v7) v3 x13 _ hc15) (Or.inr rfl) rfl (gx_goodV gw_594 gw_596 gs_12 gw_7 gw_597) (by decide +kernel) (gx_w15 E _) rfl (by rw [hR]; decide) rfl rfl (Nat.le_of_ble_eq_true rfl) d_Floor_hasEscape_126 (by rw [hR]; decide) rfl rfl ?_
      refine gx_if_eq (tgt := 134) C d_Floor_hasEscape_129 (by decide) (fun h16 => ?_) (fun h16 => ?_)
      · have hf := (if_pos h16).symm.trans hf
        refine gx_iinc C (v := a.1 + 1) (lv' := [(8, .int (a.1 + 1)), (0, .ref (gx_ad E 15)), (3, .int v3), (4, .int v4), (5, .int v5), (6, .int v6), (7, .int v7)]) 6 d_Floor_hasEscape_134 rfl rfl (by decide) rfl ?_
        refine gx_goto (tgt := 93) C d_Floor_hasEscape_137 (by decide) ?_
        cases hf
        refine gx_lv (lv' := [(0, .ref (gx_ad E 15)), (3, .int v3), (4, .int v4), (5, .int v5), (6, .int v6), (7, .int v7), (8, .int (a.1 + 1))]) [1, 2, 3, 4, 5, 6, 0] rfl ?_
        exact hk
      · have hf := (if_neg h16).symm.trans hf
        cases hf
        have hk : pq_Floor_hasEscape_93 K E v3 v4 v5 v6 v7 _ := hk
        unfold pq_Floor_hasEscape_93 at hk
        have hk := gx_ifp (rfl : (0 : Nat) = 0) hk
        refine gx_lv (lv' := []) [] rfl ?_
        exact hk
set_option maxHeartbeats 4000000 in
set_option maxRecDepth 100000 in
theorem c_Floor_hasEscape (l : Launch) (a2 : Int32) (a3 : Int32) (x : gx_S) (o : Int32 × gx_S) (hf : f_Floor_hasEscape a2 a3 x = some o) : gx_Mi false l y_Floor_hasEscape prog_3_method_9_code 9 (some .boolean) rm_Floor_hasEscape (fun E => [.ref (gx_ad E 15), .ref (gx_ad E 19), .int a2, .int a3]) x o.1 o.2 := by
  refine gx_meti (own := "CaseLayout$Floor") (by decide) rfl (fun E => Nat.le_of_ble_eq_true rfl) (fun K E hl0 hR hr hlk hk C => ?_)
  subst hl0
  unfold f_Floor_hasEscape at hf
  show gx_G K E _ 0 0 x 0 [(0, .ref (gx_ad E 15)), (1, .ref (gx_ad E 19)), (2, .int a2), (3, .int a3)] []
  refine gx_aload_n C 1 d_Floor_hasEscape_0 rfl rfl ?_
  refine gx_getN C iw_Layout 19 (gx_w19 E _) rfl 1 (by decide) gn_192 rfl rfl d_Floor_hasEscape_1 ?_
  refine gx_iload_n C 2 d_Floor_hasEscape_4 rfl rfl ?_
  obtain ⟨hi1, hf⟩ := gx_ck_some hf
  refine gx_iald C 20 0 (gx_w20 E _) rfl hi1 d_Floor_hasEscape_5 ?_
  refine gx_istore C (lv' := [(4, .int (gx_gA x 14 (a2 : Int32).toNatClampNeg)), (0, .ref (gx_ad E 15)), (1, .ref (gx_ad E 19)), (2, .int a2), (3, .int a3)]) d_Floor_hasEscape_6 (by decide) rfl ?_
  refine gx_aload_n C 2 d_Floor_hasEscape_8 rfl rfl ?_
  refine gx_getN C iw_Layout 19 (gx_w19 E _) rfl 2 (by decide) gn_196 rfl rfl d_Floor_hasEscape_9 ?_
  refine gx_iload_n C 3 d_Floor_hasEscape_12 rfl rfl ?_
  obtain ⟨hi2, hf⟩ := gx_ck_some hf
  refine gx_iald C 21 0 (gx_w21 E _) rfl hi2 d_Floor_hasEscape_13 ?_
  refine gx_istore C (lv' := [(5, .int (gx_gA x 15 (a2 : Int32).toNatClampNeg)), (4, .int (gx_gA x 14 (a2 : Int32).toNatClampNeg)), (0, .ref (gx_ad E 15)), (1, .ref (gx_ad E 19)), (2, .int a2), (3, .int a3)]) d_Floor_hasEscape_14 (by decide) rfl ?_
  refine gx_aload_n C 3 d_Floor_hasEscape_16 rfl rfl ?_
  refine gx_getN C iw_Layout 19 (gx_w19 E _) rfl 0 (by decide) gn_190 rfl rfl d_Floor_hasEscape_17 ?_
  refine gx_getN C iw_Things 3 (gx_w3 E _) rfl 0 (by decide) gn_74 rfl rfl d_Floor_hasEscape_20 ?_
  refine gx_iload_n C 4 d_Floor_hasEscape_23 rfl rfl ?_
  obtain ⟨hi3, hf⟩ := gx_ck_some hf
  refine gx_iald C 4 0 (gx_w4 E _) rfl hi3 d_Floor_hasEscape_24 ?_
  refine gx_istore C (lv' := [(6, .int (gx_gA x 2 (a2 : Int32).toNatClampNeg)), (5, .int (gx_gA x 15 (a2 : Int32).toNatClampNeg)), (4, .int (gx_gA x 14 (a2 : Int32).toNatClampNeg)), (0, .ref (gx_ad E 15)), (1, .ref (gx_ad E 19)), (2, .int a2), (3, .int a3)]) d_Floor_hasEscape_25 (by decide) rfl ?_
  refine gx_aload_n C 4 d_Floor_hasEscape_27 rfl rfl ?_
  refine gx_getN C iw_Layout 19 (gx_w19 E _) rfl 0 (by decide) gn_190 rfl rfl d_Floor_hasEscape_28 ?_
  refine gx_getN C iw_Things 3 (gx_w3 E _) rfl 1 (by decide) gn_78 rfl rfl d_Floor_hasEscape_31 ?_
  refine gx_iload_n C 5 d_Floor_hasEscape_34 rfl rfl ?_
  obtain ⟨hi4, hf⟩ := gx_ck_some hf
  refine gx_iald C 5 0 (gx_w5 E _) rfl hi4 d_Floor_hasEscape_35 ?_
  refine gx_istore C (lv' := [(7, .int (gx_gA x 3 (a2 : Int32).toNatClampNeg)), (6, .int (gx_gA x 2 (a2 : Int32).toNatClampNeg)), (5, .int (gx_gA x 15 (a2 : Int32).toNatClampNeg)), (4, .int (gx_gA x 14 (a2 : Int32).toNatClampNeg)), (0, .ref (gx_ad E 15)), (1, .ref (gx_ad E 19)), (2, .int a2), (3, .int a3)]) d_Floor_hasEscape_36 (by decide) rfl ?_
  refine gx_iload C 2 d_Floor_hasEscape_38 rfl ?_
  refine gx_istore C (lv' := [(8, .int (gx_gA x 15 (a2 : Int32).toNatClampNeg)), (7, .int (gx_gA x 3 (a2 : Int32).toNatClampNeg)), (6, .int (gx_gA x 2 (a2 : Int32).toNatClampNeg)), (5, .int (gx_gA x 15 (a2 : Int32).toNatClampNeg)), (4, .int (gx_gA x 14 (a2 : Int32).toNatClampNeg)), (0, .ref (gx_ad E 15)), (1, .ref (gx_ad E 19)), (2, .int a2), (3, .int a3)]) d_Floor_hasEscape_40 (by decide) rfl ?_
  refine gx_lv (lv' := [(0, .ref (gx_ad E 15)), (3, .int a3), (4, .int (gx_gA x 14 (a2 : Int32).toNatClampNeg)), (5, .int (gx_gA x 15 (a2 : Int32).toNatClampNeg)), (6, .int (gx_gA x 2 (a2 : Int32).toNatClampNeg)), (7, .int (gx_gA x 3 (a2 : Int32).toNatClampNeg)), (8, .int (gx_gA x 15 (a2 : Int32).toNatClampNeg))]) [5, 8, 4, 3, 2, 1, 0] rfl ?_
  obtain ⟨e10, he10, hf⟩ := gx_bl_some hf
  refine (gx_loop (P := pp_Floor_hasEscape_42 K E a3 (gx_gA x 14 (a2 : Int32).toNatClampNeg) (gx_gA x 15 (a2 : Int32).toNatClampNeg) (gx_gA x 2 (a2 : Int32).toNatClampNeg) (gx_gA x 3 (a2 : Int32).toNatClampNeg)) (Q := pq_Floor_hasEscape_42 K E a3 (gx_gA x 14 (a2 : Int32).toNatClampNeg) (gx_gA x 15 (a2 : Int32).toNatClampNeg) (gx_gA x 2 (a2 : Int32).toNatClampNeg) (gx_gA x 3 (a2 : Int32).toNatClampNeg)) (fun a9 o9 h1 h2 => sc_Floor_hasEscape_42 C hR hr hlk a3 (gx_gA x 14 (a2 : Int32).toNatClampNeg) (gx_gA x 15 (a2 : Int32).toNatClampNeg) (gx_gA x 2 (a2 : Int32).toNatClampNeg) (gx_gA x 3 (a2 : Int32).toNatClampNeg) a9 o9 h1 h2) gx_fuel (gx_gA x 15 (a2 : Int32).toNatClampNeg, x) e10 he10 ?_ : pp_Floor_hasEscape_42 K E a3 (gx_gA x 14 (a2 : Int32).toNatClampNeg) (gx_gA x 15 (a2 : Int32).toNatClampNeg) (gx_gA x 2 (a2 : Int32).toNatClampNeg) (gx_gA x 3 (a2 : Int32).toNatClampNeg) (gx_gA x 15 (a2 : Int32).toNatClampNeg, x))
  unfold pq_Floor_hasEscape_42
  by_cases ht11 : e10.1 = 0
  · rw [if_pos ht11]
    have hf := (if_pos ht11).symm.trans hf
    refine gx_iconst C (v := 1) d_Floor_hasEscape_81 (by decide) ?_
    cases hf
    exact gx_zret C hr hlk hk (by decide) d_Floor_hasEscape_82
  · rw [if_neg ht11]
    have hf := (if_neg ht11).symm.trans hf
    refine gx_iload C 2 d_Floor_hasEscape_89 rfl ?_
    refine gx_istore C (lv' := [(8, .int (gx_gA x 14 (a2 : Int32).toNatClampNeg)), (0, .ref (gx_ad E 15)), (3, .int a3), (4, .int (gx_gA x 14 (a2 : Int32).toNatClampNeg)), (5, .int (gx_gA x 15 (a2 : Int32).toNatClampNeg)), (6, .int (gx_gA x 2 (a2 : Int32).toNatClampNeg)), (7, .int (gx_gA x 3 (a2 : Int32).toNatClampNeg))]) d_Floor_hasEscape_91 (by decide) rfl ?_
    refine gx_lv (lv' := [(0, .ref (gx_ad E 15)), (3, .int a3), (4, .int (gx_gA x 14 (a2 : Int32).toNatClampNeg)), (5, .int (gx_gA x 15 (a2 : Int32).toNatClampNeg)), (6, .int (gx_gA x 2 (a2 : Int32).toNatClampNeg)), (7, .int (gx_gA x 3 (a2 : Int32).toNatClampNeg)), (8, .int (gx_gA x 14 (a2 : Int32).toNatClampNeg))]) [1, 2, 3, 4, 5, 6, 0] rfl ?_
    obtain ⟨e17, he17, hf⟩ := gx_bl_some hf
    refine (gx_loop (P := pp_Floor_hasEscape_93 K E a3 (gx_gA x 14 (a2 : Int32).toNatClampNeg) (gx_gA x 15 (a2 : Int32).toNatClampNeg) (gx_gA x 2 (a2 : Int32).toNatClampNeg) (gx_gA x 3 (a2 : Int32).toNatClampNeg)) (Q := pq_Floor_hasEscape_93 K E a3 (gx_gA x 14 (a2 : Int32).toNatClampNeg) (gx_gA x 15 (a2 : Int32).toNatClampNeg) (gx_gA x 2 (a2 : Int32).toNatClampNeg) (gx_gA x 3 (a2 : Int32).toNatClampNeg)) (fun a9 o9 h1 h2 => sc_Floor_hasEscape_93 C hR hr hlk a3 (gx_gA x 14 (a2 : Int32).toNatClampNeg) (gx_gA x 15 (a2 : Int32).toNatClampNeg) (gx_gA x 2 (a2 : Int32).toNatClampNeg) (gx_gA x 3 (a2 : Int32).toNatClampNeg) a9 o9 h1 h2) gx_fuel (gx_gA x 14 (a2 : Int32).toNatClampNeg, e10.2.2) e17 he17 ?_ : pp_Floor_hasEscape_93 K E a3 (gx_gA x 14 (a2 : Int32).toNatClampNeg) (gx_gA x 15 (a2 : Int32).toNatClampNeg) (gx_gA x 2 (a2 : Int32).toNatClampNeg) (gx_gA x 3 (a2 : Int32).toNatClampNeg) (gx_gA x 14 (a2 : Int32).toNatClampNeg, e10.2.2))
    unfold pq_Floor_hasEscape_93
    by_cases ht18 : e17.1 = 0
    · rw [if_pos ht18]
      have hf := (if_pos ht18).symm.trans hf
      refine gx_iconst C (v := 1) d_Floor_hasEscape_132 (by decide) ?_
      cases hf
      exact gx_zret C hr hlk hk (by decide) d_Floor_hasEscape_133
    · rw [if_neg ht18]
      have hf := (if_neg ht18).symm.trans hf
      refine gx_iconst C (v := 0) d_Floor_hasEscape_140 (by decide) ?_
      cases hf
      exact gx_zret C hr hlk hk (by decide) d_Floor_hasEscape_141

def s_Search_allEscape_25  (a : Int32 × gx_S) : Option ((Int32 × gx_S) ⊕ (Nat × Int32 × gx_S)) :=
  if (gx_gI a.2 3) ≤ a.1 then (some (.inr (1, a.1, a.2))) else (gx_bd (f_Floor_hasEscape a.1 (gx_gI a.2 6) a.2) (fun r4 x4 => if r4 = 0 then (some (.inr (0, a.1, x4))) else (some (.inl (a.1 + 1, x4)))))
def f_Search_allEscape  (x : gx_S) : Option (Int32 × gx_S) :=
  if (gx_gI x 5) = 0 then (some (1, x)) else (gx_bd (f_Floor_measure  x) (fun r2 x2 => gx_bl (gx_it (s_Search_allEscape_25 ) gx_fuel (0, x2)) (fun e6 => if e6.1 = 0 then (some (0, e6.2.2)) else (some (1, e6.2.2)))))
abbrev rm_Search_allEscape : Room := { frames := 3, cells := 0, slots := 0, locals := 74 }
def pp_Search_allEscape_25 (K : gx_K) (E : gx_E)  (a : Int32 × gx_S) : Prop := gx_G K E (gx_AB true E K.s.heap.size) 0 0 (a.2) 25 [(0, .ref (gx_ad E 25)), (1, .int a.1)] []
def pq_Search_allEscape_25 (K : gx_K) (E : gx_E)  (b : Nat × Int32 × gx_S) : Prop := if b.1 = 0 then gx_G K E (gx_AB true E K.s.heap.size) 0 0 (b.2.2) 58 [] [] else (gx_G K E (gx_AB true E K.s.heap.size) 0 0 (b.2.2) 66 [] [])
set_option maxHeartbeats 4000000 in
set_option maxRecDepth 100000 in
theorem sc_Search_allEscape_25 {K : gx_K} {E : gx_E} (C : gx_C K E "CaseLayout$Search" prog_7_method_11_code 2) (hR : K.R = rm_Search_allEscape) (hr : K.meth.sig.returnType = (some .boolean)) (hlk : K.meth.locks = false)  (a : Int32 × gx_S) (o : (Int32 × gx_S) ⊕ (Nat × Int32 × gx_S)) (hf : s_Search_allEscape_25  a = some o) (hk : gx_or (pp_Search_allEscape_25 K E ) (pq_Search_allEscape_25 K E ) o) : pp_Search_allEscape_25 K E  a := by
  unfold s_Search_allEscape_25 at hf
  unfold pp_Search_allEscape_25
  refine gx_iload_n C 1 d_Search_allEscape_25 rfl rfl ?_
  refine gx_aload_n C 0 d_Search_allEscape_26 rfl rfl ?_
  refine gx_get C iw_Search 25 (gx_w25 E _) rfl 1 (by decide) gw_207 rfl rfl d_Search_allEscape_27 ?_
  refine gx_getN C iw_Things 3 (gx_w3 E _) rfl 5 (by decide) gn_91 rfl rfl d_Search_allEscape_30 ?_
  refine gx_icmp_ge (tgt := 66) C d_Search_allEscape_33 (by decide) (fun h3 => ?_) (fun h3 => ?_)
  · have hf := (if_pos h3).symm.trans hf
    cases hf
    have hk : pq_Search_allEscape_25 K E  _ := hk
    unfold pq_Search_allEscape_25 at hk
    have hk := gx_ifn (by decide : ¬ ((1 : Nat) = 0)) hk
    refine gx_lv (lv' := []) [] rfl ?_
    exact hk
  · have hf := (if_neg h3).symm.trans hf
    refine gx_aload_n C 0 d_Search_allEscape_36 rfl rfl ?_
    refine gx_get C iw_Search 25 (gx_w25 E _) rfl 4 (by decide) gw_210 rfl rfl d_Search_allEscape_37 ?_
    refine gx_aload_n C 0 d_Search_allEscape_40 rfl rfl ?_
    refine gx_get C iw_Search 25 (gx_w25 E _) rfl 5 (by decide) gw_211 rfl rfl d_Search_allEscape_41 ?_
    refine gx_iload_n C 1 d_Search_allEscape_44 rfl rfl ?_
    refine gx_aload_n C 0 d_Search_allEscape_45 rfl rfl ?_
    refine gx_get C iw_Search 25 (gx_w25 E _) rfl 3 (by decide) gw_209 rfl rfl d_Search_allEscape_46 ?_
    refine gx_getN C iw_Exits 13 (gx_w13 E _) rfl 2 (by decide) gn_146 rfl rfl d_Search_allEscape_49 ?_
    obtain ⟨r4, x4, hc4, hf⟩ := gx_bd_some hf
    refine gx_cVi (n2 := 0) (k2 := 0) C (As := [.ref (gx_ad E 19), .int a.1, .int (gx_gI a.2 6)]) (rest := []) 15 3 (c_Floor_hasEscape K.l a.1 (gx_gI a.2 6) a.2 _ hc4) (Or.inl rfl) rfl (gx_goodV gw_590 gw_591 gw_592 gw_7 gw_593) (by decide +kernel) (gx_w15 E _) rfl (by rw [hR]; decide) rfl rfl (Nat.le_of_ble_eq_true rfl) d_Search_allEscape_52 (by rw [hR]; decide) rfl rfl ?_
    refine gx_if_ne (tgt := 60) C d_Search_allEscape_55 (by decide) (fun h5 => ?_) (fun h5 => ?_)
    · have hf := (if_neg h5).symm.trans hf
      refine gx_iinc C (v := a.1 + 1) (lv' := [(1, .int (a.1 + 1)), (0, .ref (gx_ad E 25))]) 1 d_Search_allEscape_60 rfl rfl (by decide) rfl ?_
      refine gx_goto (tgt := 25) C d_Search_allEscape_63 (by decide) ?_
      cases hf
      refine gx_lv (lv' := [(0, .ref (gx_ad E 25)), (1, .int (a.1 + 1))]) [1, 0] rfl ?_
      exact hk
    · have hf := (if_pos h5).symm.trans hf
      cases hf
      have hk : pq_Search_allEscape_25 K E  _ := hk
      unfold pq_Search_allEscape_25 at hk
      have hk := gx_ifp (rfl : (0 : Nat) = 0) hk
      refine gx_lv (lv' := []) [] rfl ?_
      exact hk
set_option maxHeartbeats 4000000 in
set_option maxRecDepth 100000 in
theorem c_Search_allEscape (l : Launch)  (x : gx_S) (o : Int32 × gx_S) (hf : f_Search_allEscape  x = some o) : gx_Mi true l y_Search_allEscape prog_7_method_11_code 2 (some .boolean) rm_Search_allEscape (fun E => [.ref (gx_ad E 25)]) x o.1 o.2 := by
  refine gx_meti (own := "CaseLayout$Search") (by decide) rfl (fun E => Nat.le_of_ble_eq_true rfl) (fun K E hl0 hR hr hlk hk C => ?_)
  subst hl0
  unfold f_Search_allEscape at hf
  show gx_G K E _ 0 0 x 0 [(0, .ref (gx_ad E 25))] []
  refine gx_aload_n C 0 d_Search_allEscape_0 rfl rfl ?_
  refine gx_get C iw_Search 25 (gx_w25 E _) rfl 3 (by decide) gw_209 rfl rfl d_Search_allEscape_1 ?_
  refine gx_getN C iw_Exits 13 (gx_w13 E _) rfl 1 (by decide) gn_143 rfl rfl d_Search_allEscape_4 ?_
  refine gx_if_ne (tgt := 12) C d_Search_allEscape_7 (by decide) (fun h1 => ?_) (fun h1 => ?_)
  · have hf := (if_neg h1).symm.trans hf
    refine gx_aload_n C 0 d_Search_allEscape_12 rfl rfl ?_
    refine gx_get C iw_Search 25 (gx_w25 E _) rfl 4 (by decide) gw_210 rfl rfl d_Search_allEscape_13 ?_
    refine gx_aload_n C 0 d_Search_allEscape_16 rfl rfl ?_
    refine gx_get C iw_Search 25 (gx_w25 E _) rfl 3 (by decide) gw_209 rfl rfl d_Search_allEscape_17 ?_
    obtain ⟨r2, x2, hc2, hf⟩ := gx_bd_some hf
    refine gx_cVv (n2 := 0) (k2 := 0) C (As := [.ref (gx_ad E 13)]) (rest := []) 15 1 (c_Floor_measure K.l  x _ hc2) (Or.inl rfl) rfl (gx_goodV gw_579 gw_580 gw_581 gw_7 gw_582) (by decide +kernel) (gx_w15 E _) rfl (by rw [hR]; decide) rfl rfl (Nat.le_of_ble_eq_true rfl) d_Search_allEscape_20 (by rw [hR]; decide) rfl rfl ?_
    refine gx_iconst C (v := 0) d_Search_allEscape_23 (by decide) ?_
    refine gx_istore_n C (lv' := [(1, .int 0), (0, .ref (gx_ad E 25))]) d_Search_allEscape_24 rfl (by decide) rfl ?_
    refine gx_lv (lv' := [(0, .ref (gx_ad E 25)), (1, .int 0)]) [1, 0] rfl ?_
    obtain ⟨e6, he6, hf⟩ := gx_bl_some hf
    refine (gx_loop (P := pp_Search_allEscape_25 K E ) (Q := pq_Search_allEscape_25 K E ) (fun a9 o9 h1 h2 => sc_Search_allEscape_25 C hR hr hlk  a9 o9 h1 h2) gx_fuel (0, x2) e6 he6 ?_ : pp_Search_allEscape_25 K E  (0, x2))
    unfold pq_Search_allEscape_25
    by_cases ht7 : e6.1 = 0
    · rw [if_pos ht7]
      have hf := (if_pos ht7).symm.trans hf
      refine gx_iconst C (v := 0) d_Search_allEscape_58 (by decide) ?_
      cases hf
      exact gx_zret C hr hlk hk (by decide) d_Search_allEscape_59
    · rw [if_neg ht7]
      have hf := (if_neg ht7).symm.trans hf
      refine gx_iconst C (v := 1) d_Search_allEscape_66 (by decide) ?_
      cases hf
      exact gx_zret C hr hlk hk (by decide) d_Search_allEscape_67
  · have hf := (if_pos h1).symm.trans hf
    refine gx_iconst C (v := 1) d_Search_allEscape_10 (by decide) ?_
    cases hf
    exact gx_zret C hr hlk hk (by decide) d_Search_allEscape_11

def f_Layout_copyFrom  (x : gx_S) : Option (Int32 × gx_S) :=
  some (0, gx_sF (gx_sF x 16 (va_cpy (gx_gA x 14) (gx_gA x 16) (0 : Int32).toNatClampNeg (0 : Int32).toNatClampNeg (7 : Int32).toNatClampNeg)) 17 (va_cpy (gx_gA (gx_sF x 16 (va_cpy (gx_gA x 14) (gx_gA x 16) (0 : Int32).toNatClampNeg (0 : Int32).toNatClampNeg (7 : Int32).toNatClampNeg)) 15) (gx_gA (gx_sF x 16 (va_cpy (gx_gA x 14) (gx_gA x 16) (0 : Int32).toNatClampNeg (0 : Int32).toNatClampNeg (7 : Int32).toNatClampNeg)) 17) (0 : Int32).toNatClampNeg (0 : Int32).toNatClampNeg (7 : Int32).toNatClampNeg))
abbrev rm_Layout_copyFrom : Room := { frames := 1, cells := 0, slots := 0, locals := 64 }
set_option maxHeartbeats 4000000 in
set_option maxRecDepth 100000 in
theorem c_Layout_copyFrom (l : Launch)  (x : gx_S) (o : Int32 × gx_S) (hf : f_Layout_copyFrom  x = some o) : gx_Mv true l y_Layout_copyFrom prog_5_method_3_code 2 rm_Layout_copyFrom (fun E => [.ref (gx_ad E 22), .ref (gx_ad E 19)]) x o.2 := by
  refine gx_metv (own := "CaseLayout$Layout") (by decide) rfl (fun E => Nat.le_of_ble_eq_true rfl) (fun K E hl0 hR hr hlk hk C => ?_)
  subst hl0
  unfold f_Layout_copyFrom at hf
  show gx_G K E _ 0 0 x 0 [(0, .ref (gx_ad E 22)), (1, .ref (gx_ad E 19))] []
  refine gx_aload_n C 1 d_Layout_copyFrom_0 rfl rfl ?_
  refine gx_get C iw_Layout 19 (gx_w19 E _) rfl 1 (by decide) gw_191 rfl rfl d_Layout_copyFrom_1 ?_
  refine gx_iconst C (v := 0) d_Layout_copyFrom_4 (by decide) ?_
  refine gx_aload_n C 0 d_Layout_copyFrom_5 rfl rfl ?_
  refine gx_get C iw_Layout 22 (gx_w22 E _) rfl 1 (by decide) gw_191 rfl rfl d_Layout_copyFrom_6 ?_
  refine gx_iconst C (v := 0) d_Layout_copyFrom_9 (by decide) ?_
  refine gx_bipush C (v := 7) d_Layout_copyFrom_10 (by decide) ?_
  refine gx_copy C (x' := gx_sF x 16 (va_cpy (gx_gA x 14) (gx_gA x 16) (0 : Int32).toNatClampNeg (0 : Int32).toNatClampNeg (7 : Int32).toNatClampNeg)) gw_602 gw_604 gw_603 gw_18 20 23 (gx_w20 E _) (gx_w23 E _) rfl rfl (by decide) (by decide) (by decide) (by decide) (by decide) (gx_c23 E _ _) (by rw [hR]; decide) (by rw [hR]; exact Nat.le_of_ble_eq_true rfl) d_Layout_copyFrom_12 ?_
  refine gx_aload_n C 1 d_Layout_copyFrom_15 rfl rfl ?_
  refine gx_get C iw_Layout 19 (gx_w19 E _) rfl 2 (by decide) gw_195 rfl rfl d_Layout_copyFrom_16 ?_
  refine gx_iconst C (v := 0) d_Layout_copyFrom_19 (by decide) ?_
  refine gx_aload_n C 0 d_Layout_copyFrom_20 rfl rfl ?_
  refine gx_get C iw_Layout 22 (gx_w22 E _) rfl 2 (by decide) gw_195 rfl rfl d_Layout_copyFrom_21 ?_
  refine gx_iconst C (v := 0) d_Layout_copyFrom_24 (by decide) ?_
  refine gx_bipush C (v := 7) d_Layout_copyFrom_25 (by decide) ?_
  refine gx_copy C (x' := gx_sF (gx_sF x 16 (va_cpy (gx_gA x 14) (gx_gA x 16) (0 : Int32).toNatClampNeg (0 : Int32).toNatClampNeg (7 : Int32).toNatClampNeg)) 17 (va_cpy (gx_gA (gx_sF x 16 (va_cpy (gx_gA x 14) (gx_gA x 16) (0 : Int32).toNatClampNeg (0 : Int32).toNatClampNeg (7 : Int32).toNatClampNeg)) 15) (gx_gA (gx_sF x 16 (va_cpy (gx_gA x 14) (gx_gA x 16) (0 : Int32).toNatClampNeg (0 : Int32).toNatClampNeg (7 : Int32).toNatClampNeg)) 17) (0 : Int32).toNatClampNeg (0 : Int32).toNatClampNeg (7 : Int32).toNatClampNeg)) gw_602 gw_604 gw_603 gw_18 21 24 (gx_w21 E _) (gx_w24 E _) rfl rfl (by decide) (by decide) (by decide) (by decide) (by decide) (gx_c24 E _ _) (by rw [hR]; decide) (by rw [hR]; exact Nat.le_of_ble_eq_true rfl) d_Layout_copyFrom_27 ?_
  cases hf
  exact gx_vret C hr hlk hk d_Layout_copyFrom_30

def f_Search_judge (a1 : Int32) (x : gx_S) : Option (Int32 × gx_S) :=
  if (gx_gI x 10) < a1 then (gx_bd (f_Floor_lay  x) (fun r2 x2 => gx_bd (f_Search_allSeen  x2) (fun r3 x3 => if r3 = 0 then (some (0, x3)) else (gx_bd (f_Search_allEscape  x3) (fun r5 x5 => if r5 = 0 then (some (0, x5)) else (gx_bd (f_Layout_copyFrom  x5) (fun r7 x7 => some (0, gx_sI x7 10 a1)))))))) else (some (0, x))
abbrev rm_Search_judge : Room := { frames := 4, cells := 0, slots := 0, locals := 96 }
set_option maxHeartbeats 4000000 in
set_option maxRecDepth 100000 in
theorem c_Search_judge (l : Launch) (a1 : Int32) (x : gx_S) (o : Int32 × gx_S) (hf : f_Search_judge a1 x = some o) : gx_Mv true l y_Search_judge prog_7_method_9_code 2 rm_Search_judge (fun E => [.ref (gx_ad E 25), .int a1]) x o.2 := by
  refine gx_metv (own := "CaseLayout$Search") (by decide) rfl (fun E => Nat.le_of_ble_eq_true rfl) (fun K E hl0 hR hr hlk hk C => ?_)
  subst hl0
  unfold f_Search_judge at hf
  show gx_G K E _ 0 0 x 0 [(0, .ref (gx_ad E 25)), (1, .int a1)] []
  refine gx_iload_n C 1 d_Search_judge_0 rfl rfl ?_
  refine gx_aload_n C 0 d_Search_judge_1 rfl rfl ?_
  refine gx_get C iw_Search 25 (gx_w25 E _) rfl 11 (by decide) gw_219 rfl rfl d_Search_judge_2 ?_
  refine gx_icmp_gt (tgt := 9) C d_Search_judge_5 (by decide) (fun h1 => ?_) (fun h1 => ?_)
  · have hf := (if_pos h1).symm.trans hf
    refine gx_aload_n C 0 d_Search_judge_9 rfl rfl ?_
    refine gx_get C iw_Search 25 (gx_w25 E _) rfl 4 (by decide) gw_210 rfl rfl d_Search_judge_10 ?_
    refine gx_aload_n C 0 d_Search_judge_13 rfl rfl ?_
    refine gx_get C iw_Search 25 (gx_w25 E _) rfl 5 (by decide) gw_211 rfl rfl d_Search_judge_14 ?_
    obtain ⟨r2, x2, hc2, hf⟩ := gx_bd_some hf
    refine gx_cVv (n2 := 0) (k2 := 0) C (As := [.ref (gx_ad E 19)]) (rest := []) 15 1 (c_Floor_lay K.l  x _ hc2) (Or.inl rfl) rfl (gx_goodV gw_544 gw_545 gw_546 gw_7 gw_547) (by decide +kernel) (gx_w15 E _) rfl (by rw [hR]; decide) rfl rfl (Nat.le_of_ble_eq_true rfl) d_Search_judge_17 (by rw [hR]; decide) rfl rfl ?_
    refine gx_aload_n C 0 d_Search_judge_20 rfl rfl ?_
    obtain ⟨r3, x3, hc3, hf⟩ := gx_bd_some hf
    refine gx_cVi (n2 := 0) (k2 := 0) C (As := []) (rest := []) 25 0 (c_Search_allSeen K.l  x2 _ hc3) (Or.inl rfl) rfl (gx_goodV gw_554 gw_556 gs_8 gw_8 gw_557) (by decide +kernel) (gx_w25 E _) rfl (by rw [hR]; decide) rfl rfl (Nat.le_of_ble_eq_true rfl) d_Search_judge_21 (by rw [hR]; decide) rfl rfl ?_
    refine gx_if_eq (tgt := 50) C d_Search_judge_24 (by decide) (fun h4 => ?_) (fun h4 => ?_)
    · have hf := (if_pos h4).symm.trans hf
      cases hf
      exact gx_vret C hr hlk hk d_Search_judge_50
    · have hf := (if_neg h4).symm.trans hf
      refine gx_aload_n C 0 d_Search_judge_27 rfl rfl ?_
      obtain ⟨r5, x5, hc5, hf⟩ := gx_bd_some hf
      refine gx_cVi (n2 := 0) (k2 := 0) C (As := []) (rest := []) 25 0 (c_Search_allEscape K.l  x3 _ hc5) (Or.inl rfl) rfl (gx_goodV gw_575 gw_577 gs_10 gw_8 gw_578) (by decide +kernel) (gx_w25 E _) rfl (by rw [hR]; decide) rfl rfl (Nat.le_of_ble_eq_true rfl) d_Search_judge_28 (by rw [hR]; decide) rfl rfl ?_
      refine gx_if_eq (tgt := 50) C d_Search_judge_31 (by decide) (fun h6 => ?_) (fun h6 => ?_)
      · have hf := (if_pos h6).symm.trans hf
        cases hf
        exact gx_vret C hr hlk hk d_Search_judge_50
      · have hf := (if_neg h6).symm.trans hf
        refine gx_aload_n C 0 d_Search_judge_34 rfl rfl ?_
        refine gx_get C iw_Search 25 (gx_w25 E _) rfl 6 (by decide) gw_212 rfl rfl d_Search_judge_35 ?_
        refine gx_aload_n C 0 d_Search_judge_38 rfl rfl ?_
        refine gx_get C iw_Search 25 (gx_w25 E _) rfl 5 (by decide) gw_211 rfl rfl d_Search_judge_39 ?_
        obtain ⟨r7, x7, hc7, hf⟩ := gx_bd_some hf
        refine gx_cVv (n2 := 0) (k2 := 0) C (As := [.ref (gx_ad E 19)]) (rest := []) 22 1 (c_Layout_copyFrom K.l  x5 _ hc7) (Or.inl rfl) rfl (gx_goodV gw_598 gw_599 gw_600 gw_9 gw_601) (by decide +kernel) (gx_w22 E _) rfl (by rw [hR]; decide) rfl rfl (Nat.le_of_ble_eq_true rfl) d_Search_judge_42 (by rw [hR]; decide) rfl rfl ?_
        refine gx_aload_n C 0 d_Search_judge_45 rfl rfl ?_
        refine gx_iload_n C 1 d_Search_judge_46 rfl rfl ?_
        refine gx_put C (ty := .int) (x' := gx_sI x7 10 a1) iw_Search ty_Search tk_Search tn_Search 25 (gx_w25 E _) rfl 11 (by decide) gw_219 rfl rfl (by decide +kernel) rfl rfl (Nat.le_of_ble_eq_true rfl) (gx_p25_11 E _ _) d_Search_judge_47 ?_
        cases hf
        exact gx_vret C hr hlk hk d_Search_judge_50
  · have hf := (if_neg h1).symm.trans hf
    cases hf
    exact gx_vret C hr hlk hk d_Search_judge_8

abbrev rm_Search_tryThing (n : Nat) : Room := { frames := 5 + n, cells := 0, slots := 0, locals := 117 + n * 24 }
def j_Search_tryThing_17 (rec : Int32 → Int32 → gx_S → Option (Int32 × gx_S)) (v2 : Int32) (x : gx_S) : Option (Int32 × gx_S) :=
  gx_bd (f_Search_judge v2 x) (fun r2 x2 => some (1, x2))
def s_Search_tryThing_26 (rec : Int32 → Int32 → gx_S → Option (Int32 × gx_S)) (v1 : Int32) (v2 : Int32) (a : Int32 × gx_S) : Option ((Int32 × gx_S) ⊕ (Nat × Int32 × gx_S)) :=
  gx_ck v1 7 (if (gx_gA a.2 19 (v1 : Int32).toNatClampNeg) ≤ a.1 then (some (.inr (2, a.1, a.2))) else (gx_ck ((v1 * 81) + a.1) 567 (gx_ck v1 7 (gx_ck v1 7 (gx_bd (f_Search_keepsApart v1 (gx_sA (gx_sA a.2 14 (v1 : Int32).toNatClampNeg ((gx_gA a.2 18 ((v1 * 81) + a.1 : Int32).toNatClampNeg) - (gx_gA a.2 18 ((v1 * 81) + a.1 : Int32).toNatClampNeg) / 9 * 9)) 15 (v1 : Int32).toNatClampNeg ((gx_gA a.2 18 ((v1 * 81) + a.1 : Int32).toNatClampNeg) / 9))) (fun r9 x9 => if r9 = 0 then (some (.inl (a.1 + 1, x9))) else (if (gx_gI x9 9) < (gx_gI x9 8) then (gx_bd (f_Search_gainOf v1 (gx_sI x9 9 ((gx_gI x9 9) + 1))) (fun r12 x12 => gx_bd (rec (v1 + 1) (v2 + r12) x12) (fun r13 x13 => if r13 = 0 then (some (.inr (1, a.1, x13))) else (some (.inl (a.1 + 1, x13)))))) else (some (.inr (0, a.1, x9))))))))))
def F_Search_tryThing (rec : Int32 → Int32 → gx_S → Option (Int32 × gx_S)) (a1 : Int32) (a2 : Int32) (x : gx_S) : Option (Int32 × gx_S) :=
  if (gx_gI x 3) ≤ a1 then (j_Search_tryThing_17 rec a2  x) else (if a1 < 7 then (gx_bl (gx_it (s_Search_tryThing_26 rec a1 a2) gx_fuel (0, x)) (fun e15 => if e15.1 = 0 then (some (0, e15.2.2)) else (if e15.1 = 1 then (some (0, e15.2.2)) else (some (1, e15.2.2))))) else (j_Search_tryThing_17 rec a2  x))
def f_Search_tryThing : Nat → Int32 → Int32 → gx_S → Option (Int32 × gx_S)
  | 0 => fun _ _ _ => none
  | n + 1 => F_Search_tryThing (f_Search_tryThing n)
def pp_Search_tryThing_26 (K : gx_K) (E : gx_E) (v1 : Int32) (v2 : Int32) (a : Int32 × gx_S) : Prop := gx_G K E (gx_AB true E K.s.heap.size) 0 0 (a.2) 26 [(0, .ref (gx_ad E 25)), (1, .int v1), (2, .int v2), (3, .int a.1)] []
def pq_Search_tryThing_26 (K : gx_K) (E : gx_E) (v1 : Int32) (v2 : Int32) (b : Nat × Int32 × gx_S) : Prop := if b.1 = 0 then gx_G K E (gx_AB true E K.s.heap.size) 0 0 (b.2.2) 96 [] [] else (if b.1 = 1 then gx_G K E (gx_AB true E K.s.heap.size) 0 0 (b.2.2) 125 [] [] else (gx_G K E (gx_AB true E K.s.heap.size) 0 0 (b.2.2) 133 [] []))
set_option maxHeartbeats 4000000 in
set_option maxRecDepth 100000 in
theorem jc_Search_tryThing_17 {K : gx_K} {E : gx_E} {n0 : Nat} (C : gx_C K E "CaseLayout$Search" prog_7_method_6_code 5) (hR : K.R = (rm_Search_tryThing (n0 + 1))) (hr : K.meth.sig.returnType = (some .boolean)) (hlk : K.meth.locks = false) (rec : Int32 → Int32 → gx_S → Option (Int32 × gx_S)) (hrec : ∀ (a1 : Int32) (a2 : Int32) (x : gx_S) (o : Int32 × gx_S), rec a1 a2 x = some o → gx_Mi true K.l y_Search_tryThing prog_7_method_6_code 5 (some .boolean) (rm_Search_tryThing n0) (fun E => [.ref (gx_ad E 25), .int a1, .int a2]) x o.1 o.2) (v2 : Int32) (x : gx_S) (o : Int32 × gx_S) (hf : j_Search_tryThing_17 rec v2 x = some o) (hk : ∀ t, MQ K.below (gx_Qi E (gx_AB true E K.s.heap.size) o.1 o.2) K.args K.s 0 0 (gx_AB true E K.s.heap.size) t → K.Q t) : gx_G K E (gx_AB true E K.s.heap.size) 0 0 x 17 [(0, .ref (gx_ad E 25)), (2, .int v2)] [] := by
  unfold j_Search_tryThing_17 at hf
  refine gx_aload_n C 0 d_Search_tryThing_17 rfl rfl ?_
  refine gx_iload_n C 1 d_Search_tryThing_18 rfl rfl ?_
  obtain ⟨r2, x2, hc2, hf⟩ := gx_bd_some hf
  refine gx_cVv (n2 := 0) (k2 := 0) C (As := [.int v2]) (rest := []) 25 1 (c_Search_judge K.l v2 x _ hc2) (Or.inl rfl) rfl (gx_goodV gw_540 gw_542 gs_6 gw_8 gw_543) (by decide +kernel) (gx_w25 E _) rfl (by rw [hR]; constructor <;> (simp only []; omega)) rfl rfl (Nat.le_of_ble_eq_true rfl) d_Search_tryThing_19 (by rw [hR]; exact ⟨Nat.le_refl 0, Nat.le_refl 0⟩) rfl rfl ?_
  refine gx_iconst C (v := 1) d_Search_tryThing_22 (by decide) ?_
  cases hf
  exact gx_zret C hr hlk hk (by decide) d_Search_tryThing_23
set_option maxHeartbeats 4000000 in
set_option maxRecDepth 100000 in
theorem sc_Search_tryThing_26 {K : gx_K} {E : gx_E} {n0 : Nat} (C : gx_C K E "CaseLayout$Search" prog_7_method_6_code 5) (hR : K.R = (rm_Search_tryThing (n0 + 1))) (hr : K.meth.sig.returnType = (some .boolean)) (hlk : K.meth.locks = false) (rec : Int32 → Int32 → gx_S → Option (Int32 × gx_S)) (hrec : ∀ (a1 : Int32) (a2 : Int32) (x : gx_S) (o : Int32 × gx_S), rec a1 a2 x = some o → gx_Mi true K.l y_Search_tryThing prog_7_method_6_code 5 (some .boolean) (rm_Search_tryThing n0) (fun E => [.ref (gx_ad E 25), .int a1, .int a2]) x o.1 o.2) (v1 : Int32) (v2 : Int32) (a : Int32 × gx_S) (o : (Int32 × gx_S) ⊕ (Nat × Int32 × gx_S)) (hf : s_Search_tryThing_26 rec v1 v2 a = some o) (hk : gx_or (pp_Search_tryThing_26 K E v1 v2) (pq_Search_tryThing_26 K E v1 v2) o) : pp_Search_tryThing_26 K E v1 v2 a := by
  unfold s_Search_tryThing_26 at hf
  unfold pp_Search_tryThing_26
  refine gx_iload_n C 3 d_Search_tryThing_26 rfl rfl ?_
  refine gx_aload_n C 0 d_Search_tryThing_27 rfl rfl ?_
  refine gx_get C iw_Search 25 (gx_w25 E _) rfl 8 (by decide) gw_215 rfl rfl d_Search_tryThing_28 ?_
  refine gx_iload_n C 1 d_Search_tryThing_31 rfl rfl ?_
  obtain ⟨hi4, hf⟩ := gx_ck_some hf
  refine gx_iald C 27 0 (gx_w27 E _) rfl hi4 d_Search_tryThing_32 ?_
  refine gx_icmp_ge (tgt := 133) C d_Search_tryThing_33 (by decide) (fun h5 => ?_) (fun h5 => ?_)
  · have hf := (if_pos h5).symm.trans hf
    cases hf
    have hk : pq_Search_tryThing_26 K E v1 v2 _ := hk
    unfold pq_Search_tryThing_26 at hk
    have hk := gx_ifn (by decide : ¬ ((2 : Nat) = 0)) hk
    have hk := gx_ifn (by decide : ¬ ((2 : Nat) = 1)) hk
    refine gx_lv (lv' := []) [] rfl ?_
    exact hk
  · have hf := (if_neg h5).symm.trans hf
    refine gx_aload_n C 0 d_Search_tryThing_36 rfl rfl ?_
    refine gx_get C iw_Search 25 (gx_w25 E _) rfl 7 (by decide) gw_214 rfl rfl d_Search_tryThing_37 ?_
    refine gx_iload_n C 1 d_Search_tryThing_40 rfl rfl ?_
    refine gx_bipush C (v := 81) d_Search_tryThing_41 (by decide) ?_
    refine gx_imul C d_Search_tryThing_43 ?_
    refine gx_iload_n C 3 d_Search_tryThing_44 rfl rfl ?_
    refine gx_iadd C d_Search_tryThing_45 ?_
    obtain ⟨hi6, hf⟩ := gx_ck_some hf
    refine gx_iald C 26 0 (gx_w26 E _) rfl hi6 d_Search_tryThing_46 ?_
    refine gx_istore C (lv' := [(4, .int (gx_gA a.2 18 ((v1 * 81) + a.1 : Int32).toNatClampNeg)), (0, .ref (gx_ad E 25)), (1, .int v1), (2, .int v2), (3, .int a.1)]) d_Search_tryThing_47 (by decide) rfl ?_
    refine gx_aload_n C 1 d_Search_tryThing_49 rfl rfl ?_
    refine gx_get C iw_Search 25 (gx_w25 E _) rfl 5 (by decide) gw_211 rfl rfl d_Search_tryThing_50 ?_
    refine gx_getN C iw_Layout 19 (gx_w19 E _) rfl 1 (by decide) gn_193 rfl rfl d_Search_tryThing_53 ?_
    refine gx_iload_n C 2 d_Search_tryThing_56 rfl rfl ?_
    refine gx_iload C 0 d_Search_tryThing_57 rfl ?_
    refine gx_bipush C (v := 9) d_Search_tryThing_59 (by decide) ?_
    refine gx_irem C d_Search_tryThing_61 (by decide) ?_
    obtain ⟨hi7, hf⟩ := gx_ck_some hf
    refine gx_iast C (x' := gx_sA a.2 14 (v1 : Int32).toNatClampNeg ((gx_gA a.2 18 ((v1 * 81) + a.1 : Int32).toNatClampNeg) - (gx_gA a.2 18 ((v1 * 81) + a.1 : Int32).toNatClampNeg) / 9 * 9)) 20 0 (gx_w20 E _) rfl hi7 (gx_q20 E _ _ _) d_Search_tryThing_62 ?_
    refine gx_aload_n C 1 d_Search_tryThing_63 rfl rfl ?_
    refine gx_get C iw_Search 25 (gx_w25 E _) rfl 5 (by decide) gw_211 rfl rfl d_Search_tryThing_64 ?_
    refine gx_getN C iw_Layout 19 (gx_w19 E _) rfl 2 (by decide) gn_197 rfl rfl d_Search_tryThing_67 ?_
    refine gx_iload_n C 2 d_Search_tryThing_70 rfl rfl ?_
    refine gx_iload C 0 d_Search_tryThing_71 rfl ?_
    refine gx_bipush C (v := 9) d_Search_tryThing_73 (by decide) ?_
    refine gx_idiv C d_Search_tryThing_75 (by decide) ?_
    obtain ⟨hi8, hf⟩ := gx_ck_some hf
    refine gx_iast C (x' := gx_sA (gx_sA a.2 14 (v1 : Int32).toNatClampNeg ((gx_gA a.2 18 ((v1 * 81) + a.1 : Int32).toNatClampNeg) - (gx_gA a.2 18 ((v1 * 81) + a.1 : Int32).toNatClampNeg) / 9 * 9)) 15 (v1 : Int32).toNatClampNeg ((gx_gA a.2 18 ((v1 * 81) + a.1 : Int32).toNatClampNeg) / 9)) 21 0 (gx_w21 E _) rfl hi8 (gx_q21 E _ _ _) d_Search_tryThing_76 ?_
    refine gx_aload_n C 1 d_Search_tryThing_77 rfl rfl ?_
    refine gx_iload_n C 2 d_Search_tryThing_78 rfl rfl ?_
    obtain ⟨r9, x9, hc9, hf⟩ := gx_bd_some hf
    refine gx_cVi (n2 := 0) (k2 := 0) C (As := [.int v1]) (rest := []) 25 1 (c_Search_keepsApart K.l v1 (gx_sA (gx_sA a.2 14 (v1 : Int32).toNatClampNeg ((gx_gA a.2 18 ((v1 * 81) + a.1 : Int32).toNatClampNeg) - (gx_gA a.2 18 ((v1 * 81) + a.1 : Int32).toNatClampNeg) / 9 * 9)) 15 (v1 : Int32).toNatClampNeg ((gx_gA a.2 18 ((v1 * 81) + a.1 : Int32).toNatClampNeg) / 9)) _ hc9) (Or.inl rfl) rfl (gx_goodV gw_605 gw_607 gs_13 gw_8 gw_608) (by decide +kernel) (gx_w25 E _) rfl (by rw [hR]; constructor <;> (simp only []; omega)) rfl rfl (Nat.le_of_ble_eq_true rfl) d_Search_tryThing_79 (by rw [hR]; exact ⟨Nat.le_refl 0, Nat.le_refl 0⟩) rfl rfl ?_
    refine gx_if_eq (tgt := 127) C d_Search_tryThing_82 (by decide) (fun h10 => ?_) (fun h10 => ?_)
    · have hf := (if_pos h10).symm.trans hf
      refine gx_iinc C (v := a.1 + 1) (lv' := [(3, .int (a.1 + 1)), (4, .int (gx_gA a.2 18 ((v1 * 81) + a.1 : Int32).toNatClampNeg)), (0, .ref (gx_ad E 25)), (1, .int v1), (2, .int v2)]) 4 d_Search_tryThing_127 rfl rfl (by decide) rfl ?_
      refine gx_goto (tgt := 26) C d_Search_tryThing_130 (by decide) ?_
      cases hf
      refine gx_lv (lv' := [(0, .ref (gx_ad E 25)), (1, .int v1), (2, .int v2), (3, .int (a.1 + 1))]) [2, 3, 4, 0] rfl ?_
      exact hk
    · have hf := (if_neg h10).symm.trans hf
      refine gx_aload_n C 1 d_Search_tryThing_85 rfl rfl ?_
      refine gx_get C iw_Search 25 (gx_w25 E _) rfl 10 (by decide) gw_217 rfl rfl d_Search_tryThing_86 ?_
      refine gx_aload_n C 1 d_Search_tryThing_89 rfl rfl ?_
      refine gx_get C iw_Search 25 (gx_w25 E _) rfl 9 (by decide) gw_216 rfl rfl d_Search_tryThing_90 ?_
      refine gx_icmp_lt (tgt := 98) C d_Search_tryThing_93 (by decide) (fun h11 => ?_) (fun h11 => ?_)
      · have hf := (if_pos h11).symm.trans hf
        refine gx_aload_n C 1 d_Search_tryThing_98 rfl rfl ?_
        refine gx_dup C d_Search_tryThing_99 rfl ?_
        refine gx_get C iw_Search 25 (gx_w25 E _) rfl 10 (by decide) gw_217 rfl rfl d_Search_tryThing_100 ?_
        refine gx_iconst C (v := 1) d_Search_tryThing_103 (by decide) ?_
        refine gx_iadd C d_Search_tryThing_104 ?_
        refine gx_put C (ty := .int) (x' := gx_sI x9 9 ((gx_gI x9 9) + 1)) iw_Search ty_Search tk_Search tn_Search 25 (gx_w25 E _) rfl 10 (by decide) gw_217 rfl rfl (by decide +kernel) rfl rfl (Nat.le_of_ble_eq_true rfl) (gx_p25_10 E _ _) d_Search_tryThing_105 ?_
        refine gx_aload_n C 1 d_Search_tryThing_108 rfl rfl ?_
        refine gx_iload_n C 2 d_Search_tryThing_109 rfl rfl ?_
        refine gx_iconst C (v := 1) d_Search_tryThing_110 (by decide) ?_
        refine gx_iadd C d_Search_tryThing_111 ?_
        refine gx_iload_n C 3 d_Search_tryThing_112 rfl rfl ?_
        refine gx_aload_n C 1 d_Search_tryThing_113 rfl rfl ?_
        refine gx_iload_n C 2 d_Search_tryThing_114 rfl rfl ?_
        obtain ⟨r12, x12, hc12, hf⟩ := gx_bd_some hf
        refine gx_cVi (n2 := 0) (k2 := 0) C (As := [.int v1]) (rest := [.int v2, .int (v1 + 1), .ref (gx_ad E 25)]) 25 1 (c_Search_gainOf K.l v1 (gx_sI x9 9 ((gx_gI x9 9) + 1)) _ hc12) (Or.inl rfl) rfl (gx_goodV gw_618 gw_620 gs_14 gw_8 gw_621) (by decide +kernel) (gx_w25 E _) rfl (by rw [hR]; constructor <;> (simp only []; omega)) rfl rfl (Nat.le_of_ble_eq_true rfl) d_Search_tryThing_115 (by rw [hR]; exact ⟨Nat.le_refl 0, Nat.le_refl 0⟩) rfl rfl ?_
        refine gx_iadd C d_Search_tryThing_118 ?_
        obtain ⟨r13, x13, hc13, hf⟩ := gx_bd_some hf
        refine gx_cVi (n2 := 0) (k2 := 0) C (As := [.int (v1 + 1), .int (v2 + r12)]) (rest := []) 25 2 (hrec (v1 + 1) (v2 + r12) x12 _ hc13) (Or.inl rfl) rfl (gx_goodV gw_622 gw_537 gw_538 gw_8 gw_539) (by decide +kernel) (gx_w25 E _) rfl (by rw [hR]; constructor <;> (simp only []; omega)) rfl rfl (Nat.le_of_ble_eq_true rfl) d_Search_tryThing_119 (by rw [hR]; exact ⟨Nat.le_refl 0, Nat.le_refl 0⟩) rfl rfl ?_
        refine gx_if_ne (tgt := 127) C d_Search_tryThing_122 (by decide) (fun h14 => ?_) (fun h14 => ?_)
        · have hf := (if_neg h14).symm.trans hf
          refine gx_iinc C (v := a.1 + 1) (lv' := [(3, .int (a.1 + 1)), (4, .int (gx_gA a.2 18 ((v1 * 81) + a.1 : Int32).toNatClampNeg)), (0, .ref (gx_ad E 25)), (1, .int v1), (2, .int v2)]) 4 d_Search_tryThing_127 rfl rfl (by decide) rfl ?_
          refine gx_goto (tgt := 26) C d_Search_tryThing_130 (by decide) ?_
          cases hf
          refine gx_lv (lv' := [(0, .ref (gx_ad E 25)), (1, .int v1), (2, .int v2), (3, .int (a.1 + 1))]) [2, 3, 4, 0] rfl ?_
          exact hk
        · have hf := (if_pos h14).symm.trans hf
          cases hf
          have hk : pq_Search_tryThing_26 K E v1 v2 _ := hk
          unfold pq_Search_tryThing_26 at hk
          have hk := gx_ifn (by decide : ¬ ((1 : Nat) = 0)) hk
          have hk := gx_ifp (rfl : (1 : Nat) = 1) hk
          refine gx_lv (lv' := []) [] rfl ?_
          exact hk
      · have hf := (if_neg h11).symm.trans hf
        cases hf
        have hk : pq_Search_tryThing_26 K E v1 v2 _ := hk
        unfold pq_Search_tryThing_26 at hk
        have hk := gx_ifp (rfl : (0 : Nat) = 0) hk
        refine gx_lv (lv' := []) [] rfl ?_
        exact hk
set_option maxHeartbeats 4000000 in
set_option maxRecDepth 100000 in
theorem c_Search_tryThing (l : Launch) : ∀ (n : Nat) (a1 : Int32) (a2 : Int32) (x : gx_S) (o : Int32 × gx_S) (hf : f_Search_tryThing n a1 a2 x = some o), gx_Mi true l y_Search_tryThing prog_7_method_6_code 5 (some .boolean) (rm_Search_tryThing n) (fun E => [.ref (gx_ad E 25), .int a1, .int a2]) x o.1 o.2 := by
  intro n
  induction n with
  | zero => intro a1 a2 x o hf; cases hf
  | succ n0 ih =>
    intro a1 a2 x o hf
    have hf : F_Search_tryThing (f_Search_tryThing n0) a1 a2 x = some o := hf
    revert ih hf
    generalize f_Search_tryThing n0 = rec
    intro ih hf
    refine gx_meti (own := "CaseLayout$Search") (by decide) rfl (fun E => Nat.le_of_ble_eq_true rfl) (fun K E hl0 hR hr hlk hk C => ?_)
    subst hl0
    have hrec := ih
    unfold F_Search_tryThing at hf
    show gx_G K E _ 0 0 x 0 [(0, .ref (gx_ad E 25)), (1, .int a1), (2, .int a2)] []
    refine gx_iload_n C 1 d_Search_tryThing_0 rfl rfl ?_
    refine gx_aload_n C 0 d_Search_tryThing_1 rfl rfl ?_
    refine gx_get C iw_Search 25 (gx_w25 E _) rfl 1 (by decide) gw_207 rfl rfl d_Search_tryThing_2 ?_
    refine gx_getN C iw_Things 3 (gx_w3 E _) rfl 5 (by decide) gn_91 rfl rfl d_Search_tryThing_5 ?_
    refine gx_icmp_ge (tgt := 17) C d_Search_tryThing_8 (by decide) (fun h1 => ?_) (fun h1 => ?_)
    · have hf := (if_pos h1).symm.trans hf
      refine gx_lv (lv' := [(0, .ref (gx_ad E 25)), (2, .int a2)]) [0, 2] rfl ?_
      exact jc_Search_tryThing_17 C hR hr hlk rec hrec a2  x _ hf hk
    · have hf := (if_neg h1).symm.trans hf
      refine gx_iload_n C 1 d_Search_tryThing_11 rfl rfl ?_
      refine gx_bipush C (v := 7) d_Search_tryThing_12 (by decide) ?_
      refine gx_icmp_lt (tgt := 24) C d_Search_tryThing_14 (by decide) (fun h3 => ?_) (fun h3 => ?_)
      · have hf := (if_pos h3).symm.trans hf
        refine gx_iconst C (v := 0) d_Search_tryThing_24 (by decide) ?_
        refine gx_istore_n C (lv' := [(3, .int 0), (0, .ref (gx_ad E 25)), (1, .int a1), (2, .int a2)]) d_Search_tryThing_25 rfl (by decide) rfl ?_
        refine gx_lv (lv' := [(0, .ref (gx_ad E 25)), (1, .int a1), (2, .int a2), (3, .int 0)]) [1, 2, 3, 0] rfl ?_
        obtain ⟨e15, he15, hf⟩ := gx_bl_some hf
        refine (gx_loop (P := pp_Search_tryThing_26 K E a1 a2) (Q := pq_Search_tryThing_26 K E a1 a2) (fun a9 o9 h1 h2 => sc_Search_tryThing_26 C hR hr hlk rec hrec a1 a2 a9 o9 h1 h2) gx_fuel (0, x) e15 he15 ?_ : pp_Search_tryThing_26 K E a1 a2 (0, x))
        unfold pq_Search_tryThing_26
        by_cases ht16 : e15.1 = 0
        · rw [if_pos ht16]
          have hf := (if_pos ht16).symm.trans hf
          refine gx_iconst C (v := 0) d_Search_tryThing_96 (by decide) ?_
          cases hf
          exact gx_zret C hr hlk hk (by decide) d_Search_tryThing_97
        · rw [if_neg ht16]
          have hf := (if_neg ht16).symm.trans hf
          by_cases ht17 : e15.1 = 1
          · rw [if_pos ht17]
            have hf := (if_pos ht17).symm.trans hf
            refine gx_iconst C (v := 0) d_Search_tryThing_125 (by decide) ?_
            cases hf
            exact gx_zret C hr hlk hk (by decide) d_Search_tryThing_126
          · rw [if_neg ht17]
            have hf := (if_neg ht17).symm.trans hf
            refine gx_iconst C (v := 1) d_Search_tryThing_133 (by decide) ?_
            cases hf
            exact gx_zret C hr hlk hk (by decide) d_Search_tryThing_134
      · have hf := (if_neg h3).symm.trans hf
        refine gx_lv (lv' := [(0, .ref (gx_ad E 25)), (2, .int a2)]) [0, 2] rfl ?_
        exact jc_Search_tryThing_17 C hR hr hlk rec hrec a2  x _ hf hk
