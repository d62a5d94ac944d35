def f_Layout_between (a0 : Int32) (a1 : Int32) (a2 : Int32) (a3 : Int32) (x : gx_S) : Option (Int32 × gx_S) :=
  some (if ((a2 - a0) - a1) < ((a0 - a2) - a3) then ((a0 - a2) - a3) else ((a2 - a0) - a1), x)
abbrev rm_Layout_between : Room := { frames := 1, cells := 0, slots := 0, locals := 13 }
set_option maxHeartbeats 4000000 in
set_option maxRecDepth 100000 in
theorem c_Layout_between (l : Launch) (a0 : Int32) (a1 : Int32) (a2 : Int32) (a3 : Int32) (x : gx_S) (o : Int32 × gx_S) (hf : f_Layout_between a0 a1 a2 a3 x = some o) : gx_Mi false l y_Layout_between prog_5_method_4_code 4 (some .int) rm_Layout_between (fun E => [.int a0, .int a1, .int a2, .int a3]) x o.1 o.2 := by
  refine gx_meti (own := "CaseLayout$Layout") (by decide) rfl (fun E => Nat.le_of_ble_eq_true rfl) (fun K E hl0 hR hr hlk hk C => ?_)
  subst hl0
  unfold f_Layout_between at hf
  show gx_G K E _ 0 0 x 0 [(0, .int a0), (1, .int a1), (2, .int a2), (3, .int a3)] []
  refine gx_iload_n C 2 d_Layout_between_0 rfl rfl ?_
  refine gx_iload_n C 0 d_Layout_between_1 rfl rfl ?_
  refine gx_isub C d_Layout_between_2 ?_
  refine gx_iload_n C 1 d_Layout_between_3 rfl rfl ?_
  refine gx_isub C d_Layout_between_4 ?_
  refine gx_iload_n C 0 d_Layout_between_5 rfl rfl ?_
  refine gx_iload_n C 2 d_Layout_between_6 rfl rfl ?_
  refine gx_isub C d_Layout_between_7 ?_
  refine gx_iload_n C 3 d_Layout_between_8 rfl rfl ?_
  refine gx_isub C d_Layout_between_9 ?_
  refine gx_mmax C gw_616 gw_36 gw_3 gw_37 (by rw [hR]; decide) (by rw [hR]; exact Nat.le_of_ble_eq_true rfl) (by rw [hR]; decide) (by rw [hR]; decide) d_Layout_between_10 ?_
  cases hf
  exact gx_iret C hr hlk hk d_Layout_between_13

def f_Layout_gapOf (a1 : Int32) (a2 : Int32) (x : gx_S) : Option (Int32 × gx_S) :=
  gx_ck a1 7 (gx_ck a1 7 (gx_ck a2 7 (gx_ck a2 7 (gx_bd (f_Layout_between (gx_gA x 14 (a1 : Int32).toNatClampNeg) (gx_gA x 2 (a1 : Int32).toNatClampNeg) (gx_gA x 14 (a2 : Int32).toNatClampNeg) (gx_gA x 2 (a2 : Int32).toNatClampNeg) x) (fun r5 x5 => gx_ck a1 7 (gx_ck a1 7 (gx_ck a2 7 (gx_ck a2 7 (gx_bd (f_Layout_between (gx_gA x5 15 (a1 : Int32).toNatClampNeg) (gx_gA x5 3 (a1 : Int32).toNatClampNeg) (gx_gA x5 15 (a2 : Int32).toNatClampNeg) (gx_gA x5 3 (a2 : Int32).toNatClampNeg) x5) (fun r10 x10 => some (if r5 < r10 then r10 else r5, x10)))))))))))
abbrev rm_Layout_gapOf : Room := { frames := 2, cells := 0, slots := 0, locals := 36 }
set_option maxHeartbeats 4000000 in
set_option maxRecDepth 100000 in
theorem c_Layout_gapOf (l : Launch) (a1 : Int32) (a2 : Int32) (x : gx_S) (o : Int32 × gx_S) (hf : f_Layout_gapOf a1 a2 x = some o) : gx_Mi false l y_Layout_gapOf prog_5_method_2_code 5 (some .int) rm_Layout_gapOf (fun E => [.ref (gx_ad E 19), .int a1, .int a2]) x o.1 o.2 := by
  refine gx_meti (own := "CaseLayout$Layout") (by decide) rfl (fun E => Nat.le_of_ble_eq_true rfl) (fun K E hl0 hR hr hlk hk C => ?_)
  subst hl0
  unfold f_Layout_gapOf at hf
  show gx_G K E _ 0 0 x 0 [(0, .ref (gx_ad E 19)), (1, .int a1), (2, .int a2)] []
  refine gx_aload_n C 0 d_Layout_gapOf_0 rfl rfl ?_
  refine gx_get C iw_Layout 19 (gx_w19 E _) rfl 1 (by decide) gw_191 rfl rfl d_Layout_gapOf_1 ?_
  refine gx_iload_n C 1 d_Layout_gapOf_4 rfl rfl ?_
  obtain ⟨hi1, hf⟩ := gx_ck_some hf
  refine gx_iald C 20 0 (gx_w20 E _) rfl hi1 d_Layout_gapOf_5 ?_
  refine gx_aload_n C 0 d_Layout_gapOf_6 rfl rfl ?_
  refine gx_get C iw_Layout 19 (gx_w19 E _) rfl 0 (by decide) gw_189 rfl rfl d_Layout_gapOf_7 ?_
  refine gx_getN C iw_Things 3 (gx_w3 E _) rfl 0 (by decide) gn_73 rfl rfl d_Layout_gapOf_10 ?_
  refine gx_iload_n C 1 d_Layout_gapOf_13 rfl rfl ?_
  obtain ⟨hi2, hf⟩ := gx_ck_some hf
  refine gx_iald C 4 0 (gx_w4 E _) rfl hi2 d_Layout_gapOf_14 ?_
  refine gx_aload_n C 0 d_Layout_gapOf_15 rfl rfl ?_
  refine gx_get C iw_Layout 19 (gx_w19 E _) rfl 1 (by decide) gw_191 rfl rfl d_Layout_gapOf_16 ?_
  refine gx_iload_n C 2 d_Layout_gapOf_19 rfl rfl ?_
  obtain ⟨hi3, hf⟩ := gx_ck_some hf
  refine gx_iald C 20 0 (gx_w20 E _) rfl hi3 d_Layout_gapOf_20 ?_
  refine gx_aload_n C 0 d_Layout_gapOf_21 rfl rfl ?_
  refine gx_get C iw_Layout 19 (gx_w19 E _) rfl 0 (by decide) gw_189 rfl rfl d_Layout_gapOf_22 ?_
  refine gx_getN C iw_Things 3 (gx_w3 E _) rfl 0 (by decide) gn_73 rfl rfl d_Layout_gapOf_25 ?_
  refine gx_iload_n C 2 d_Layout_gapOf_28 rfl rfl ?_
  obtain ⟨hi4, hf⟩ := gx_ck_some hf
  refine gx_iald C 4 0 (gx_w4 E _) rfl hi4 d_Layout_gapOf_29 ?_
  obtain ⟨r5, x5, hc5, hf⟩ := gx_bd_some hf
  refine gx_cSi (n2 := 0) (k2 := 0) C (As := [.int (gx_gA x 14 (a1 : Int32).toNatClampNeg), .int (gx_gA x 2 (a1 : Int32).toNatClampNeg), .int (gx_gA x 14 (a2 : Int32).toNatClampNeg), .int (gx_gA x 2 (a2 : Int32).toNatClampNeg)]) (rest := []) 4 (c_Layout_between K.l (gx_gA x 14 (a1 : Int32).toNatClampNeg) (gx_gA x 2 (a1 : Int32).toNatClampNeg) (gx_gA x 14 (a2 : Int32).toNatClampNeg) (gx_gA x 2 (a2 : Int32).toNatClampNeg) x _ hc5) (Or.inr rfl) rfl (gx_goodS gw_613 gw_614 gw_9 gw_615) (by decide +kernel) (by rw [hR]; decide) rfl rfl (Nat.le_of_ble_eq_true rfl) d_Layout_gapOf_30 (by rw [hR]; decide) rfl rfl ?_
  refine gx_istore_n C (lv' := [(3, .int r5), (0, .ref (gx_ad E 19)), (1, .int a1), (2, .int a2)]) d_Layout_gapOf_33 rfl (by decide) rfl ?_
  refine gx_aload_n C 1 d_Layout_gapOf_34 rfl rfl ?_
  refine gx_get C iw_Layout 19 (gx_w19 E _) rfl 2 (by decide) gw_195 rfl rfl d_Layout_gapOf_35 ?_
  refine gx_iload_n C 2 d_Layout_gapOf_38 rfl rfl ?_
  obtain ⟨hi6, hf⟩ := gx_ck_some hf
  refine gx_iald C 21 0 (gx_w21 E _) rfl hi6 d_Layout_gapOf_39 ?_
  refine gx_aload_n C 1 d_Layout_gapOf_40 rfl rfl ?_
  refine gx_get C iw_Layout 19 (gx_w19 E _) rfl 0 (by decide) gw_189 rfl rfl d_Layout_gapOf_41 ?_
  refine gx_getN C iw_Things 3 (gx_w3 E _) rfl 1 (by decide) gn_77 rfl rfl d_Layout_gapOf_44 ?_
  refine gx_iload_n C 2 d_Layout_gapOf_47 rfl rfl ?_
  obtain ⟨hi7, hf⟩ := gx_ck_some hf
  refine gx_iald C 5 0 (gx_w5 E _) rfl hi7 d_Layout_gapOf_48 ?_
  refine gx_aload_n C 1 d_Layout_gapOf_49 rfl rfl ?_
  refine gx_get C iw_Layout 19 (gx_w19 E _) rfl 2 (by decide) gw_195 rfl rfl d_Layout_gapOf_50 ?_
  refine gx_iload_n C 3 d_Layout_gapOf_53 rfl rfl ?_
  obtain ⟨hi8, hf⟩ := gx_ck_some hf
  refine gx_iald C 21 0 (gx_w21 E _) rfl hi8 d_Layout_gapOf_54 ?_
  refine gx_aload_n C 1 d_Layout_gapOf_55 rfl rfl ?_
  refine gx_get C iw_Layout 19 (gx_w19 E _) rfl 0 (by decide) gw_189 rfl rfl d_Layout_gapOf_56 ?_
  refine gx_getN C iw_Things 3 (gx_w3 E _) rfl 1 (by decide) gn_77 rfl rfl d_Layout_gapOf_59 ?_
  refine gx_iload_n C 3 d_Layout_gapOf_62 rfl rfl ?_
  obtain ⟨hi9, hf⟩ := gx_ck_some hf
  refine gx_iald C 5 0 (gx_w5 E _) rfl hi9 d_Layout_gapOf_63 ?_
  obtain ⟨r10, x10, hc10, hf⟩ := gx_bd_some hf
  refine gx_cSi (n2 := 0) (k2 := 0) C (As := [.int (gx_gA x5 15 (a1 : Int32).toNatClampNeg), .int (gx_gA x5 3 (a1 : Int32).toNatClampNeg), .int (gx_gA x5 15 (a2 : Int32).toNatClampNeg), .int (gx_gA x5 3 (a2 : Int32).toNatClampNeg)]) (rest := []) 4 (c_Layout_between K.l (gx_gA x5 15 (a1 : Int32).toNatClampNeg) (gx_gA x5 3 (a1 : Int32).toNatClampNeg) (gx_gA x5 15 (a2 : Int32).toNatClampNeg) (gx_gA x5 3 (a2 : Int32).toNatClampNeg) x5 _ hc10) (Or.inr rfl) rfl (gx_goodS gw_613 gw_614 gw_9 gw_615) (by decide +kernel) (by rw [hR]; decide) rfl rfl (Nat.le_of_ble_eq_true rfl) d_Layout_gapOf_64 (by rw [hR]; decide) rfl rfl ?_
  refine gx_istore C (lv' := [(4, .int r10), (3, .int r5), (0, .ref (gx_ad E 19)), (1, .int a1), (2, .int a2)]) d_Layout_gapOf_67 (by decide) rfl ?_
  refine gx_iload_n C 1 d_Layout_gapOf_69 rfl rfl ?_
  refine gx_iload C 0 d_Layout_gapOf_70 rfl ?_
  refine gx_mmax C gw_616 gw_36 gw_3 gw_37 (by rw [hR]; decide) (by rw [hR]; exact Nat.le_of_ble_eq_true rfl) (by rw [hR]; decide) (by rw [hR]; decide) d_Layout_gapOf_72 ?_
  cases hf
  exact gx_iret C hr hlk hk d_Layout_gapOf_75

def f_CaseLayout_pairOf (a0 : Int32) (a1 : Int32) (x : gx_S) : Option (Int32 × gx_S) :=
  some ((a0 * 7) + a1, x)
abbrev rm_CaseLayout_pairOf : Room := { frames := 0, cells := 0, slots := 0, locals := 0 }
set_option maxHeartbeats 4000000 in
set_option maxRecDepth 100000 in
theorem c_CaseLayout_pairOf (l : Launch) (a0 : Int32) (a1 : Int32) (x : gx_S) (o : Int32 × gx_S) (hf : f_CaseLayout_pairOf a0 a1 x = some o) : gx_Mi false l y_CaseLayout_pairOf prog_1_method_26_code 2 (some .int) rm_CaseLayout_pairOf (fun E => [.int a0, .int a1]) x o.1 o.2 := by
  refine gx_meti (own := "CaseLayout") (by decide) rfl (fun E => Nat.le_of_ble_eq_true rfl) (fun K E hl0 hR hr hlk hk C => ?_)
  subst hl0
  unfold f_CaseLayout_pairOf at hf
  show gx_G K E _ 0 0 x 0 [(0, .int a0), (1, .int a1)] []
  refine gx_iload_n C 0 d_CaseLayout_pairOf_0 rfl rfl ?_
  refine gx_bipush C (v := 7) d_CaseLayout_pairOf_1 (by decide) ?_
  refine gx_imul C d_CaseLayout_pairOf_3 ?_
  refine gx_iload_n C 1 d_CaseLayout_pairOf_4 rfl rfl ?_
  refine gx_iadd C d_CaseLayout_pairOf_5 ?_
  cases hf
  exact gx_iret C hr hlk hk d_CaseLayout_pairOf_6

def s_Search_keepsApart_2 (v1 : Int32) (a : Int32 × gx_S) : Option ((Int32 × gx_S) ⊕ (Nat × Int32 × gx_S)) :=
  if v1 ≤ a.1 then (some (.inr (1, a.1, a.2))) else (gx_bd (f_Layout_gapOf v1 a.1 a.2) (fun r2 x2 => gx_bd (f_CaseLayout_pairOf v1 a.1 x2) (fun r3 x3 => gx_ck r3 49 (if (gx_gA x3 5 (r3 : Int32).toNatClampNeg) ≤ r2 then (some (.inl (a.1 + 1, x3))) else (some (.inr (0, a.1, x3)))))))
def f_Search_keepsApart (a1 : Int32) (x : gx_S) : Option (Int32 × gx_S) :=
  gx_bl (gx_it (s_Search_keepsApart_2 a1) gx_fuel (0, x)) (fun e6 => if e6.1 = 0 then (some (0, e6.2.2)) else (some (1, e6.2.2)))
abbrev rm_Search_keepsApart : Room := { frames := 3, cells := 0, slots := 0, locals := 60 }
def pp_Search_keepsApart_2 (K : gx_K) (E : gx_E) (v1 : Int32) (a : Int32 × gx_S) : Prop := gx_G K E (gx_AB false E K.s.heap.size) 0 0 (a.2) 2 [(0, .ref (gx_ad E 25)), (1, .int v1), (2, .int a.1)] []
def pq_Search_keepsApart_2 (K : gx_K) (E : gx_E) (v1 : Int32) (b : Nat × Int32 × gx_S) : Prop := if b.1 = 0 then gx_G K E (gx_AB false E K.s.heap.size) 0 0 (b.2.2) 32 [] [] else (gx_G K E (gx_AB false E K.s.heap.size) 0 0 (b.2.2) 40 [] [])
set_option maxHeartbeats 4000000 in
set_option maxRecDepth 100000 in
theorem sc_Search_keepsApart_2 {K : gx_K} {E : gx_E} (C : gx_C K E "CaseLayout$Search" prog_7_method_7_code 3) (hR : K.R = rm_Search_keepsApart) (hr : K.meth.sig.returnType = (some .boolean)) (hlk : K.meth.locks = false) (v1 : Int32) (a : Int32 × gx_S) (o : (Int32 × gx_S) ⊕ (Nat × Int32 × gx_S)) (hf : s_Search_keepsApart_2 v1 a = some o) (hk : gx_or (pp_Search_keepsApart_2 K E v1) (pq_Search_keepsApart_2 K E v1) o) : pp_Search_keepsApart_2 K E v1 a := by
  unfold s_Search_keepsApart_2 at hf
  unfold pp_Search_keepsApart_2
  refine gx_iload_n C 2 d_Search_keepsApart_2 rfl rfl ?_
  refine gx_iload_n C 1 d_Search_keepsApart_3 rfl rfl ?_
  refine gx_icmp_ge (tgt := 40) C d_Search_keepsApart_4 (by decide) (fun h1 => ?_) (fun h1 => ?_)
  · have hf := (if_pos h1).symm.trans hf
    cases hf
    have hk : pq_Search_keepsApart_2 K E v1 _ := hk
    unfold pq_Search_keepsApart_2 at hk
    have hk := gx_ifn (by decide : ¬ ((1 : Nat) = 0)) hk
    refine gx_lv (lv' := []) [] rfl ?_
    exact hk
  · have hf := (if_neg h1).symm.trans hf
    refine gx_aload_n C 0 d_Search_keepsApart_7 rfl rfl ?_
    refine gx_get C iw_Search 25 (gx_w25 E _) rfl 5 (by decide) gw_211 rfl rfl d_Search_keepsApart_8 ?_
    refine gx_iload_n C 1 d_Search_keepsApart_11 rfl rfl ?_
    refine gx_iload_n C 2 d_Search_keepsApart_12 rfl rfl ?_
    obtain ⟨r2, x2, hc2, hf⟩ := gx_bd_some hf
    refine gx_cVi (n2 := 0) (k2 := 0) C (As := [.int v1, .int a.1]) (rest := []) 19 2 (c_Layout_gapOf K.l v1 a.1 a.2 _ hc2) (Or.inr rfl) rfl (gx_goodV gw_609 gw_610 gw_611 gw_9 gw_612) (by decide +kernel) (gx_w19 E _) rfl (by rw [hR]; decide) rfl rfl (Nat.le_of_ble_eq_true rfl) d_Search_keepsApart_13 (by rw [hR]; decide) rfl rfl ?_
    refine gx_aload_n C 0 d_Search_keepsApart_16 rfl rfl ?_
    refine gx_get C iw_Search 25 (gx_w25 E _) rfl 1 (by decide) gw_207 rfl rfl d_Search_keepsApart_17 ?_
    refine gx_getN C iw_Things 3 (gx_w3 E _) rfl 3 (by decide) gn_84 rfl rfl d_Search_keepsApart_20 ?_
    refine gx_iload_n C 1 d_Search_keepsApart_23 rfl rfl ?_
    refine gx_iload_n C 2 d_Search_keepsApart_24 rfl rfl ?_
    obtain ⟨r3, x3, hc3, hf⟩ := gx_bd_some hf
    refine gx_cSNi (n2 := 0) (k2 := 0) C (As := [.int v1, .int a.1]) (rest := [.ref (gx_ad E 7), .int r2]) 2 (c_CaseLayout_pairOf K.l v1 a.1 x2 _ hc3) (Or.inr rfl) rfl gw_457 gn_617 gw_1 gw_456 (by decide +kernel) (by rw [hR]; decide) rfl rfl (Nat.le_of_ble_eq_true rfl) d_Search_keepsApart_25 (by rw [hR]; decide) rfl rfl ?_
    obtain ⟨hi4, hf⟩ := gx_ck_some hf
    refine gx_iald C 7 0 (gx_w7 E _) rfl hi4 d_Search_keepsApart_28 ?_
    refine gx_icmp_ge (tgt := 34) C d_Search_keepsApart_29 (by decide) (fun h5 => ?_) (fun h5 => ?_)
    · have hf := (if_pos h5).symm.trans hf
      refine gx_iinc C (v := a.1 + 1) (lv' := [(2, .int (a.1 + 1)), (0, .ref (gx_ad E 25)), (1, .int v1)]) 2 d_Search_keepsApart_34 rfl rfl (by decide) rfl ?_
      refine gx_goto (tgt := 2) C d_Search_keepsApart_37 (by decide) ?_
      cases hf
      refine gx_lv (lv' := [(0, .ref (gx_ad E 25)), (1, .int v1), (2, .int (a.1 + 1))]) [1, 2, 0] rfl ?_
      exact hk
    · have hf := (if_neg h5).symm.trans hf
      cases hf
      have hk : pq_Search_keepsApart_2 K E v1 _ := hk
      unfold pq_Search_keepsApart_2 at hk
      have hk := gx_ifp (rfl : (0 : Nat) = 0) hk
      refine gx_lv (lv' := []) [] rfl ?_
      exact hk
set_option maxHeartbeats 4000000 in
set_option maxRecDepth 100000 in
theorem c_Search_keepsApart (l : Launch) (a1 : Int32) (x : gx_S) (o : Int32 × gx_S) (hf : f_Search_keepsApart a1 x = some o) : gx_Mi false l y_Search_keepsApart prog_7_method_7_code 3 (some .boolean) rm_Search_keepsApart (fun E => [.ref (gx_ad E 25), .int a1]) x o.1 o.2 := by
  refine gx_meti (own := "CaseLayout$Search") (by decide) rfl (fun E => Nat.le_of_ble_eq_true rfl) (fun K E hl0 hR hr hlk hk C => ?_)
  subst hl0
  unfold f_Search_keepsApart at hf
  show gx_G K E _ 0 0 x 0 [(0, .ref (gx_ad E 25)), (1, .int a1)] []
  refine gx_iconst C (v := 0) d_Search_keepsApart_0 (by decide) ?_
  refine gx_istore_n C (lv' := [(2, .int 0), (0, .ref (gx_ad E 25)), (1, .int a1)]) d_Search_keepsApart_1 rfl (by decide) rfl ?_
  refine gx_lv (lv' := [(0, .ref (gx_ad E 25)), (1, .int a1), (2, .int 0)]) [1, 2, 0] rfl ?_
  obtain ⟨e6, he6, hf⟩ := gx_bl_some hf
  refine (gx_loop (P := pp_Search_keepsApart_2 K E a1) (Q := pq_Search_keepsApart_2 K E a1) (fun a9 o9 h1 h2 => sc_Search_keepsApart_2 C hR hr hlk a1 a9 o9 h1 h2) gx_fuel (0, x) e6 he6 ?_ : pp_Search_keepsApart_2 K E a1 (0, x))
  unfold pq_Search_keepsApart_2
  by_cases ht7 : e6.1 = 0
  · rw [if_pos ht7]
    have hf := (if_pos ht7).symm.trans hf
    refine gx_iconst C (v := 0) d_Search_keepsApart_32 (by decide) ?_
    cases hf
    exact gx_zret C hr hlk hk (by decide) d_Search_keepsApart_33
  · rw [if_neg ht7]
    have hf := (if_neg ht7).symm.trans hf
    refine gx_iconst C (v := 1) d_Search_keepsApart_40 (by decide) ?_
    cases hf
    exact gx_zret C hr hlk hk (by decide) d_Search_keepsApart_41

def s_Search_gainOf_4 (v1 : Int32) (a : Int32 × Int32 × gx_S) : Option ((Int32 × Int32 × gx_S) ⊕ (Nat × Int32 × Int32 × gx_S)) :=
  if v1 ≤ a.2.1 then (some (.inr (0, a.1, a.2.1, a.2.2))) else (gx_bd (f_CaseLayout_pairOf v1 a.2.1 a.2.2) (fun r2 x2 => gx_ck r2 49 (if (gx_gA x2 6 (r2 : Int32).toNatClampNeg) = 0 then (some (.inl (a.1, a.2.1 + 1, x2))) else (gx_bd (f_Layout_gapOf v1 a.2.1 x2) (fun r5 x5 => if r5 = 0 then (some (.inl (a.1 + (gx_gA x2 6 (r2 : Int32).toNatClampNeg), a.2.1 + 1, x5))) else (some (.inl (a.1, a.2.1 + 1, x5))))))))
def f_Search_gainOf (a1 : Int32) (x : gx_S) : Option (Int32 × gx_S) :=
  gx_bl (gx_it (s_Search_gainOf_4 a1) gx_fuel (0, 0, x)) (fun e7 => some (e7.2.1, e7.2.2.2))
abbrev rm_Search_gainOf : Room := { frames := 3, cells := 0, slots := 0, locals := 60 }
def pp_Search_gainOf_4 (K : gx_K) (E : gx_E) (v1 : Int32) (a : Int32 × Int32 × gx_S) : Prop := gx_G K E (gx_AB false E K.s.heap.size) 0 0 (a.2.2) 4 [(0, .ref (gx_ad E 25)), (1, .int v1), (2, .int a.1), (3, .int a.2.1)] []
def pq_Search_gainOf_4 (K : gx_K) (E : gx_E) (v1 : Int32) (b : Nat × Int32 × Int32 × gx_S) : Prop := gx_G K E (gx_AB false E K.s.heap.size) 0 0 (b.2.2.2) 52 [(2, .int b.2.1)] []
set_option maxHeartbeats 4000000 in
set_option maxRecDepth 100000 in
theorem sc_Search_gainOf_4 {K : gx_K} {E : gx_E} (C : gx_C K E "CaseLayout$Search" prog_7_method_8_code 5) (hR : K.R = rm_Search_gainOf) (hr : K.meth.sig.returnType = (some .int)) (hlk : K.meth.locks = false) (v1 : Int32) (a : Int32 × Int32 × gx_S) (o : (Int32 × Int32 × gx_S) ⊕ (Nat × Int32 × Int32 × gx_S)) (hf : s_Search_gainOf_4 v1 a = some o) (hk : gx_or (pp_Search_gainOf_4 K E v1) (pq_Search_gainOf_4 K E v1) o) : pp_Search_gainOf_4 K E v1 a := by
  unfold s_Search_gainOf_4 at hf
  unfold pp_Search_gainOf_4
  refine gx_iload_n C 3 d_Search_gainOf_4 rfl rfl ?_
  refine gx_iload_n C 1 d_Search_gainOf_5 rfl rfl ?_
  refine gx_icmp_ge (tgt := 52) C d_Search_gainOf_6 (by decide) (fun h1 => ?_) (fun h1 => ?_)
  · have hf := (if_pos h1).symm.trans hf
    cases hf
    have hk : pq_Search_gainOf_4 K E v1 _ := hk
    unfold pq_Search_gainOf_4 at hk
    refine gx_lv (lv' := [(2, .int a.1)]) [2] rfl ?_
    exact hk
  · have hf := (if_neg h1).symm.trans hf
    refine gx_aload_n C 0 d_Search_gainOf_9 rfl rfl ?_
    refine gx_get C iw_Search 25 (gx_w25 E _) rfl 1 (by decide) gw_207 rfl rfl d_Search_gainOf_10 ?_
    refine gx_getN C iw_Things 3 (gx_w3 E _) rfl 4 (by decide) gn_87 rfl rfl d_Search_gainOf_13 ?_
    refine gx_iload_n C 1 d_Search_gainOf_16 rfl rfl ?_
    refine gx_iload_n C 3 d_Search_gainOf_17 rfl rfl ?_
    obtain ⟨r2, x2, hc2, hf⟩ := gx_bd_some hf
    refine gx_cSNi (n2 := 0) (k2 := 0) C (As := [.int v1, .int a.2.1]) (rest := [.ref (gx_ad E 8)]) 2 (c_CaseLayout_pairOf K.l v1 a.2.1 a.2.2 _ hc2) (Or.inr rfl) rfl gw_457 gn_617 gw_1 gw_456 (by decide +kernel) (by rw [hR]; decide) rfl rfl (Nat.le_of_ble_eq_true rfl) d_Search_gainOf_18 (by rw [hR]; decide) rfl rfl ?_
    obtain ⟨hi3, hf⟩ := gx_ck_some hf
    refine gx_iald C 8 0 (gx_w8 E _) rfl hi3 d_Search_gainOf_21 ?_
    refine gx_istore C (lv' := [(4, .int (gx_gA x2 6 (r2 : Int32).toNatClampNeg)), (0, .ref (gx_ad E 25)), (1, .int v1), (2, .int a.1), (3, .int a.2.1)]) d_Search_gainOf_22 (by decide) rfl ?_
    refine gx_iload C 0 d_Search_gainOf_24 rfl ?_
    refine gx_if_eq (tgt := 46) C d_Search_gainOf_26 (by decide) (fun h4 => ?_) (fun h4 => ?_)
    · have hf := (if_pos h4).symm.trans hf
      refine gx_iinc C (v := a.2.1 + 1) (lv' := [(3, .int (a.2.1 + 1)), (4, .int (gx_gA x2 6 (r2 : Int32).toNatClampNeg)), (0, .ref (gx_ad E 25)), (1, .int v1), (2, .int a.1)]) 4 d_Search_gainOf_46 rfl rfl (by decide) rfl ?_
      refine gx_goto (tgt := 4) C d_Search_gainOf_49 (by decide) ?_
      cases hf
      refine gx_lv (lv' := [(0, .ref (gx_ad E 25)), (1, .int v1), (2, .int a.1), (3, .int (a.2.1 + 1))]) [2, 3, 4, 0] rfl ?_
      exact hk
    · have hf := (if_neg h4).symm.trans hf
      refine gx_aload_n C 1 d_Search_gainOf_29 rfl rfl ?_
      refine gx_get C iw_Search 25 (gx_w25 E _) rfl 5 (by decide) gw_211 rfl rfl d_Search_gainOf_30 ?_
      refine gx_iload_n C 2 d_Search_gainOf_33 rfl rfl ?_
      refine gx_iload_n C 4 d_Search_gainOf_34 rfl rfl ?_
      obtain ⟨r5, x5, hc5, hf⟩ := gx_bd_some hf
      refine gx_cVi (n2 := 0) (k2 := 0) C (As := [.int v1, .int a.2.1]) (rest := []) 19 2 (c_Layout_gapOf K.l v1 a.2.1 x2 _ hc5) (Or.inr rfl) rfl (gx_goodV gw_609 gw_610 gw_611 gw_9 gw_612) (by decide +kernel) (gx_w19 E _) rfl (by rw [hR]; decide) rfl rfl (Nat.le_of_ble_eq_true rfl) d_Search_gainOf_35 (by rw [hR]; decide) rfl rfl ?_
      refine gx_if_ne (tgt := 46) C d_Search_gainOf_38 (by decide) (fun h6 => ?_) (fun h6 => ?_)
      · have hf := (if_neg h6).symm.trans hf
        refine gx_iinc C (v := a.2.1 + 1) (lv' := [(3, .int (a.2.1 + 1)), (4, .int (gx_gA x2 6 (r2 : Int32).toNatClampNeg)), (0, .ref (gx_ad E 25)), (1, .int v1), (2, .int a.1)]) 4 d_Search_gainOf_46 rfl rfl (by decide) rfl ?_
        refine gx_goto (tgt := 4) C d_Search_gainOf_49 (by decide) ?_
        cases hf
        refine gx_lv (lv' := [(0, .ref (gx_ad E 25)), (1, .int v1), (2, .int a.1), (3, .int (a.2.1 + 1))]) [2, 3, 4, 0] rfl ?_
        exact hk
      · have hf := (if_pos h6).symm.trans hf
        refine gx_iload_n C 3 d_Search_gainOf_41 rfl rfl ?_
        refine gx_iload C 0 d_Search_gainOf_42 rfl ?_
        refine gx_iadd C d_Search_gainOf_44 ?_
        refine gx_istore_n C (lv' := [(2, .int (a.1 + (gx_gA x2 6 (r2 : Int32).toNatClampNeg))), (4, .int (gx_gA x2 6 (r2 : Int32).toNatClampNeg)), (0, .ref (gx_ad E 25)), (1, .int v1), (3, .int a.2.1)]) d_Search_gainOf_45 rfl (by decide) rfl ?_
        refine gx_iinc C (v := a.2.1 + 1) (lv' := [(3, .int (a.2.1 + 1)), (2, .int (a.1 + (gx_gA x2 6 (r2 : Int32).toNatClampNeg))), (4, .int (gx_gA x2 6 (r2 : Int32).toNatClampNeg)), (0, .ref (gx_ad E 25)), (1, .int v1)]) 4 d_Search_gainOf_46 rfl rfl (by decide) rfl ?_
        refine gx_goto (tgt := 4) C d_Search_gainOf_49 (by decide) ?_
        cases hf
        refine gx_lv (lv' := [(0, .ref (gx_ad E 25)), (1, .int v1), (2, .int (a.1 + (gx_gA x2 6 (r2 : Int32).toNatClampNeg))), (3, .int (a.2.1 + 1))]) [3, 4, 1, 0] rfl ?_
        exact hk
set_option maxHeartbeats 4000000 in
set_option maxRecDepth 100000 in
theorem c_Search_gainOf (l : Launch) (a1 : Int32) (x : gx_S) (o : Int32 × gx_S) (hf : f_Search_gainOf a1 x = some o) : gx_Mi false l y_Search_gainOf prog_7_method_8_code 5 (some .int) rm_Search_gainOf (fun E => [.ref (gx_ad E 25), .int a1]) x o.1 o.2 := by
  refine gx_meti (own := "CaseLayout$Search") (by decide) rfl (fun E => Nat.le_of_ble_eq_true rfl) (fun K E hl0 hR hr hlk hk C => ?_)
  subst hl0
  unfold f_Search_gainOf at hf
  show gx_G K E _ 0 0 x 0 [(0, .ref (gx_ad E 25)), (1, .int a1)] []
  refine gx_iconst C (v := 0) d_Search_gainOf_0 (by decide) ?_
  refine gx_istore_n C (lv' := [(2, .int 0), (0, .ref (gx_ad E 25)), (1, .int a1)]) d_Search_gainOf_1 rfl (by decide) rfl ?_
  refine gx_iconst C (v := 0) d_Search_gainOf_2 (by decide) ?_
  refine gx_istore_n C (lv' := [(3, .int 0), (2, .int 0), (0, .ref (gx_ad E 25)), (1, .int a1)]) d_Search_gainOf_3 rfl (by decide) rfl ?_
  refine gx_lv (lv' := [(0, .ref (gx_ad E 25)), (1, .int a1), (2, .int 0), (3, .int 0)]) [2, 3, 1, 0] rfl ?_
  obtain ⟨e7, he7, hf⟩ := gx_bl_some hf
  refine (gx_loop (P := pp_Search_gainOf_4 K E a1) (Q := pq_Search_gainOf_4 K E a1) (fun a9 o9 h1 h2 => sc_Search_gainOf_4 C hR hr hlk a1 a9 o9 h1 h2) gx_fuel (0, 0, x) e7 he7 ?_ : pp_Search_gainOf_4 K E a1 (0, 0, x))
  unfold pq_Search_gainOf_4
  refine gx_iload_n C 0 d_Search_gainOf_52 rfl rfl ?_
  cases hf
  exact gx_iret C hr hlk hk d_Search_gainOf_53

def s_Floor_cover_39 (v2 : Int32) (v3 : Int32) (v4 : Int32) (v5 : Int32) (a : Int32 × gx_S) : Option ((Int32 × gx_S) ⊕ (Nat × Int32 × gx_S)) :=
  gx_ck v2 7 (if (v3 + (gx_gA a.2 2 (v2 : Int32).toNatClampNeg)) ≤ a.1 then (some (.inr (0, a.1, a.2))) else (gx_bd (f_Grid_holds a.1 v5 a.2) (fun r7 x7 => if r7 = 0 then (some (.inl (a.1 + 1, x7))) else (gx_bd (f_CaseLayout_cellOf a.1 v5 x7) (fun r9 x9 => gx_ck r9 81 (some (.inl (a.1 + 1, gx_sA x9 11 (r9 : Int32).toNatClampNeg v2))))))))
def s_Floor_cover_19 (v2 : Int32) (v3 : Int32) (v4 : Int32) (a : Int32 × gx_S) : Option ((Int32 × gx_S) ⊕ (Nat × Int32 × gx_S)) :=
  gx_ck v2 7 (if (v4 + (gx_gA a.2 3 (v2 : Int32).toNatClampNeg)) ≤ a.1 then (some (.inr (0, a.1, a.2))) else (gx_bl (gx_it (s_Floor_cover_39 v2 v3 v4 a.1) gx_fuel (v3, a.2)) (fun e11 => some (.inl (a.1 + 1, e11.2.2)))))
def f_Floor_cover (a2 : Int32) (x : gx_S) : Option (Int32 × gx_S) :=
  gx_ck a2 7 (gx_ck a2 7 (gx_bl (gx_it (s_Floor_cover_19 a2 (gx_gA x 14 (a2 : Int32).toNatClampNeg) (gx_gA x 15 (a2 : Int32).toNatClampNeg)) gx_fuel (gx_gA x 15 (a2 : Int32).toNatClampNeg, x)) (fun e12 => some (0, e12.2.2))))
abbrev rm_Floor_cover : Room := { frames := 1, cells := 0, slots := 0, locals := 22 }
def pp_Floor_cover_39 (K : gx_K) (E : gx_E) (v2 : Int32) (v3 : Int32) (v4 : Int32) (v5 : Int32) (a : Int32 × gx_S) : Prop := gx_G K E (gx_AB true E K.s.heap.size) 0 0 (a.2) 39 [(0, .ref (gx_ad E 15)), (1, .ref (gx_ad E 19)), (2, .int v2), (3, .int v3), (4, .int v4), (5, .int v5), (6, .int a.1)] []
def pq_Floor_cover_39 (K : gx_K) (E : gx_E) (v2 : Int32) (v3 : Int32) (v4 : Int32) (v5 : Int32) (b : Nat × Int32 × gx_S) : Prop := gx_G K E (gx_AB true E K.s.heap.size) 0 0 (b.2.2) 88 [(0, .ref (gx_ad E 15)), (1, .ref (gx_ad E 19)), (2, .int v2), (3, .int v3), (4, .int v4), (5, .int v5)] []
def pp_Floor_cover_19 (K : gx_K) (E : gx_E) (v2 : Int32) (v3 : Int32) (v4 : Int32) (a : Int32 × gx_S) : Prop := gx_G K E (gx_AB true E K.s.heap.size) 0 0 (a.2) 19 [(0, .ref (gx_ad E 15)), (1, .ref (gx_ad E 19)), (2, .int v2), (3, .int v3), (4, .int v4), (5, .int a.1)] []
def pq_Floor_cover_19 (K : gx_K) (E : gx_E) (v2 : Int32) (v3 : Int32) (v4 : Int32) (b : Nat × Int32 × gx_S) : Prop := gx_G K E (gx_AB true E K.s.heap.size) 0 0 (b.2.2) 94 [] []
set_option maxHeartbeats 4000000 in
set_option maxRecDepth 100000 in
theorem sc_Floor_cover_39 {K : gx_K} {E : gx_E} (C : gx_C K E "CaseLayout$Floor" prog_3_method_3_code 7) (hR : K.R = rm_Floor_cover) (hr : K.meth.sig.returnType = none) (hlk : K.meth.locks = false) (v2 : Int32) (v3 : Int32) (v4 : Int32) (v5 : Int32) (a : Int32 × gx_S) (o : (Int32 × gx_S) ⊕ (Nat × Int32 × gx_S)) (hf : s_Floor_cover_39 v2 v3 v4 v5 a = some o) (hk : gx_or (pp_Floor_cover_39 K E v2 v3 v4 v5) (pq_Floor_cover_39 K E v2 v3 v4 v5) o) : pp_Floor_cover_39 K E v2 v3 v4 v5 a := by
  unfold s_Floor_cover_39 at hf
  unfold pp_Floor_cover_39
  refine gx_iload C 6 d_Floor_cover_39 rfl ?_
  refine gx_iload_n C 3 d_Floor_cover_41 rfl rfl ?_
  refine gx_aload_n C 1 d_Floor_cover_42 rfl rfl ?_
  refine gx_getN C iw_Layout 19 (gx_w19 E _) rfl 0 (by decide) gn_190 rfl rfl d_Floor_cover_43 ?_
  refine gx_getN C iw_Things 3 (gx_w3 E _) rfl 0 (by decide) gn_74 rfl rfl d_Floor_cover_46 ?_
  refine gx_iload_n C 2 d_Floor_cover_49 rfl rfl ?_
  obtain ⟨hi5, hf⟩ := gx_ck_some hf
  refine gx_iald C 4 0 (gx_w4 E _) rfl hi5 d_Floor_cover_50 ?_
  refine gx_iadd C d_Floor_cover_51 ?_
  refine gx_icmp_ge (tgt := 88) C d_Floor_cover_52 (by decide) (fun h6 => ?_) (fun h6 => ?_)
  · have hf := (if_pos h6).symm.trans hf
    cases hf
    have hk : pq_Floor_cover_39 K E v2 v3 v4 v5 _ := hk
    unfold pq_Floor_cover_39 at hk
    refine gx_lv (lv' := [(0, .ref (gx_ad E 15)), (1, .ref (gx_ad E 19)), (2, .int v2), (3, .int v3), (4, .int v4), (5, .int v5)]) [0, 1, 2, 3, 4, 5] rfl ?_
    exact hk
  · have hf := (if_neg h6).symm.trans hf
    refine gx_aload_n C 0 d_Floor_cover_55 rfl rfl ?_
    refine gx_get C iw_Floor 15 (gx_w15 E _) rfl 0 (by decide) gw_160 rfl rfl d_Floor_cover_56 ?_
    refine gx_iload C 6 d_Floor_cover_59 rfl ?_
    refine gx_iload C 5 d_Floor_cover_61 rfl ?_
    obtain ⟨r7, x7, hc7, hf⟩ := gx_bd_some hf
    refine gx_cVi (n2 := 0) (k2 := 0) C (As := [.int a.1, .int v5]) (rest := []) 0 2 (c_Grid_holds K.l a.1 v5 a.2 _ hc7) (Or.inl rfl) rfl (gx_goodV gw_552 gw_289 gw_290 gw_2 gw_291) (by decide +kernel) (gx_w0 E _) rfl (by rw [hR]; decide) rfl rfl (Nat.le_of_ble_eq_true rfl) d_Floor_cover_63 (by rw [hR]; decide) rfl rfl ?_
    refine gx_if_eq (tgt := 82) C d_Floor_cover_66 (by decide) (fun h8 => ?_) (fun h8 => ?_)
    · have hf := (if_pos h8).symm.trans hf
      refine gx_iinc C (v := a.1 + 1) (lv' := [(6, .int (a.1 + 1)), (0, .ref (gx_ad E 15)), (1, .ref (gx_ad E 19)), (2, .int v2), (3, .int v3), (4, .int v4), (5, .int v5)]) 6 d_Floor_cover_82 rfl rfl (by decide) rfl ?_
      refine gx_goto (tgt := 39) C d_Floor_cover_85 (by decide) ?_
      cases hf
      refine gx_lv (lv' := [(0, .ref (gx_ad E 15)), (1, .ref (gx_ad E 19)), (2, .int v2), (3, .int v3), (4, .int v4), (5, .int v5), (6, .int (a.1 + 1))]) [1, 2, 3, 4, 5, 6, 0] rfl ?_
      exact hk
    · have hf := (if_neg h8).symm.trans hf
      refine gx_aload_n C 0 d_Floor_cover_69 rfl rfl ?_
      refine gx_get C iw_Floor 15 (gx_w15 E _) rfl 1 (by decide) gw_161 rfl rfl d_Floor_cover_70 ?_
      refine gx_iload C 6 d_Floor_cover_73 rfl ?_
      refine gx_iload C 5 d_Floor_cover_75 rfl ?_
      obtain ⟨r9, x9, hc9, hf⟩ := gx_bd_some hf
      refine gx_cSNi (n2 := 0) (k2 := 0) C (As := [.int a.1, .int v5]) (rest := [.ref (gx_ad E 16)]) 2 (c_CaseLayout_cellOf K.l a.1 v5 x7 _ hc9) (Or.inl rfl) rfl gw_362 gn_553 gw_1 gw_361 (by decide +kernel) (by rw [hR]; decide) rfl rfl (Nat.le_of_ble_eq_true rfl) d_Floor_cover_77 (by rw [hR]; decide) rfl rfl ?_
      refine gx_iload_n C 2 d_Floor_cover_80 rfl rfl ?_
      obtain ⟨hi10, hf⟩ := gx_ck_some hf
      refine gx_iast C (x' := gx_sA x9 11 (r9 : Int32).toNatClampNeg v2) 16 0 (gx_w16 E _) rfl hi10 (gx_q16 E _ _ _) d_Floor_cover_81 ?_
      refine gx_iinc C (v := a.1 + 1) (lv' := [(6, .int (a.1 + 1)), (0, .ref (gx_ad E 15)), (1, .ref (gx_ad E 19)), (2, .int v2), (3, .int v3), (4, .int v4), (5, .int v5)]) 6 d_Floor_cover_82 rfl rfl (by decide) rfl ?_
      refine gx_goto (tgt := 39) C d_Floor_cover_85 (by decide) ?_
      cases hf
      refine gx_lv (lv' := [(0, .ref (gx_ad E 15)), (1, .ref (gx_ad E 19)), (2, .int v2), (3, .int v3), (4, .int v4), (5, .int v5), (6, .int (a.1 + 1))]) [1, 2, 3, 4, 5, 6, 0] rfl ?_
      exact hk
set_option maxHeartbeats 4000000 in
set_option maxRecDepth 100000 in
theorem sc_Floor_cover_19 {K : gx_K} {E : gx_E} (C : gx_C K E "CaseLayout$Floor" prog_3_method_3_code 7) (hR : K.R = rm_Floor_cover) (hr : K.meth.sig.returnType = none) (hlk : K.meth.locks = false) (v2 : Int32) (v3 : Int32) (v4 : Int32) (a : Int32 × gx_S) (o : (Int32 × gx_S) ⊕ (Nat × Int32 × gx_S)) (hf : s_Floor_cover_19 v2 v3 v4 a = some o) (hk : gx_or (pp_Floor_cover_19 K E v2 v3 v4) (pq_Floor_cover_19 K E v2 v3 v4) o) : pp_Floor_cover_19 K E v2 v3 v4 a := by
  unfold s_Floor_cover_19 at hf
  unfold pp_Floor_cover_19
  refine gx_iload C 5 d_Floor_cover_19 rfl ?_
  refine gx_iload C 4 d_Floor_cover_21 rfl ?_
  refine gx_aload_n C 1 d_Floor_cover_23 rfl rfl ?_
  refine gx_getN C iw_Layout 19 (gx_w19 E _) rfl 0 (by decide) gn_190 rfl rfl d_Floor_cover_24 ?_
  refine gx_getN C iw_Things 3 (gx_w3 E _) rfl 1 (by decide) gn_78 rfl rfl d_Floor_cover_27 ?_
  refine gx_iload_n C 2 d_Floor_cover_30 rfl rfl ?_
  obtain ⟨hi3, hf⟩ := gx_ck_some hf
  refine gx_iald C 5 0 (gx_w5 E _) rfl hi3 d_Floor_cover_31 ?_
  refine gx_iadd C d_Floor_cover_32 ?_
  refine gx_icmp_ge (tgt := 94) C d_Floor_cover_33 (by decide) (fun h4 => ?_) (fun h4 => ?_)
  · have hf := (if_pos h4).symm.trans hf
    cases hf
    have hk : pq_Floor_cover_19 K E v2 v3 v4 _ := hk
    unfold pq_Floor_cover_19 at hk
    refine gx_lv (lv' := []) [] rfl ?_
    exact hk
  · have hf := (if_neg h4).symm.trans hf
    refine gx_iload_n C 3 d_Floor_cover_36 rfl rfl ?_
    refine gx_istore C (lv' := [(6, .int v3), (0, .ref (gx_ad E 15)), (1, .ref (gx_ad E 19)), (2, .int v2), (3, .int v3), (4, .int v4), (5, .int a.1)]) d_Floor_cover_37 (by decide) rfl ?_
    refine gx_lv (lv' := [(0, .ref (gx_ad E 15)), (1, .ref (gx_ad E 19)), (2, .int v2), (3, .int v3), (4, .int v4), (5, .int a.1), (6, .int v3)]) [1, 2, 3, 4, 5, 6, 0] rfl ?_
    obtain ⟨e11, he11, hf⟩ := gx_bl_some hf
    refine (gx_loop (P := pp_Floor_cover_39 K E v2 v3 v4 a.1) (Q := pq_Floor_cover_39 K E v2 v3 v4 a.1) (fun a9 o9 h1 h2 => sc_Floor_cover_39 C hR hr hlk v2 v3 v4 a.1 a9 o9 h1 h2) gx_fuel (v3, a.2) e11 he11 ?_ : pp_Floor_cover_39 K E v2 v3 v4 a.1 (v3, a.2))
    unfold pq_Floor_cover_39
    refine gx_iinc C (v := a.1 + 1) (lv' := [(5, .int (a.1 + 1)), (0, .ref (gx_ad E 15)), (1, .ref (gx_ad E 19)), (2, .int v2), (3, .int v3), (4, .int v4)]) 5 d_Floor_cover_88 rfl rfl (by decide) rfl ?_
    refine gx_goto (tgt := 19) C d_Floor_cover_91 (by decide) ?_
    cases hf
    refine gx_lv (lv' := [(0, .ref (gx_ad E 15)), (1, .ref (gx_ad E 19)), (2, .int v2), (3, .int v3), (4, .int v4), (5, .int (a.1 + 1))]) [1, 2, 3, 4, 5, 0] rfl ?_
    exact hk
set_option maxHeartbeats 4000000 in
set_option maxRecDepth 100000 in
theorem c_Floor_cover (l : Launch) (a2 : Int32) (x : gx_S) (o : Int32 × gx_S) (hf : f_Floor_cover a2 x = some o) : gx_Mv true l y_Floor_cover prog_3_method_3_code 7 rm_Floor_cover (fun E => [.ref (gx_ad E 15), .ref (gx_ad E 19), .int a2]) x o.2 := by
  refine gx_metv (own := "CaseLayout$Floor") (by decide) rfl (fun E => Nat.le_of_ble_eq_true rfl) (fun K E hl0 hR hr hlk hk C => ?_)
  subst hl0
  unfold f_Floor_cover at hf
  show gx_G K E _ 0 0 x 0 [(0, .ref (gx_ad E 15)), (1, .ref (gx_ad E 19)), (2, .int a2)] []
  refine gx_aload_n C 1 d_Floor_cover_0 rfl rfl ?_
  refine gx_getN C iw_Layout 19 (gx_w19 E _) rfl 1 (by decide) gn_192 rfl rfl d_Floor_cover_1 ?_
  refine gx_iload_n C 2 d_Floor_cover_4 rfl rfl ?_
  obtain ⟨hi1, hf⟩ := gx_ck_some hf
  refine gx_iald C 20 0 (gx_w20 E _) rfl hi1 d_Floor_cover_5 ?_
  refine gx_istore_n C (lv' := [(3, .int (gx_gA x 14 (a2 : Int32).toNatClampNeg)), (0, .ref (gx_ad E 15)), (1, .ref (gx_ad E 19)), (2, .int a2)]) d_Floor_cover_6 rfl (by decide) rfl ?_
  refine gx_aload_n C 2 d_Floor_cover_7 rfl rfl ?_
  refine gx_getN C iw_Layout 19 (gx_w19 E _) rfl 2 (by decide) gn_196 rfl rfl d_Floor_cover_8 ?_
  refine gx_iload_n C 3 d_Floor_cover_11 rfl rfl ?_
  obtain ⟨hi2, hf⟩ := gx_ck_some hf
  refine gx_iald C 21 0 (gx_w21 E _) rfl hi2 d_Floor_cover_12 ?_
  refine gx_istore C (lv' := [(4, .int (gx_gA x 15 (a2 : Int32).toNatClampNeg)), (3, .int (gx_gA x 14 (a2 : Int32).toNatClampNeg)), (0, .ref (gx_ad E 15)), (1, .ref (gx_ad E 19)), (2, .int a2)]) d_Floor_cover_13 (by decide) rfl ?_
  refine gx_iload C 0 d_Floor_cover_15 rfl ?_
  refine gx_istore C (lv' := [(5, .int (gx_gA x 15 (a2 : Int32).toNatClampNeg)), (4, .int (gx_gA x 15 (a2 : Int32).toNatClampNeg)), (3, .int (gx_gA x 14 (a2 : Int32).toNatClampNeg)), (0, .ref (gx_ad E 15)), (1, .ref (gx_ad E 19)), (2, .int a2)]) d_Floor_cover_17 (by decide) rfl ?_
  refine gx_lv (lv' := [(0, .ref (gx_ad E 15)), (1, .ref (gx_ad E 19)), (2, .int a2), (3, .int (gx_gA x 14 (a2 : Int32).toNatClampNeg)), (4, .int (gx_gA x 15 (a2 : Int32).toNatClampNeg)), (5, .int (gx_gA x 15 (a2 : Int32).toNatClampNeg))]) [3, 4, 5, 2, 1, 0] rfl ?_
  obtain ⟨e12, he12, hf⟩ := gx_bl_some hf
  refine (gx_loop (P := pp_Floor_cover_19 K E a2 (gx_gA x 14 (a2 : Int32).toNatClampNeg) (gx_gA x 15 (a2 : Int32).toNatClampNeg)) (Q := pq_Floor_cover_19 K E a2 (gx_gA x 14 (a2 : Int32).toNatClampNeg) (gx_gA x 15 (a2 : Int32).toNatClampNeg)) (fun a9 o9 h1 h2 => sc_Floor_cover_19 C hR hr hlk a2 (gx_gA x 14 (a2 : Int32).toNatClampNeg) (gx_gA x 15 (a2 : Int32).toNatClampNeg) a9 o9 h1 h2) gx_fuel (gx_gA x 15 (a2 : Int32).toNatClampNeg, x) e12 he12 ?_ : pp_Floor_cover_19 K E a2 (gx_gA x 14 (a2 : Int32).toNatClampNeg) (gx_gA x 15 (a2 : Int32).toNatClampNeg) (gx_gA x 15 (a2 : Int32).toNatClampNeg, x))
  unfold pq_Floor_cover_19
  cases hf
  exact gx_vret C hr hlk hk d_Floor_cover_94

def s_Floor_lay_2  (a : Int32 × gx_S) : Option ((Int32 × gx_S) ⊕ (Nat × Int32 × gx_S)) :=
  if 81 ≤ a.1 then (some (.inr (0, a.1, a.2))) else (gx_ck a.1 81 (if (gx_gA a.2 0 (a.1 : Int32).toNatClampNeg) = 0 then (gx_ck a.1 81 (some (.inl (a.1 + 1, gx_sA a.2 11 (a.1 : Int32).toNatClampNeg (-1))))) else (gx_ck a.1 81 (some (.inl (a.1 + 1, gx_sA a.2 11 (a.1 : Int32).toNatClampNeg (-2)))))))
def s_Floor_lay_40  (a : Int32 × gx_S) : Option ((Int32 × gx_S) ⊕ (Nat × Int32 × gx_S)) :=
  if (gx_gI a.2 3) ≤ a.1 then (some (.inr (0, a.1, a.2))) else (gx_bd (f_Floor_cover a.1 a.2) (fun r8 x8 => some (.inl (a.1 + 1, x8))))
def f_Floor_lay  (x : gx_S) : Option (Int32 × gx_S) :=
  gx_bl (gx_it (s_Floor_lay_2 ) gx_fuel (0, x)) (fun e6 => gx_bl (gx_it (s_Floor_lay_40 ) gx_fuel (0, e6.2.2)) (fun e9 => some (0, e9.2.2)))
abbrev rm_Floor_lay : Room := { frames := 2, cells := 0, slots := 0, locals := 48 }
def pp_Floor_lay_2 (K : gx_K) (E : gx_E)  (a : Int32 × gx_S) : Prop := gx_G K E (gx_AB true E K.s.heap.size) 0 0 (a.2) 2 [(0, .ref (gx_ad E 15)), (1, .ref (gx_ad E 19)), (2, .int a.1)] []
def pq_Floor_lay_2 (K : gx_K) (E : gx_E)  (b : Nat × Int32 × gx_S) : Prop := gx_G K E (gx_AB true E K.s.heap.size) 0 0 (b.2.2) 38 [(0, .ref (gx_ad E 15)), (1, .ref (gx_ad E 19))] []
def pp_Floor_lay_40 (K : gx_K) (E : gx_E)  (a : Int32 × gx_S) : Prop := gx_G K E (gx_AB true E K.s.heap.size) 0 0 (a.2) 40 [(0, .ref (gx_ad E 15)), (1, .ref (gx_ad E 19)), (2, .int a.1)] []
def pq_Floor_lay_40 (K : gx_K) (E : gx_E)  (b : Nat × Int32 × gx_S) : Prop := gx_G K E (gx_AB true E K.s.heap.size) 0 0 (b.2.2) 63 [] []
set_option maxHeartbeats 4000000 in
set_option maxRecDepth 100000 in
theorem sc_Floor_lay_2 {K : gx_K} {E : gx_E} (C : gx_C K E "CaseLayout$Floor" prog_3_method_2_code 3) (hR : K.R = rm_Floor_lay) (hr : K.meth.sig.returnType = none) (hlk : K.meth.locks = false)  (a : Int32 × gx_S) (o : (Int32 × gx_S) ⊕ (Nat × Int32 × gx_S)) (hf : s_Floor_lay_2  a = some o) (hk : gx_or (pp_Floor_lay_2 K E ) (pq_Floor_lay_2 K E ) o) : pp_Floor_lay_2 K E  a := by
  unfold s_Floor_lay_2 at hf
  unfold pp_Floor_lay_2
  refine gx_iload_n C 2 d_Floor_lay_2 rfl rfl ?_
  refine gx_bipush C (v := 81) d_Floor_lay_3 (by decide) ?_
  refine gx_icmp_ge (tgt := 38) C d_Floor_lay_5 (by decide) (fun h1 => ?_) (fun h1 => ?_)
  · have hf := (if_pos h1).symm.trans hf
    cases hf
    have hk : pq_Floor_lay_2 K E  _ := hk
    unfold pq_Floor_lay_2 at hk
    refine gx_lv (lv' := [(0, .ref (gx_ad E 15)), (1, .ref (gx_ad E 19))]) [0, 1] rfl ?_
    exact hk
  · have hf := (if_neg h1).symm.trans hf
    refine gx_aload_n C 0 d_Floor_lay_8 rfl rfl ?_
    refine gx_get C iw_Floor 15 (gx_w15 E _) rfl 1 (by decide) gw_161 rfl rfl d_Floor_lay_9 ?_
    refine gx_iload_n C 2 d_Floor_lay_12 rfl rfl ?_
    refine gx_aload_n C 0 d_Floor_lay_13 rfl rfl ?_
    refine gx_get C iw_Floor 15 (gx_w15 E _) rfl 0 (by decide) gw_160 rfl rfl d_Floor_lay_14 ?_
    refine gx_getN C iw_Grid 0 (gx_w0 E _) rfl 2 (by decide) gn_48 rfl rfl d_Floor_lay_17 ?_
    refine gx_iload_n C 2 d_Floor_lay_20 rfl rfl ?_
    obtain ⟨hi2, hf⟩ := gx_ck_some hf
    refine gx_zald C 1 1 (gx_w1 E _) rfl hi2 d_Floor_lay_21 ?_
    refine gx_if_eq (tgt := 30) C d_Floor_lay_22 (by decide) (fun h3 => ?_) (fun h3 => ?_)
    · have hf := (if_pos h3).symm.trans hf
      refine gx_iconst C (v := (-1)) d_Floor_lay_30 (by decide) ?_
      obtain ⟨hi4, hf⟩ := gx_ck_some hf
      refine gx_iast C (x' := gx_sA a.2 11 (a.1 : Int32).toNatClampNeg (-1)) 16 0 (gx_w16 E _) rfl hi4 (gx_q16 E _ _ _) d_Floor_lay_31 ?_
      refine gx_iinc C (v := a.1 + 1) (lv' := [(2, .int (a.1 + 1)), (0, .ref (gx_ad E 15)), (1, .ref (gx_ad E 19))]) 2 d_Floor_lay_32 rfl rfl (by decide) rfl ?_
      refine gx_goto (tgt := 2) C d_Floor_lay_35 (by decide) ?_
      cases hf
      refine gx_lv (lv' := [(0, .ref (gx_ad E 15)), (1, .ref (gx_ad E 19)), (2, .int (a.1 + 1))]) [1, 2, 0] rfl ?_
      exact hk
    · have hf := (if_neg h3).symm.trans hf
      refine gx_bipush C (v := (-2)) d_Floor_lay_25 (by decide) ?_
      refine gx_goto (tgt := 31) C d_Floor_lay_27 (by decide) ?_
      obtain ⟨hi5, hf⟩ := gx_ck_some hf
      refine gx_iast C (x' := gx_sA a.2 11 (a.1 : Int32).toNatClampNeg (-2)) 16 0 (gx_w16 E _) rfl hi5 (gx_q16 E _ _ _) d_Floor_lay_31 ?_
      refine gx_iinc C (v := a.1 + 1) (lv' := [(2, .int (a.1 + 1)), (0, .ref (gx_ad E 15)), (1, .ref (gx_ad E 19))]) 2 d_Floor_lay_32 rfl rfl (by decide) rfl ?_
      refine gx_goto (tgt := 2) C d_Floor_lay_35 (by decide) ?_
      cases hf
      refine gx_lv (lv' := [(0, .ref (gx_ad E 15)), (1, .ref (gx_ad E 19)), (2, .int (a.1 + 1))]) [1, 2, 0] rfl ?_
      exact hk
set_option maxHeartbeats 4000000 in
set_option maxRecDepth 100000 in
theorem sc_Floor_lay_40 {K : gx_K} {E : gx_E} (C : gx_C K E "CaseLayout$Floor" prog_3_method_2_code 3) (hR : K.R = rm_Floor_lay) (hr : K.meth.sig.returnType = none) (hlk : K.meth.locks = false)  (a : Int32 × gx_S) (o : (Int32 × gx_S) ⊕ (Nat × Int32 × gx_S)) (hf : s_Floor_lay_40  a = some o) (hk : gx_or (pp_Floor_lay_40 K E ) (pq_Floor_lay_40 K E ) o) : pp_Floor_lay_40 K E  a := by
  unfold s_Floor_lay_40 at hf
  unfold pp_Floor_lay_40
  refine gx_iload_n C 2 d_Floor_lay_40 rfl rfl ?_
  refine gx_aload_n C 1 d_Floor_lay_41 rfl rfl ?_
  refine gx_getN C iw_Layout 19 (gx_w19 E _) rfl 0 (by decide) gn_190 rfl rfl d_Floor_lay_42 ?_
  refine gx_getN C iw_Things 3 (gx_w3 E _) rfl 5 (by decide) gn_89 rfl rfl d_Floor_lay_45 ?_
  refine gx_icmp_ge (tgt := 63) C d_Floor_lay_48 (by decide) (fun h7 => ?_) (fun h7 => ?_)
  · have hf := (if_pos h7).symm.trans hf
    cases hf
    have hk : pq_Floor_lay_40 K E  _ := hk
    unfold pq_Floor_lay_40 at hk
    refine gx_lv (lv' := []) [] rfl ?_
    exact hk
  · have hf := (if_neg h7).symm.trans hf
    refine gx_aload_n C 0 d_Floor_lay_51 rfl rfl ?_
    refine gx_aload_n C 1 d_Floor_lay_52 rfl rfl ?_
    refine gx_iload_n C 2 d_Floor_lay_53 rfl rfl ?_
    obtain ⟨r8, x8, hc8, hf⟩ := gx_bd_some hf
    refine gx_cVv (n2 := 0) (k2 := 0) C (As := [.ref (gx_ad E 19), .int a.1]) (rest := []) 15 2 (c_Floor_cover K.l a.1 a.2 _ hc8) (Or.inl rfl) rfl (gx_goodV gw_548 gw_550 gs_7 gw_7 gw_551) (by decide +kernel) (gx_w15 E _) rfl (by rw [hR]; decide) rfl rfl (Nat.le_of_ble_eq_true rfl) d_Floor_lay_54 (by rw [hR]; decide) rfl rfl ?_
    refine gx_iinc C (v := a.1 + 1) (lv' := [(2, .int (a.1 + 1)), (0, .ref (gx_ad E 15)), (1, .ref (gx_ad E 19))]) 2 d_Floor_lay_57 rfl rfl (by decide) rfl ?_
    refine gx_goto (tgt := 40) C d_Floor_lay_60 (by decide) ?_
    cases hf
    refine gx_lv (lv' := [(0, .ref (gx_ad E 15)), (1, .ref (gx_ad E 19)), (2, .int (a.1 + 1))]) [1, 2, 0] rfl ?_
    exact hk
set_option maxHeartbeats 4000000 in
set_option maxRecDepth 100000 in
theorem c_Floor_lay (l : Launch)  (x : gx_S) (o : Int32 × gx_S) (hf : f_Floor_lay  x = some o) : gx_Mv true l y_Floor_lay prog_3_method_2_code 3 rm_Floor_lay (fun E => [.ref (gx_ad E 15), .ref (gx_ad E 19)]) x o.2 := by
  refine gx_metv (own := "CaseLayout$Floor") (by decide) rfl (fun E => Nat.le_of_ble_eq_true rfl) (fun K E hl0 hR hr hlk hk C => ?_)
  subst hl0
  unfold f_Floor_lay at hf
  show gx_G K E _ 0 0 x 0 [(0, .ref (gx_ad E 15)), (1, .ref (gx_ad E 19))] []
  refine gx_iconst C (v := 0) d_Floor_lay_0 (by decide) ?_
  refine gx_istore_n C (lv' := [(2, .int 0), (0, .ref (gx_ad E 15)), (1, .ref (gx_ad E 19))]) d_Floor_lay_1 rfl (by decide) rfl ?_
  refine gx_lv (lv' := [(0, .ref (gx_ad E 15)), (1, .ref (gx_ad E 19)), (2, .int 0)]) [1, 2, 0] rfl ?_
  obtain ⟨e6, he6, hf⟩ := gx_bl_some hf
  refine (gx_loop (P := pp_Floor_lay_2 K E ) (Q := pq_Floor_lay_2 K E ) (fun a9 o9 h1 h2 => sc_Floor_lay_2 C hR hr hlk  a9 o9 h1 h2) gx_fuel (0, x) e6 he6 ?_ : pp_Floor_lay_2 K E  (0, x))
  unfold pq_Floor_lay_2
  refine gx_iconst C (v := 0) d_Floor_lay_38 (by decide) ?_
  refine gx_istore_n C (lv' := [(2, .int 0), (0, .ref (gx_ad E 15)), (1, .ref (gx_ad E 19))]) d_Floor_lay_39 rfl (by decide) rfl ?_
  refine gx_lv (lv' := [(0, .ref (gx_ad E 15)), (1, .ref (gx_ad E 19)), (2, .int 0)]) [1, 2, 0] rfl ?_
  obtain ⟨e9, he9, hf⟩ := gx_bl_some hf
  refine (gx_loop (P := pp_Floor_lay_40 K E ) (Q := pq_Floor_lay_40 K E ) (fun a9 o9 h1 h2 => sc_Floor_lay_40 C hR hr hlk  a9 o9 h1 h2) gx_fuel (0, e6.2.2) e9 he9 ?_ : pp_Floor_lay_40 K E  (0, e6.2.2))
  unfold pq_Floor_lay_40
  cases hf
  exact gx_vret C hr hlk hk d_Floor_lay_63

def s_Floor_cover_2_39 (v2 : Int32) (v3 : Int32) (v4 : Int32) (v5 : Int32) (a : Int32 × gx_S) : Option ((Int32 × gx_S) ⊕ (Nat × Int32 × gx_S)) :=
  gx_ck v2 7 (if (v3 + (gx_gA a.2 2 (v2 : Int32).toNatClampNeg)) ≤ a.1 then (some (.inr (0, a.1, a.2))) else (gx_bd (f_Grid_holds a.1 v5 a.2) (fun r7 x7 => if r7 = 0 then (some (.inl (a.1 + 1, x7))) else (gx_bd (f_CaseLayout_cellOf a.1 v5 x7) (fun r9 x9 => gx_ck r9 81 (some (.inl (a.1 + 1, gx_sA x9 11 (r9 : Int32).toNatClampNeg v2))))))))
def s_Floor_cover_2_19 (v2 : Int32) (v3 : Int32) (v4 : Int32) (a : Int32 × gx_S) : Option ((Int32 × gx_S) ⊕ (Nat × Int32 × gx_S)) :=
  gx_ck v2 7 (if (v4 + (gx_gA a.2 3 (v2 : Int32).toNatClampNeg)) ≤ a.1 then (some (.inr (0, a.1, a.2))) else (gx_bl (gx_it (s_Floor_cover_2_39 v2 v3 v4 a.1) gx_fuel (v3, a.2)) (fun e11 => some (.inl (a.1 + 1, e11.2.2)))))
def f_Floor_cover_2 (a2 : Int32) (x : gx_S) : Option (Int32 × gx_S) :=
  gx_ck a2 7 (gx_ck a2 7 (gx_bl (gx_it (s_Floor_cover_2_19 a2 (gx_gA x 16 (a2 : Int32).toNatClampNeg) (gx_gA x 17 (a2 : Int32).toNatClampNeg)) gx_fuel (gx_gA x 17 (a2 : Int32).toNatClampNeg, x)) (fun e12 => some (0, e12.2.2))))
abbrev rm_Floor_cover_2 : Room := { frames := 1, cells := 0, slots := 0, locals := 22 }
def pp_Floor_cover_2_39 (K : gx_K) (E : gx_E) (v2 : Int32) (v3 : Int32) (v4 : Int32) (v5 : Int32) (a : Int32 × gx_S) : Prop := gx_G K E (gx_AB true E K.s.heap.size) 0 0 (a.2) 39 [(0, .ref (gx_ad E 15)), (1, .ref (gx_ad E 22)), (2, .int v2), (3, .int v3), (4, .int v4), (5, .int v5), (6, .int a.1)] []
def pq_Floor_cover_2_39 (K : gx_K) (E : gx_E) (v2 : Int32) (v3 : Int32) (v4 : Int32) (v5 : Int32) (b : Nat × Int32 × gx_S) : Prop := gx_G K E (gx_AB true E K.s.heap.size) 0 0 (b.2.2) 88 [(0, .ref (gx_ad E 15)), (1, .ref (gx_ad E 22)), (2, .int v2), (3, .int v3), (4, .int v4), (5, .int v5)] []
def pp_Floor_cover_2_19 (K : gx_K) (E : gx_E) (v2 : Int32) (v3 : Int32) (v4 : Int32) (a : Int32 × gx_S) : Prop := gx_G K E (gx_AB true E K.s.heap.size) 0 0 (a.2) 19 [(0, .ref (gx_ad E 15)), (1, .ref (gx_ad E 22)), (2, .int v2), (3, .int v3), (4, .int v4), (5, .int a.1)] []
def pq_Floor_cover_2_19 (K : gx_K) (E : gx_E) (v2 : Int32) (v3 : Int32) (v4 : Int32) (b : Nat × Int32 × gx_S) : Prop := gx_G K E (gx_AB true E K.s.heap.size) 0 0 (b.2.2) 94 [] []
set_option maxHeartbeats 4000000 in
set_option maxRecDepth 100000 in
theorem sc_Floor_cover_2_39 {K : gx_K} {E : gx_E} (C : gx_C K E "CaseLayout$Floor" prog_3_method_3_code 7) (hR : K.R = rm_Floor_cover_2) (hr : K.meth.sig.returnType = none) (hlk : K.meth.locks = false) (v2 : Int32) (v3 : Int32) (v4 : Int32) (v5 : Int32) (a : Int32 × gx_S) (o : (Int32 × gx_S) ⊕ (Nat × Int32 × gx_S)) (hf : s_Floor_cover_2_39 v2 v3 v4 v5 a = some o) (hk : gx_or (pp_Floor_cover_2_39 K E v2 v3 v4 v5) (pq_Floor_cover_2_39 K E v2 v3 v4 v5) o) : pp_Floor_cover_2_39 K E v2 v3 v4 v5 a := by
  unfold s_Floor_cover_2_39 at hf
  unfold pp_Floor_cover_2_39
  refine gx_iload C 6 d_Floor_cover_39 rfl ?_
  refine gx_iload_n C 3 d_Floor_cover_41 rfl rfl ?_
  refine gx_aload_n C 1 d_Floor_cover_42 rfl rfl ?_
  refine gx_getN C iw_Layout 22 (gx_w22 E _) rfl 0 (by decide) gn_190 rfl rfl d_Floor_cover_43 ?_
  refine gx_getN C iw_Things 3 (gx_w3 E _) rfl 0 (by decide) gn_74 rfl rfl d_Floor_cover_46 ?_
  refine gx_iload_n C 2 d_Floor_cover_49 rfl rfl ?_
  obtain ⟨hi5, hf⟩ := gx_ck_some hf
  refine gx_iald C 4 0 (gx_w4 E _) rfl hi5 d_Floor_cover_50 ?_
  refine gx_iadd C d_Floor_cover_51 ?_
  refine gx_icmp_ge (tgt := 88) C d_Floor_cover_52 (by decide) (fun h6 => ?_) (fun h6 => ?_)
  · have hf := (if_pos h6).symm.trans hf
    cases hf
    have hk : pq_Floor_cover_2_39 K E v2 v3 v4 v5 _ := hk
    unfold pq_Floor_cover_2_39 at hk
    refine gx_lv (lv' := [(0, .ref (gx_ad E 15)), (1, .ref (gx_ad E 22)), (2, .int v2), (3, .int v3), (4, .int v4), (5, .int v5)]) [0, 1, 2, 3, 4, 5] rfl ?_
    exact hk
  · have hf := (if_neg h6).symm.trans hf
    refine gx_aload_n C 0 d_Floor_cover_55 rfl rfl ?_
    refine gx_get C iw_Floor 15 (gx_w15 E _) rfl 0 (by decide) gw_160 rfl rfl d_Floor_cover_56 ?_
    refine gx_iload C 6 d_Floor_cover_59 rfl ?_
    refine gx_iload C 5 d_Floor_cover_61 rfl ?_
    obtain ⟨r7, x7, hc7, hf⟩ := gx_bd_some hf
    refine gx_cVi (n2 := 0) (k2 := 0) C (As := [.int a.1, .int v5]) (rest := []) 0 2 (c_Grid_holds K.l a.1 v5 a.2 _ hc7) (Or.inl rfl) rfl (gx_goodV gw_552 gw_289 gw_290 gw_2 gw_291) (by decide +kernel) (gx_w0 E _) rfl (by rw [hR]; decide) rfl rfl (Nat.le_of_ble_eq_true rfl) d_Floor_cover_63 (by rw [hR]; decide) rfl rfl ?_
    refine gx_if_eq (tgt := 82) C d_Floor_cover_66 (by decide) (fun h8 => ?_) (fun h8 => ?_)
    · have hf := (if_pos h8).symm.trans hf
      refine gx_iinc C (v := a.1 + 1) (lv' := [(6, .int (a.1 + 1)), (0, .ref (gx_ad E 15)), (1, .ref (gx_ad E 22)), (2, .int v2), (3, .int v3), (4, .int v4), (5, .int v5)]) 6 d_Floor_cover_82 rfl rfl (by decide) rfl ?_
      refine gx_goto (tgt := 39) C d_Floor_cover_85 (by decide) ?_
      cases hf
      refine gx_lv (lv' := [(0, .ref (gx_ad E 15)), (1, .ref (gx_ad E 22)), (2, .int v2), (3, .int v3), (4, .int v4), (5, .int v5), (6, .int (a.1 + 1))]) [1, 2, 3, 4, 5, 6, 0] rfl ?_
      exact hk
    · have hf := (if_neg h8).symm.trans hf
      refine gx_aload_n C 0 d_Floor_cover_69 rfl rfl ?_
      refine gx_get C iw_Floor 15 (gx_w15 E _) rfl 1 (by decide) gw_161 rfl rfl d_Floor_cover_70 ?_
      refine gx_iload C 6 d_Floor_cover_73 rfl ?_
      refine gx_iload C 5 d_Floor_cover_75 rfl ?_
      obtain ⟨r9, x9, hc9, hf⟩ := gx_bd_some hf
      refine gx_cSNi (n2 := 0) (k2 := 0) C (As := [.int a.1, .int v5]) (rest := [.ref (gx_ad E 16)]) 2 (c_CaseLayout_cellOf K.l a.1 v5 x7 _ hc9) (Or.inl rfl) rfl gw_362 gn_553 gw_1 gw_361 (by decide +kernel) (by rw [hR]; decide) rfl rfl (Nat.le_of_ble_eq_true rfl) d_Floor_cover_77 (by rw [hR]; decide) rfl rfl ?_
      refine gx_iload_n C 2 d_Floor_cover_80 rfl rfl ?_
      obtain ⟨hi10, hf⟩ := gx_ck_some hf
      refine gx_iast C (x' := gx_sA x9 11 (r9 : Int32).toNatClampNeg v2) 16 0 (gx_w16 E _) rfl hi10 (gx_q16 E _ _ _) d_Floor_cover_81 ?_
      refine gx_iinc C (v := a.1 + 1) (lv' := [(6, .int (a.1 + 1)), (0, .ref (gx_ad E 15)), (1, .ref (gx_ad E 22)), (2, .int v2), (3, .int v3), (4, .int v4), (5, .int v5)]) 6 d_Floor_cover_82 rfl rfl (by decide) rfl ?_
      refine gx_goto (tgt := 39) C d_Floor_cover_85 (by decide) ?_
      cases hf
      refine gx_lv (lv' := [(0, .ref (gx_ad E 15)), (1, .ref (gx_ad E 22)), (2, .int v2), (3, .int v3), (4, .int v4), (5, .int v5), (6, .int (a.1 + 1))]) [1, 2, 3, 4, 5, 6, 0] rfl ?_
      exact hk
set_option maxHeartbeats 4000000 in
set_option maxRecDepth 100000 in
theorem sc_Floor_cover_2_19 {K : gx_K} {E : gx_E} (C : gx_C K E "CaseLayout$Floor" prog_3_method_3_code 7) (hR : K.R = rm_Floor_cover_2) (hr : K.meth.sig.returnType = none) (hlk : K.meth.locks = false) (v2 : Int32) (v3 : Int32) (v4 : Int32) (a : Int32 × gx_S) (o : (Int32 × gx_S) ⊕ (Nat × Int32 × gx_S)) (hf : s_Floor_cover_2_19 v2 v3 v4 a = some o) (hk : gx_or (pp_Floor_cover_2_19 K E v2 v3 v4) (pq_Floor_cover_2_19 K E v2 v3 v4) o) : pp_Floor_cover_2_19 K E v2 v3 v4 a := by
  unfold s_Floor_cover_2_19 at hf
  unfold pp_Floor_cover_2_19
  refine gx_iload C 5 d_Floor_cover_19 rfl ?_
  refine gx_iload C 4 d_Floor_cover_21 rfl ?_
  refine gx_aload_n C 1 d_Floor_cover_23 rfl rfl ?_
  refine gx_getN C iw_Layout 22 (gx_w22 E _) rfl 0 (by decide) gn_190 rfl rfl d_Floor_cover_24 ?_
  refine gx_getN C iw_Things 3 (gx_w3 E _) rfl 1 (by decide) gn_78 rfl rfl d_Floor_cover_27 ?_
  refine gx_iload_n C 2 d_Floor_cover_30 rfl rfl ?_
  obtain ⟨hi3, hf⟩ := gx_ck_some hf
  refine gx_iald C 5 0 (gx_w5 E _) rfl hi3 d_Floor_cover_31 ?_
  refine gx_iadd C d_Floor_cover_32 ?_
  refine gx_icmp_ge (tgt := 94) C d_Floor_cover_33 (by decide) (fun h4 => ?_) (fun h4 => ?_)
  · have hf := (if_pos h4).symm.trans hf
    cases hf
    have hk : pq_Floor_cover_2_19 K E v2 v3 v4 _ := hk
    unfold pq_Floor_cover_2_19 at hk
    refine gx_lv (lv' := []) [] rfl ?_
    exact hk
  · have hf := (if_neg h4).symm.trans hf
    refine gx_iload_n C 3 d_Floor_cover_36 rfl rfl ?_
    refine gx_istore C (lv' := [(6, .int v3), (0, .ref (gx_ad E 15)), (1, .ref (gx_ad E 22)), (2, .int v2), (3, .int v3), (4, .int v4), (5, .int a.1)]) d_Floor_cover_37 (by decide) rfl ?_
    refine gx_lv (lv' := [(0, .ref (gx_ad E 15)), (1, .ref (gx_ad E 22)), (2, .int v2), (3, .int v3), (4, .int v4), (5, .int a.1), (6, .int v3)]) [1, 2, 3, 4, 5, 6, 0] rfl ?_
    obtain ⟨e11, he11, hf⟩ := gx_bl_some hf
    refine (gx_loop (P := pp_Floor_cover_2_39 K E v2 v3 v4 a.1) (Q := pq_Floor_cover_2_39 K E v2 v3 v4 a.1) (fun a9 o9 h1 h2 => sc_Floor_cover_2_39 C hR hr hlk v2 v3 v4 a.1 a9 o9 h1 h2) gx_fuel (v3, a.2) e11 he11 ?_ : pp_Floor_cover_2_39 K E v2 v3 v4 a.1 (v3, a.2))
    unfold pq_Floor_cover_2_39
    refine gx_iinc C (v := a.1 + 1) (lv' := [(5, .int (a.1 + 1)), (0, .ref (gx_ad E 15)), (1, .ref (gx_ad E 22)), (2, .int v2), (3, .int v3), (4, .int v4)]) 5 d_Floor_cover_88 rfl rfl (by decide) rfl ?_
    refine gx_goto (tgt := 19) C d_Floor_cover_91 (by decide) ?_
    cases hf
    refine gx_lv (lv' := [(0, .ref (gx_ad E 15)), (1, .ref (gx_ad E 22)), (2, .int v2), (3, .int v3), (4, .int v4), (5, .int (a.1 + 1))]) [1, 2, 3, 4, 5, 0] rfl ?_
    exact hk
set_option maxHeartbeats 4000000 in
set_option maxRecDepth 100000 in
theorem c_Floor_cover_2 (l : Launch) (a2 : Int32) (x : gx_S) (o : Int32 × gx_S) (hf : f_Floor_cover_2 a2 x = some o) : gx_Mv true l y_Floor_cover prog_3_method_3_code 7 rm_Floor_cover_2 (fun E => [.ref (gx_ad E 15), .ref (gx_ad E 22), .int a2]) x o.2 := by
  refine gx_metv (own := "CaseLayout$Floor") (by decide) rfl (fun E => Nat.le_of_ble_eq_true rfl) (fun K E hl0 hR hr hlk hk C => ?_)
  subst hl0
  unfold f_Floor_cover_2 at hf
  show gx_G K E _ 0 0 x 0 [(0, .ref (gx_ad E 15)), (1, .ref (gx_ad E 22)), (2, .int a2)] []
  refine gx_aload_n C 1 d_Floor_cover_0 rfl rfl ?_
  refine gx_getN C iw_Layout 22 (gx_w22 E _) rfl 1 (by decide) gn_192 rfl rfl d_Floor_cover_1 ?_
  refine gx_iload_n C 2 d_Floor_cover_4 rfl rfl ?_
  obtain ⟨hi1, hf⟩ := gx_ck_some hf
  refine gx_iald C 23 0 (gx_w23 E _) rfl hi1 d_Floor_cover_5 ?_
  refine gx_istore_n C (lv' := [(3, .int (gx_gA x 16 (a2 : Int32).toNatClampNeg)), (0, .ref (gx_ad E 15)), (1, .ref (gx_ad E 22)), (2, .int a2)]) d_Floor_cover_6 rfl (by decide) rfl ?_
  refine gx_aload_n C 2 d_Floor_cover_7 rfl rfl ?_
  refine gx_getN C iw_Layout 22 (gx_w22 E _) rfl 2 (by decide) gn_196 rfl rfl d_Floor_cover_8 ?_
  refine gx_iload_n C 3 d_Floor_cover_11 rfl rfl ?_
  obtain ⟨hi2, hf⟩ := gx_ck_some hf
  refine gx_iald C 24 0 (gx_w24 E _) rfl hi2 d_Floor_cover_12 ?_
  refine gx_istore C (lv' := [(4, .int (gx_gA x 17 (a2 : Int32).toNatClampNeg)), (3, .int (gx_gA x 16 (a2 : Int32).toNatClampNeg)), (0, .ref (gx_ad E 15)), (1, .ref (gx_ad E 22)), (2, .int a2)]) d_Floor_cover_13 (by decide) rfl ?_
  refine gx_iload C 0 d_Floor_cover_15 rfl ?_
  refine gx_istore C (lv' := [(5, .int (gx_gA x 17 (a2 : Int32).toNatClampNeg)), (4, .int (gx_gA x 17 (a2 : Int32).toNatClampNeg)), (3, .int (gx_gA x 16 (a2 : Int32).toNatClampNeg)), (0, .ref (gx_ad E 15)), (1, .ref (gx_ad E 22)), (2, .int a2)]) d_Floor_cover_17 (by decide) rfl ?_
  refine gx_lv (lv' := [(0, .ref (gx_ad E 15)), (1, .ref (gx_ad E 22)), (2, .int a2), (3, .int (gx_gA x 16 (a2 : Int32).toNatClampNeg)), (4, .int (gx_gA x 17 (a2 : Int32).toNatClampNeg)), (5, .int (gx_gA x 17 (a2 : Int32).toNatClampNeg))]) [3, 4, 5, 2, 1, 0] rfl ?_
  obtain ⟨e12, he12, hf⟩ := gx_bl_some hf
  refine (gx_loop (P := pp_Floor_cover_2_19 K E a2 (gx_gA x 16 (a2 : Int32).toNatClampNeg) (gx_gA x 17 (a2 : Int32).toNatClampNeg)) (Q := pq_Floor_cover_2_19 K E a2 (gx_gA x 16 (a2 : Int32).toNatClampNeg) (gx_gA x 17 (a2 : Int32).toNatClampNeg)) (fun a9 o9 h1 h2 => sc_Floor_cover_2_19 C hR hr hlk a2 (gx_gA x 16 (a2 : Int32).toNatClampNeg) (gx_gA x 17 (a2 : Int32).toNatClampNeg) a9 o9 h1 h2) gx_fuel (gx_gA x 17 (a2 : Int32).toNatClampNeg, x) e12 he12 ?_ : pp_Floor_cover_2_19 K E a2 (gx_gA x 16 (a2 : Int32).toNatClampNeg) (gx_gA x 17 (a2 : Int32).toNatClampNeg) (gx_gA x 17 (a2 : Int32).toNatClampNeg, x))
  unfold pq_Floor_cover_2_19
  cases hf
  exact gx_vret C hr hlk hk d_Floor_cover_94

def s_Floor_lay_2_2  (a : Int32 × gx_S) : Option ((Int32 × gx_S) ⊕ (Nat × Int32 × gx_S)) :=
  if 81 ≤ a.1 then (some (.inr (0, a.1, a.2))) else (gx_ck a.1 81 (if (gx_gA a.2 0 (a.1 : Int32).toNatClampNeg) = 0 then (gx_ck a.1 81 (some (.inl (a.1 + 1, gx_sA a.2 11 (a.1 : Int32).toNatClampNeg (-1))))) else (gx_ck a.1 81 (some (.inl (a.1 + 1, gx_sA a.2 11 (a.1 : Int32).toNatClampNeg (-2)))))))
def s_Floor_lay_2_40  (a : Int32 × gx_S) : Option ((Int32 × gx_S) ⊕ (Nat × Int32 × gx_S)) :=
  if (gx_gI a.2 3) ≤ a.1 then (some (.inr (0, a.1, a.2))) else (gx_bd (f_Floor_cover_2 a.1 a.2) (fun r8 x8 => some (.inl (a.1 + 1, x8))))
def f_Floor_lay_2  (x : gx_S) : Option (Int32 × gx_S) :=
  gx_bl (gx_it (s_Floor_lay_2_2 ) gx_fuel (0, x)) (fun e6 => gx_bl (gx_it (s_Floor_lay_2_40 ) gx_fuel (0, e6.2.2)) (fun e9 => some (0, e9.2.2)))
abbrev rm_Floor_lay_2 : Room := { frames := 2, cells := 0, slots := 0, locals := 48 }
def pp_Floor_lay_2_2 (K : gx_K) (E : gx_E)  (a : Int32 × gx_S) : Prop := gx_G K E (gx_AB true E K.s.heap.size) 0 0 (a.2) 2 [(0, .ref (gx_ad E 15)), (1, .ref (gx_ad E 22)), (2, .int a.1)] []
def pq_Floor_lay_2_2 (K : gx_K) (E : gx_E)  (b : Nat × Int32 × gx_S) : Prop := gx_G K E (gx_AB true E K.s.heap.size) 0 0 (b.2.2) 38 [(0, .ref (gx_ad E 15)), (1, .ref (gx_ad E 22))] []
def pp_Floor_lay_2_40 (K : gx_K) (E : gx_E)  (a : Int32 × gx_S) : Prop := gx_G K E (gx_AB true E K.s.heap.size) 0 0 (a.2) 40 [(0, .ref (gx_ad E 15)), (1, .ref (gx_ad E 22)), (2, .int a.1)] []
def pq_Floor_lay_2_40 (K : gx_K) (E : gx_E)  (b : Nat × Int32 × gx_S) : Prop := gx_G K E (gx_AB true E K.s.heap.size) 0 0 (b.2.2) 63 [] []
set_option maxHeartbeats 4000000 in
set_option maxRecDepth 100000 in
theorem sc_Floor_lay_2_2 {K : gx_K} {E : gx_E} (C : gx_C K E "CaseLayout$Floor" prog_3_method_2_code 3) (hR : K.R = rm_Floor_lay_2) (hr : K.meth.sig.returnType = none) (hlk : K.meth.locks = false)  (a : Int32 × gx_S) (o : (Int32 × gx_S) ⊕ (Nat × Int32 × gx_S)) (hf : s_Floor_lay_2_2  a = some o) (hk : gx_or (pp_Floor_lay_2_2 K E ) (pq_Floor_lay_2_2 K E ) o) : pp_Floor_lay_2_2 K E  a := by
  unfold s_Floor_lay_2_2 at hf
  unfold pp_Floor_lay_2_2
  refine gx_iload_n C 2 d_Floor_lay_2 rfl rfl ?_
  refine gx_bipush C (v := 81) d_Floor_lay_3 (by decide) ?_
  refine gx_icmp_ge (tgt := 38) C d_Floor_lay_5 (by decide) (fun h1 => ?_) (fun h1 => ?_)
  · have hf := (if_pos h1).symm.trans hf
    cases hf
    have hk : pq_Floor_lay_2_2 K E  _ := hk
    unfold pq_Floor_lay_2_2 at hk
    refine gx_lv (lv' := [(0, .ref (gx_ad E 15)), (1, .ref (gx_ad E 22))]) [0, 1] rfl ?_
    exact hk
  · have hf := (if_neg h1).symm.trans hf
    refine gx_aload_n C 0 d_Floor_lay_8 rfl rfl ?_
    refine gx_get C iw_Floor 15 (gx_w15 E _) rfl 1 (by decide) gw_161 rfl rfl d_Floor_lay_9 ?_
    refine gx_iload_n C 2 d_Floor_lay_12 rfl rfl ?_
    refine gx_aload_n C 0 d_Floor_lay_13 rfl rfl ?_
    refine gx_get C iw_Floor 15 (gx_w15 E _) rfl 0 (by decide) gw_160 rfl rfl d_Floor_lay_14 ?_
    refine gx_getN C iw_Grid 0 (gx_w0 E _) rfl 2 (by decide) gn_48 rfl rfl d_Floor_lay_17 ?_
    refine gx_iload_n C 2 d_Floor_lay_20 rfl rfl ?_
    obtain ⟨hi2, hf⟩ := gx_ck_some hf
    refine gx_zald C 1 1 (gx_w1 E _) rfl hi2 d_Floor_lay_21 ?_
    refine gx_if_eq (tgt := 30) C d_Floor_lay_22 (by decide) (fun h3 => ?_) (fun h3 => ?_)
    · have hf := (if_pos h3).symm.trans hf
      refine gx_iconst C (v := (-1)) d_Floor_lay_30 (by decide) ?_
      obtain ⟨hi4, hf⟩ := gx_ck_some hf
      refine gx_iast C (x' := gx_sA a.2 11 (a.1 : Int32).toNatClampNeg (-1)) 16 0 (gx_w16 E _) rfl hi4 (gx_q16 E _ _ _) d_Floor_lay_31 ?_
      refine gx_iinc C (v := a.1 + 1) (lv' := [(2, .int (a.1 + 1)), (0, .ref (gx_ad E 15)), (1, .ref (gx_ad E 22))]) 2 d_Floor_lay_32 rfl rfl (by decide) rfl ?_
      refine gx_goto (tgt := 2) C d_Floor_lay_35 (by decide) ?_
      cases hf
      refine gx_lv (lv' := [(0, .ref (gx_ad E 15)), (1, .ref (gx_ad E 22)), (2, .int (a.1 + 1))]) [1, 2, 0] rfl ?_
      exact hk
    · have hf := (if_neg h3).symm.trans hf
      refine gx_bipush C (v := (-2)) d_Floor_lay_25 (by decide) ?_
      refine gx_goto (tgt := 31) C d_Floor_lay_27 (by decide) ?_
      obtain ⟨hi5, hf⟩ := gx_ck_some hf
      refine gx_iast C (x' := gx_sA a.2 11 (a.1 : Int32).toNatClampNeg (-2)) 16 0 (gx_w16 E _) rfl hi5 (gx_q16 E _ _ _) d_Floor_lay_31 ?_
      refine gx_iinc C (v := a.1 + 1) (lv' := [(2, .int (a.1 + 1)), (0, .ref (gx_ad E 15)), (1, .ref (gx_ad E 22))]) 2 d_Floor_lay_32 rfl rfl (by decide) rfl ?_
      refine gx_goto (tgt := 2) C d_Floor_lay_35 (by decide) ?_
      cases hf
      refine gx_lv (lv' := [(0, .ref (gx_ad E 15)), (1, .ref (gx_ad E 22)), (2, .int (a.1 + 1))]) [1, 2, 0] rfl ?_
      exact hk
set_option maxHeartbeats 4000000 in
set_option maxRecDepth 100000 in
theorem sc_Floor_lay_2_40 {K : gx_K} {E : gx_E} (C : gx_C K E "CaseLayout$Floor" prog_3_method_2_code 3) (hR : K.R = rm_Floor_lay_2) (hr : K.meth.sig.returnType = none) (hlk : K.meth.locks = false)  (a : Int32 × gx_S) (o : (Int32 × gx_S) ⊕ (Nat × Int32 × gx_S)) (hf : s_Floor_lay_2_40  a = some o) (hk : gx_or (pp_Floor_lay_2_40 K E ) (pq_Floor_lay_2_40 K E ) o) : pp_Floor_lay_2_40 K E  a := by
  unfold s_Floor_lay_2_40 at hf
  unfold pp_Floor_lay_2_40
  refine gx_iload_n C 2 d_Floor_lay_40 rfl rfl ?_
  refine gx_aload_n C 1 d_Floor_lay_41 rfl rfl ?_
  refine gx_getN C iw_Layout 22 (gx_w22 E _) rfl 0 (by decide) gn_190 rfl rfl d_Floor_lay_42 ?_
  refine gx_getN C iw_Things 3 (gx_w3 E _) rfl 5 (by decide) gn_89 rfl rfl d_Floor_lay_45 ?_
  refine gx_icmp_ge (tgt := 63) C d_Floor_lay_48 (by decide) (fun h7 => ?_) (fun h7 => ?_)
  · have hf := (if_pos h7).symm.trans hf
    cases hf
    have hk : pq_Floor_lay_2_40 K E  _ := hk
    unfold pq_Floor_lay_2_40 at hk
    refine gx_lv (lv' := []) [] rfl ?_
    exact hk
  · have hf := (if_neg h7).symm.trans hf
    refine gx_aload_n C 0 d_Floor_lay_51 rfl rfl ?_
    refine gx_aload_n C 1 d_Floor_lay_52 rfl rfl ?_
    refine gx_iload_n C 2 d_Floor_lay_53 rfl rfl ?_
    obtain ⟨r8, x8, hc8, hf⟩ := gx_bd_some hf
    refine gx_cVv (n2 := 0) (k2 := 0) C (As := [.ref (gx_ad E 22), .int a.1]) (rest := []) 15 2 (c_Floor_cover_2 K.l a.1 a.2 _ hc8) (Or.inl rfl) rfl (gx_goodV gw_548 gw_550 gs_7 gw_7 gw_551) (by decide +kernel) (gx_w15 E _) rfl (by rw [hR]; decide) rfl rfl (Nat.le_of_ble_eq_true rfl) d_Floor_lay_54 (by rw [hR]; decide) rfl rfl ?_
    refine gx_iinc C (v := a.1 + 1) (lv' := [(2, .int (a.1 + 1)), (0, .ref (gx_ad E 15)), (1, .ref (gx_ad E 22))]) 2 d_Floor_lay_57 rfl rfl (by decide) rfl ?_
    refine gx_goto (tgt := 40) C d_Floor_lay_60 (by decide) ?_
    cases hf
    refine gx_lv (lv' := [(0, .ref (gx_ad E 15)), (1, .ref (gx_ad E 22)), (2, .int (a.1 + 1))]) [1, 2, 0] rfl ?_
    exact hk
set_option maxHeartbeats 4000000 in
set_option maxRecDepth 100000 in
theorem c_Floor_lay_2 (l : Launch)  (x : gx_S) (o : Int32 × gx_S) (hf : f_Floor_lay_2  x = some o) : gx_Mv true l y_Floor_lay prog_3_method_2_code 3 rm_Floor_lay_2 (fun E => [.ref (gx_ad E 15), .ref (gx_ad E 22)]) x o.2 := by
  refine gx_metv (own := "CaseLayout$Floor") (by decide) rfl (fun E => Nat.le_of_ble_eq_true rfl) (fun K E hl0 hR hr hlk hk C => ?_)
  subst hl0
  unfold f_Floor_lay_2 at hf
  show gx_G K E _ 0 0 x 0 [(0, .ref (gx_ad E 15)), (1, .ref (gx_ad E 22))] []
  refine gx_iconst C (v := 0) d_Floor_lay_0 (by decide) ?_
  refine gx_istore_n C (lv' := [(2, .int 0), (0, .ref (gx_ad E 15)), (1, .ref (gx_ad E 22))]) d_Floor_lay_1 rfl (by decide) rfl ?_
  refine gx_lv (lv' := [(0, .ref (gx_ad E 15)), (1, .ref (gx_ad E 22)), (2, .int 0)]) [1, 2, 0] rfl ?_
  obtain ⟨e6, he6, hf⟩ := gx_bl_some hf
  refine (gx_loop (P := pp_Floor_lay_2_2 K E ) (Q := pq_Floor_lay_2_2 K E ) (fun a9 o9 h1 h2 => sc_Floor_lay_2_2 C hR hr hlk  a9 o9 h1 h2) gx_fuel (0, x) e6 he6 ?_ : pp_Floor_lay_2_2 K E  (0, x))
  unfold pq_Floor_lay_2_2
  refine gx_iconst C (v := 0) d_Floor_lay_38 (by decide) ?_
  refine gx_istore_n C (lv' := [(2, .int 0), (0, .ref (gx_ad E 15)), (1, .ref (gx_ad E 22))]) d_Floor_lay_39 rfl (by decide) rfl ?_
  refine gx_lv (lv' := [(0, .ref (gx_ad E 15)), (1, .ref (gx_ad E 22)), (2, .int 0)]) [1, 2, 0] rfl ?_
  obtain ⟨e9, he9, hf⟩ := gx_bl_some hf
  refine (gx_loop (P := pp_Floor_lay_2_40 K E ) (Q := pq_Floor_lay_2_40 K E ) (fun a9 o9 h1 h2 => sc_Floor_lay_2_40 C hR hr hlk  a9 o9 h1 h2) gx_fuel (0, e6.2.2) e9 he9 ?_ : pp_Floor_lay_2_40 K E  (0, e6.2.2))
  unfold pq_Floor_lay_2_40
  cases hf
  exact gx_vret C hr hlk hk d_Floor_lay_63
