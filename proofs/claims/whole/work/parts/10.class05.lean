def f_Search_judge (a1 : Int32) (x : gx_S) : Option (Int32 × gx_S) :=
  if (gx_gI x 10) < a1 then (gx_bd (f_Floor_lay  x) (fun r2 x2 => gx_bd (f_Search_allSeen  x2) (fun r3 x3 => if r3 = 0 then (some (0, x3)) else (gx_bd (f_Search_allEscape  x3) (fun r5 x5 => if r5 = 0 then (some (0, x5)) else (gx_bd (f_Layout_copyFrom  x5) (fun r7 x7 => some (0, gx_sI x7 10 a1)))))))) else (some (0, x))
abbrev rm_Search_judge : Room := { frames := 4, cells := 0, slots := 0, locals := 96 }
set_option maxHeartbeats 4000000 in
set_option maxRecDepth 100000 in
theorem c_Search_judge (l : Launch) (a1 : Int32) (x : gx_S) (o : Int32 × gx_S) (hf : f_Search_judge a1 x = some o) : gx_Mv true l y_Search_judge prog_7_method_9_code 2 rm_Search_judge (fun E => [.ref (gx_ad E 25), .int a1]) x o.2 := by
  refine gx_metv (own := "CaseLayout$Search") (by decide) rfl (fun E => Nat.le_of_ble_eq_true rfl) (fun K E hl0 hR hr hlk hk C => ?_)
  subst hl0
  unfold f_Search_judge at hf
  show gx_G K E _ 0 0 x 0 [(0, .ref (gx_ad E 25)), (1, .int a1)] []
  refine gx_iload_n C 1 d_Search_judge_0 rfl rfl ?_
  refine gx_aload_n C 0 d_Search_judge_1 rfl rfl ?_
  refine gx_get C iw_Search 25 (gx_w25 E _) rfl 11 (by decide) gw_219 rfl rfl d_Search_judge_2 ?_
  refine gx_icmp_gt (tgt := 9) C d_Search_judge_5 (by decide) (fun h1 => ?_) (fun h1 => ?_)
  · have hf := (if_pos h1).symm.trans hf
    refine gx_aload_n C 0 d_Search_judge_9 rfl rfl ?_
    refine gx_get C iw_Search 25 (gx_w25 E _) rfl 4 (by decide) gw_210 rfl rfl d_Search_judge_10 ?_
    refine gx_aload_n C 0 d_Search_judge_13 rfl rfl ?_
    refine gx_get C iw_Search 25 (gx_w25 E _) rfl 5 (by decide) gw_211 rfl rfl d_Search_judge_14 ?_
    obtain ⟨r2, x2, hc2, hf⟩ := gx_bd_some hf
    refine gx_cVv (n2 := 0) (k2 := 0) C (As := [.ref (gx_ad E 19)]) (rest := []) 15 1 (c_Floor_lay K.l  x _ hc2) (Or.inl rfl) rfl (gx_goodV gw_544 gw_545 gw_546 gw_7 gw_547) (by decide +kernel) (gx_w15 E _) rfl (by rw [hR]; decide) rfl rfl (Nat.le_of_ble_eq_true rfl) d_Search_judge_17 (by rw [hR]; decide) rfl rfl ?_
    refine gx_aload_n C 0 d_Search_judge_20 rfl rfl ?_
    obtain ⟨r3, x3, hc3, hf⟩ := gx_bd_some hf
    refine gx_cVi (n2 := 0) (k2 := 0) C (As := []) (rest := []) 25 0 (c_Search_allSeen K.l  x2 _ hc3) (Or.inl rfl) rfl (gx_goodV gw_554 gw_556 gs_8 gw_8 gw_557) (by decide +kernel) (gx_w25 E _) rfl (by rw [hR]; decide) rfl rfl (Nat.le_of_ble_eq_true rfl) d_Search_judge_21 (by rw [hR]; decide) rfl rfl ?_
    refine gx_if_eq (tgt := 50) C d_Search_judge_24 (by decide) (fun h4 => ?_) (fun h4 => ?_)
    · have hf := (if_pos h4).symm.trans hf
      cases hf
      exact gx_vret C hr hlk hk d_Search_judge_50
    · have hf := (if_neg h4).symm.trans hf
      refine gx_aload_n C 0 d_Search_judge_27 rfl rfl ?_
      obtain ⟨r5, x5, hc5, hf⟩ := gx_bd_some hf
      refine gx_cVi (n2 := 0) (k2 := 0) C (As := []) (rest := []) 25 0 (c_Search_allEscape K.l  x3 _ hc5) (Or.inl rfl) rfl (gx_goodV gw_575 gw_577 gs_10 gw_8 gw_578) (by decide +kernel) (gx_w25 E _) rfl (by rw [hR]; decide) rfl rfl (Nat.le_of_ble_eq_true rfl) d_Search_judge_28 (by rw [hR]; decide) rfl rfl ?_
      refine gx_if_eq (tgt := 50) C d_Search_judge_31 (by decide) (fun h6 => ?_) (fun h6 => ?_)
      · have hf := (if_pos h6).symm.trans hf
        cases hf
        exact gx_vret C hr hlk hk d_Search_judge_50
      · have hf := (if_neg h6).symm.trans hf
        refine gx_aload_n C 0 d_Search_judge_34 rfl rfl ?_
        refine gx_get C iw_Search 25 (gx_w25 E _) rfl 6 (by decide) gw_212 rfl rfl d_Search_judge_35 ?_
        refine gx_aload_n C 0 d_Search_judge_38 rfl rfl ?_
        refine gx_get C iw_Search 25 (gx_w25 E _) rfl 5 (by decide) gw_211 rfl rfl d_Search_judge_39 ?_
        obtain ⟨r7, x7, hc7, hf⟩ := gx_bd_some hf
        refine gx_cVv (n2 := 0) (k2 := 0) C (As := [.ref (gx_ad E 19)]) (rest := []) 22 1 (c_Layout_copyFrom K.l  x5 _ hc7) (Or.inl rfl) rfl (gx_goodV gw_598 gw_599 gw_600 gw_9 gw_601) (by decide +kernel) (gx_w22 E _) rfl (by rw [hR]; decide) rfl rfl (Nat.le_of_ble_eq_true rfl) d_Search_judge_42 (by rw [hR]; decide) rfl rfl ?_
        refine gx_aload_n C 0 d_Search_judge_45 rfl rfl ?_
        refine gx_iload_n C 1 d_Search_judge_46 rfl rfl ?_
        refine gx_put C (ty := .int) (x' := gx_sI x7 10 a1) iw_Search ty_Search tk_Search tn_Search 25 (gx_w25 E _) rfl 11 (by decide) gw_219 rfl rfl (by decide +kernel) rfl rfl (Nat.le_of_ble_eq_true rfl) (gx_p25_11 E _ _) d_Search_judge_47 ?_
        cases hf
        exact gx_vret C hr hlk hk d_Search_judge_50
  · have hf := (if_neg h1).symm.trans hf
    cases hf
    exact gx_vret C hr hlk hk d_Search_judge_8

def f_Layout_between (a0 : Int32) (a1 : Int32) (a2 : Int32) (a3 : Int32) (x : gx_S) : Option (Int32 × gx_S) :=
  some (if ((a2 - a0) - a1) < ((a0 - a2) - a3) then ((a0 - a2) - a3) else ((a2 - a0) - a1), x)
abbrev rm_Layout_between : Room := { frames := 1, cells := 0, slots := 0, locals := 13 }
set_option maxHeartbeats 4000000 in
set_option maxRecDepth 100000 in
theorem c_Layout_between (l : Launch) (a0 : Int32) (a1 : Int32) (a2 : Int32) (a3 : Int32) (x : gx_S) (o : Int32 × gx_S) (hf : f_Layout_between a0 a1 a2 a3 x = some o) : gx_Mi false l y_Layout_between prog_5_method_4_code 4 (some .int) rm_Layout_between (fun E => [.int a0, .int a1, .int a2, .int a3]) x o.1 o.2 := by
  refine gx_meti (own := "CaseLayout$Layout") (by decide) rfl (fun E => Nat.le_of_ble_eq_true rfl) (fun K E hl0 hR hr hlk hk C => ?_)
  subst hl0
  unfold f_Layout_between at hf
  show gx_G K E _ 0 0 x 0 [(0, .int a0), (1, .int a1), (2, .int a2), (3, .int a3)] []
  refine gx_iload_n C 2 d_Layout_between_0 rfl rfl ?_
  refine gx_iload_n C 0 d_Layout_between_1 rfl rfl ?_
  refine gx_isub C d_Layout_between_2 ?_
  refine gx_iload_n C 1 d_Layout_between_3 rfl rfl ?_
  refine gx_isub C d_Layout_between_4 ?_
  refine gx_iload_n C 0 d_Layout_between_5 rfl rfl ?_
  refine gx_iload_n C 2 d_Layout_between_6 rfl rfl ?_
  refine gx_isub C d_Layout_between_7 ?_
  refine gx_iload_n C 3 d_Layout_between_8 rfl rfl ?_
  refine gx_isub C d_Layout_between_9 ?_
  refine gx_mmax C gw_616 gw_36 gw_3 gw_37 (by rw [hR]; decide) (by rw [hR]; exact Nat.le_of_ble_eq_true rfl) (by rw [hR]; decide) (by rw [hR]; decide) d_Layout_between_10 ?_
  cases hf
  exact gx_iret C hr hlk hk d_Layout_between_13

def f_Layout_gapOf (a1 : Int32) (a2 : Int32) (x : gx_S) : Option (Int32 × gx_S) :=
  gx_ck a1 7 (gx_ck a1 7 (gx_ck a2 7 (gx_ck a2 7 (gx_bd (f_Layout_between (gx_gA x 14 (a1 : Int32).toNatClampNeg) (gx_gA x 2 (a1 : Int32).toNatClampNeg) (gx_gA x 14 (a2 : Int32).toNatClampNeg) (gx_gA x 2 (a2 : Int32).toNatClampNeg) x) (fun r5 x5 => gx_ck a1 7 (gx_ck a1 7 (gx_ck a2 7 (gx_ck a2 7 (gx_bd (f_Layout_between (gx_gA x5 15 (a1 : Int32).toNatClampNeg) (gx_gA x5 3 (a1 : Int32).toNatClampNeg) (gx_gA x5 15 (a2 : Int32).toNatClampNeg) (gx_gA x5 3 (a2 : Int32).toNatClampNeg) x5) (fun r10 x10 => some (if r5 < r10 then r10 else r5, x10)))))))))))
abbrev rm_Layout_gapOf : Room := { frames := 2, cells := 0, slots := 0, locals := 36 }
set_option maxHeartbeats 4000000 in
set_option maxRecDepth 100000 in
theorem c_Layout_gapOf (l : Launch) (a1 : Int32) (a2 : Int32) (x : gx_S) (o : Int32 × gx_S) (hf : f_Layout_gapOf a1 a2 x = some o) : gx_Mi false l y_Layout_gapOf prog_5_method_2_code 5 (some .int) rm_Layout_gapOf (fun E => [.ref (gx_ad E 19), .int a1, .int a2]) x o.1 o.2 := by
  refine gx_meti (own := "CaseLayout$Layout") (by decide) rfl (fun E => Nat.le_of_ble_eq_true rfl) (fun K E hl0 hR hr hlk hk C => ?_)
  subst hl0
  unfold f_Layout_gapOf at hf
  show gx_G K E _ 0 0 x 0 [(0, .ref (gx_ad E 19)), (1, .int a1), (2, .int a2)] []
  refine gx_aload_n C 0 d_Layout_gapOf_0 rfl rfl ?_
  refine gx_get C iw_Layout 19 (gx_w19 E _) rfl 1 (by decide) gw_191 rfl rfl d_Layout_gapOf_1 ?_
  refine gx_iload_n C 1 d_Layout_gapOf_4 rfl rfl ?_
  obtain ⟨hi1, hf⟩ := gx_ck_some hf
  refine gx_iald C 20 0 (gx_w20 E _) rfl hi1 d_Layout_gapOf_5 ?_
  refine gx_aload_n C 0 d_Layout_gapOf_6 rfl rfl ?_
  refine gx_get C iw_Layout 19 (gx_w19 E _) rfl 0 (by decide) gw_189 rfl rfl d_Layout_gapOf_7 ?_
  refine gx_getN C iw_Things 3 (gx_w3 E _) rfl 0 (by decide) gn_73 rfl rfl d_Layout_gapOf_10 ?_
  refine gx_iload_n C 1 d_Layout_gapOf_13 rfl rfl ?_
  obtain ⟨hi2, hf⟩ := gx_ck_some hf
  refine gx_iald C 4 0 (gx_w4 E _) rfl hi2 d_Layout_gapOf_14 ?_
  refine gx_aload_n C 0 d_Layout_gapOf_15 rfl rfl ?_
  refine gx_get C iw_Layout 19 (gx_w19 E _) rfl 1 (by decide) gw_191 rfl rfl d_Layout_gapOf_16 ?_
  refine gx_iload_n C 2 d_Layout_gapOf_19 rfl rfl ?_
  obtain ⟨hi3, hf⟩ := gx_ck_some hf
  refine gx_iald C 20 0 (gx_w20 E _) rfl hi3 d_Layout_gapOf_20 ?_
  refine gx_aload_n C 0 d_Layout_gapOf_21 rfl rfl ?_
  refine gx_get C iw_Layout 19 (gx_w19 E _) rfl 0 (by decide) gw_189 rfl rfl d_Layout_gapOf_22 ?_
  refine gx_getN C iw_Things 3 (gx_w3 E _) rfl 0 (by decide) gn_73 rfl rfl d_Layout_gapOf_25 ?_
  refine gx_iload_n C 2 d_Layout_gapOf_28 rfl rfl ?_
  obtain ⟨hi4, hf⟩ := gx_ck_some hf
  refine gx_iald C 4 0 (gx_w4 E _) rfl hi4 d_Layout_gapOf_29 ?_
  obtain ⟨r5, x5, hc5, hf⟩ := gx_bd_some hf
  refine gx_cSi (n2 := 0) (k2 := 0) C (As := [.int (gx_gA x 14 (a1 : Int32).toNatClampNeg), .int (gx_gA x 2 (a1 : Int32).toNatClampNeg), .int (gx_gA x 14 (a2 : Int32).toNatClampNeg), .int (gx_gA x 2 (a2 : Int32).toNatClampNeg)]) (rest := []) 4 (c_Layout_between K.l (gx_gA x 14 (a1 : Int32).toNatClampNeg) (gx_gA x 2 (a1 : Int32).toNatClampNeg) (gx_gA x 14 (a2 : Int32).toNatClampNeg) (gx_gA x 2 (a2 : Int32).toNatClampNeg) x _ hc5) (Or.inr rfl) rfl (gx_goodS gw_613 gw_614 gw_9 gw_615) (by decide +kernel) (by rw [hR]; decide) rfl rfl (Nat.le_of_ble_eq_true rfl) d_Layout_gapOf_30 (by rw [hR]; decide) rfl rfl ?_
  refine gx_istore_n C (lv' := [(3, .int r5), (0, .ref (gx_ad E 19)), (1, .int a1), (2, .int a2)]) d_Layout_gapOf_33 rfl (by decide) rfl ?_
  refine gx_aload_n C 1 d_Layout_gapOf_34 rfl rfl ?_
  refine gx_get C iw_Layout 19 (gx_w19 E _) rfl 2 (by decide) gw_195 rfl rfl d_Layout_gapOf_35 ?_
  refine gx_iload_n C 2 d_Layout_gapOf_38 rfl rfl ?_
  obtain ⟨hi6, hf⟩ := gx_ck_some hf
  refine gx_iald C 21 0 (gx_w21 E _) rfl hi6 d_Layout_gapOf_39 ?_
  refine gx_aload_n C 1 d_Layout_gapOf_40 rfl rfl ?_
  refine gx_get C iw_Layout 19 (gx_w19 E _) rfl 0 (by decide) gw_189 rfl rfl d_Layout_gapOf_41 ?_
  refine gx_getN C iw_Things 3 (gx_w3 E _) rfl 1 (by decide) gn_77 rfl rfl d_Layout_gapOf_44 ?_
  refine gx_iload_n C 2 d_Layout_gapOf_47 rfl rfl ?_
  obtain ⟨hi7, hf⟩ := gx_ck_some hf
  refine gx_iald C 5 0 (gx_w5 E _) rfl hi7 d_Layout_gapOf_48 ?_
  refine gx_aload_n C 1 d_Layout_gapOf_49 rfl rfl ?_
  refine gx_get C iw_Layout 19 (gx_w19 E _) rfl 2 (by decide) gw_195 rfl rfl d_Layout_gapOf_50 ?_
  refine gx_iload_n C 3 d_Layout_gapOf_53 rfl rfl ?_
  obtain ⟨hi8, hf⟩ := gx_ck_some hf
  refine gx_iald C 21 0 (gx_w21 E _) rfl hi8 d_Layout_gapOf_54 ?_
  refine gx_aload_n C 1 d_Layout_gapOf_55 rfl rfl ?_
  refine gx_get C iw_Layout 19 (gx_w19 E _) rfl 0 (by decide) gw_189 rfl rfl d_Layout_gapOf_56 ?_
  refine gx_getN C iw_Things 3 (gx_w3 E _) rfl 1 (by decide) gn_77 rfl rfl d_Layout_gapOf_59 ?_
  refine gx_iload_n C 3 d_Layout_gapOf_62 rfl rfl ?_
  obtain ⟨hi9, hf⟩ := gx_ck_some hf
  refine gx_iald C 5 0 (gx_w5 E _) rfl hi9 d_Layout_gapOf_63 ?_
  obtain ⟨r10, x10, hc10, hf⟩ := gx_bd_some hf
  refine gx_cSi (n2 := 0) (k2 := 0) C (As := [.int (gx_gA x5 15 (a1 : Int32).toNatClampNeg), .int (gx_gA x5 3 (a1 : Int32).toNatClampNeg), .int (gx_gA x5 15 (a2 : Int32).toNatClampNeg), .int (gx_gA x5 3 (a2 : Int32).toNatClampNeg)]) (rest := []) 4 (c_Layout_between K.l (gx_gA x5 15 (a1 : Int32).toNatClampNeg) (gx_gA x5 3 (a1 : Int32).toNatClampNeg) (gx_gA x5 15 (a2 : Int32).toNatClampNeg) (gx_gA x5 3 (a2 : Int32).toNatClampNeg) x5 _ hc10) (Or.inr rfl) rfl (gx_goodS gw_613 gw_614 gw_9 gw_615) (by decide +kernel) (by rw [hR]; decide) rfl rfl (Nat.le_of_ble_eq_true rfl) d_Layout_gapOf_64 (by rw [hR]; decide) rfl rfl ?_
  refine gx_istore C (lv' := [(4, .int r10), (3, .int r5), (0, .ref (gx_ad E 19)), (1, .int a1), (2, .int a2)]) d_Layout_gapOf_67 (by decide) rfl ?_
  refine gx_iload_n C 1 d_Layout_gapOf_69 rfl rfl ?_
  refine gx_iload C 0 d_Layout_gapOf_70 rfl ?_
  refine gx_mmax C gw_616 gw_36 gw_3 gw_37 (by rw [hR]; decide) (by rw [hR]; exact Nat.le_of_ble_eq_true rfl) (by rw [hR]; decide) (by rw [hR]; decide) d_Layout_gapOf_72 ?_
  cases hf
  exact gx_iret C hr hlk hk d_Layout_gapOf_75

def s_Search_keepsApart_2 (v1 : Int32) (a : Int32 × gx_S) : Option ((Int32 × gx_S) ⊕ (Nat × Int32 × gx_S)) :=
  if v1 ≤ a.1 then (some (.inr (1, a.1, a.2))) else (gx_bd (f_Layout_gapOf v1 a.1 a.2) (fun r2 x2 => gx_bd (f_CaseLayout_pairOf v1 a.1 x2) (fun r3 x3 => gx_ck r3 49 (if (gx_gA x3 5 (r3 : Int32).toNatClampNeg) ≤ r2 then (some (.inl (a.1 + 1, x3))) else (some (.inr (0, a.1, x3)))))))
def f_Search_keepsApart (a1 : Int32) (x : gx_S) : Option (Int32 × gx_S) :=
  gx_bl (gx_it (s_Search_keepsApart_2 a1) gx_fuel (0, x)) (fun e6 => if e6.1 = 0 then (some (0, e6.2.2)) else (some (1, e6.2.2)))
abbrev rm_Search_keepsApart : Room := { frames := 3, cells := 0, slots := 0, locals := 60 }
def pp_Search_keepsApart_2 (K : gx_K) (E : gx_E) (v1 : Int32) (a : Int32 × gx_S) : Prop := gx_G K E (gx_AB false E K.s.heap.size) 0 0 (a.2) 2 [(0, .ref (gx_ad E 25)), (1, .int v1), (2, .int a.1)] []
def pq_Search_keepsApart_2 (K : gx_K) (E : gx_E) (v1 : Int32) (b : Nat × Int32 × gx_S) : Prop := if b.1 = 0 then gx_G K E (gx_AB false E K.s.heap.size) 0 0 (b.2.2) 32 [] [] else (gx_G K E (gx_AB false E K.s.heap.size) 0 0 (b.2.2) 40 [] [])
set_option maxHeartbeats 4000000 in
set_option maxRecDepth 100000 in
theorem sc_Search_keepsApart_2 {K : gx_K} {E : gx_E} (C : gx_C K E "CaseLayout$Search" prog_7_method_7_code 3) (hR : K.R = rm_Search_keepsApart) (hr : K.meth.sig.returnType = (some .boolean)) (hlk : K.meth.locks = false) (v1 : Int32) (a : Int32 × gx_S) (o : (Int32 × gx_S) ⊕ (Nat × Int32 × gx_S)) (hf : s_Search_keepsApart_2 v1 a = some o) (hk : gx_or (pp_Search_keepsApart_2 K E v1) (pq_Search_keepsApart_2 K E v1) o) : pp_Search_keepsApart_2 K E v1 a := by
  unfold s_Search_keepsApart_2 at hf
  unfold pp_Search_keepsApart_2
  refine gx_iload_n C 2 d_Search_keepsApart_2 rfl rfl ?_
  refine gx_iload_n C 1 d_Search_keepsApart_3 rfl rfl ?_
  refine gx_icmp_ge (tgt := 40) C d_Search_keepsApart_4 (by decide) (fun h1 => ?_) (fun h1 => ?_)
  · have hf := (if_pos h1).symm.trans hf
    cases hf
    have hk : pq_Search_keepsApart_2 K E v1 _ := hk
    unfold pq_Search_keepsApart_2 at hk
    have hk := gx_ifn (by decide : ¬ ((1 : Nat) = 0)) hk
    refine gx_lv (lv' := []) [] rfl ?_
    exact hk
  · have hf := (if_neg h1).symm.trans hf
    refine gx_aload_n C 0 d_Search_keepsApart_7 rfl rfl ?_
    refine gx_get C iw_Search 25 (gx_w25 E _) rfl 5 (by decide) gw_211 rfl rfl d_Search_keepsApart_8 ?_
    refine gx_iload_n C 1 d_Search_keepsApart_11 rfl rfl ?_
    refine gx_iload_n C 2 d_Search_keepsApart_12 rfl rfl ?_
    obtain ⟨r2, x2, hc2, hf⟩ := gx_bd_some hf
    refine gx_cVi (n2 := 0) (k2 := 0) C (As := [.int v1, .int a.1]) (rest := []) 19 2 (c_Layout_gapOf K.l v1 a.1 a.2 _ hc2) (Or.inr rfl) rfl (gx_goodV gw_609 gw_610 gw_611 gw_9 gw_612) (by decide +kernel) (gx_w19 E _) rfl (by rw [hR]; decide) rfl rfl (Nat.le_of_ble_eq_true rfl) d_Search_keepsApart_13 (by rw [hR]; decide) rfl rfl ?_
    refine gx_aload_n C 0 d_Search_keepsApart_16 rfl rfl ?_
    refine gx_get C iw_Search 25 (gx_w25 E _) rfl 1 (by decide) gw_207 rfl rfl d_Search_keepsApart_17 ?_
    refine gx_getN C iw_Things 3 (gx_w3 E _) rfl 3 (by decide) gn_84 rfl rfl d_Search_keepsApart_20 ?_
    refine gx_iload_n C 1 d_Search_keepsApart_23 rfl rfl ?_
    refine gx_iload_n C 2 d_Search_keepsApart_24 rfl rfl ?_
    obtain ⟨r3, x3, hc3, hf⟩ := gx_bd_some hf
    refine gx_cSNi (n2 := 0) (k2 := 0) C (As := [.int v1, .int a.1]) (rest := [.ref (gx_ad E 7), .int r2]) 2 (c_CaseLayout_pairOf K.l v1 a.1 x2 _ hc3) (Or.inr rfl) rfl gw_457 gn_617 gw_1 gw_456 (by decide +kernel) (by rw [hR]; decide) rfl rfl (Nat.le_of_ble_eq_true rfl) d_Search_keepsApart_25 (by rw [hR]; decide) rfl rfl ?_
    obtain ⟨hi4, hf⟩ := gx_ck_some hf
    refine gx_iald C 7 0 (gx_w7 E _) rfl hi4 d_Search_keepsApart_28 ?_
    refine gx_icmp_ge (tgt := 34) C d_Search_keepsApart_29 (by decide) (fun h5 => ?_) (fun h5 => ?_)
    · have hf := (if_pos h5).symm.trans hf
      refine gx_iinc C (v := a.1 + 1) (lv' := [(2, .int (a.1 + 1)), (0, .ref (gx_ad E 25)), (1, .int v1)]) 2 d_Search_keepsApart_34 rfl rfl (by decide) rfl ?_
      refine gx_goto (tgt := 2) C d_Search_keepsApart_37 (by decide) ?_
      cases hf
      refine gx_lv (lv' := [(0, .ref (gx_ad E 25)), (1, .int v1), (2, .int (a.1 + 1))]) [1, 2, 0] rfl ?_
      exact hk
    · have hf := (if_neg h5).symm.trans hf
      cases hf
      have hk : pq_Search_keepsApart_2 K E v1 _ := hk
      unfold pq_Search_keepsApart_2 at hk
      have hk := gx_ifp (rfl : (0 : Nat) = 0) hk
      refine gx_lv (lv' := []) [] rfl ?_
      exact hk
set_option maxHeartbeats 4000000 in
set_option maxRecDepth 100000 in
theorem c_Search_keepsApart (l : Launch) (a1 : Int32) (x : gx_S) (o : Int32 × gx_S) (hf : f_Search_keepsApart a1 x = some o) : gx_Mi false l y_Search_keepsApart prog_7_method_7_code 3 (some .boolean) rm_Search_keepsApart (fun E => [.ref (gx_ad E 25), .int a1]) x o.1 o.2 := by
  refine gx_meti (own := "CaseLayout$Search") (by decide) rfl (fun E => Nat.le_of_ble_eq_true rfl) (fun K E hl0 hR hr hlk hk C => ?_)
  subst hl0
  unfold f_Search_keepsApart at hf
  show gx_G K E _ 0 0 x 0 [(0, .ref (gx_ad E 25)), (1, .int a1)] []
  refine gx_iconst C (v := 0) d_Search_keepsApart_0 (by decide) ?_
  refine gx_istore_n C (lv' := [(2, .int 0), (0, .ref (gx_ad E 25)), (1, .int a1)]) d_Search_keepsApart_1 rfl (by decide) rfl ?_
  refine gx_lv (lv' := [(0, .ref (gx_ad E 25)), (1, .int a1), (2, .int 0)]) [1, 2, 0] rfl ?_
  obtain ⟨e6, he6, hf⟩ := gx_bl_some hf
  refine (gx_loop (P := pp_Search_keepsApart_2 K E a1) (Q := pq_Search_keepsApart_2 K E a1) (fun a9 o9 h1 h2 => sc_Search_keepsApart_2 C hR hr hlk a1 a9 o9 h1 h2) gx_fuel (0, x) e6 he6 ?_ : pp_Search_keepsApart_2 K E a1 (0, x))
  unfold pq_Search_keepsApart_2
  by_cases ht7 : e6.1 = 0
  · rw [if_pos ht7]
    have hf := (if_pos ht7).symm.trans hf
    refine gx_iconst C (v := 0) d_Search_keepsApart_32 (by decide) ?_
    cases hf
    exact gx_zret C hr hlk hk (by decide) d_Search_keepsApart_33
  · rw [if_neg ht7]
    have hf := (if_neg ht7).symm.trans hf
    refine gx_iconst C (v := 1) d_Search_keepsApart_40 (by decide) ?_
    cases hf
    exact gx_zret C hr hlk hk (by decide) d_Search_keepsApart_41

def s_Search_gainOf_4 (v1 : Int32) (a : Int32 × Int32 × gx_S) : Option ((Int32 × Int32 × gx_S) ⊕ (Nat × Int32 × Int32 × gx_S)) :=
  if v1 ≤ a.2.1 then (some (.inr (0, a.1, a.2.1, a.2.2))) else (gx_bd (f_CaseLayout_pairOf v1 a.2.1 a.2.2) (fun r2 x2 => gx_ck r2 49 (if (gx_gA x2 6 (r2 : Int32).toNatClampNeg) = 0 then (some (.inl (a.1, a.2.1 + 1, x2))) else (gx_bd (f_Layout_gapOf v1 a.2.1 x2) (fun r5 x5 => if r5 = 0 then (some (.inl (a.1 + (gx_gA x2 6 (r2 : Int32).toNatClampNeg), a.2.1 + 1, x5))) else (some (.inl (a.1, a.2.1 + 1, x5))))))))
def f_Search_gainOf (a1 : Int32) (x : gx_S) : Option (Int32 × gx_S) :=
  gx_bl (gx_it (s_Search_gainOf_4 a1) gx_fuel (0, 0, x)) (fun e7 => some (e7.2.1, e7.2.2.2))
abbrev rm_Search_gainOf : Room := { frames := 3, cells := 0, slots := 0, locals := 60 }
def pp_Search_gainOf_4 (K : gx_K) (E : gx_E) (v1 : Int32) (a : Int32 × Int32 × gx_S) : Prop := gx_G K E (gx_AB false E K.s.heap.size) 0 0 (a.2.2) 4 [(0, .ref (gx_ad E 25)), (1, .int v1), (2, .int a.1), (3, .int a.2.1)] []
def pq_Search_gainOf_4 (K : gx_K) (E : gx_E) (v1 : Int32) (b : Nat × Int32 × Int32 × gx_S) : Prop := gx_G K E (gx_AB false E K.s.heap.size) 0 0 (b.2.2.2) 52 [(2, .int b.2.1)] []
set_option maxHeartbeats 4000000 in
set_option maxRecDepth 100000 in
theorem sc_Search_gainOf_4 {K : gx_K} {E : gx_E} (C : gx_C K E "CaseLayout$Search" prog_7_method_8_code 5) (hR : K.R = rm_Search_gainOf) (hr : K.meth.sig.returnType = (some .int)) (hlk : K.meth.locks = false) (v1 : Int32) (a : Int32 × Int32 × gx_S) (o : (Int32 × Int32 × gx_S) ⊕ (Nat × Int32 × Int32 × gx_S)) (hf : s_Search_gainOf_4 v1 a = some o) (hk : gx_or (pp_Search_gainOf_4 K E v1) (pq_Search_gainOf_4 K E v1) o) : pp_Search_gainOf_4 K E v1 a := by
  unfold s_Search_gainOf_4 at hf
  unfold pp_Search_gainOf_4
  refine gx_iload_n C 3 d_Search_gainOf_4 rfl rfl ?_
  refine gx_iload_n C 1 d_Search_gainOf_5 rfl rfl ?_
  refine gx_icmp_ge (tgt := 52) C d_Search_gainOf_6 (by decide) (fun h1 => ?_) (fun h1 => ?_)
  · have hf := (if_pos h1).symm.trans hf
    cases hf
    have hk : pq_Search_gainOf_4 K E v1 _ := hk
    unfold pq_Search_gainOf_4 at hk
    refine gx_lv (lv' := [(2, .int a.1)]) [2] rfl ?_
    exact hk
  · have hf := (if_neg h1).symm.trans hf
    refine gx_aload_n C 0 d_Search_gainOf_9 rfl rfl ?_
    refine gx_get C iw_Search 25 (gx_w25 E _) rfl 1 (by decide) gw_207 rfl rfl d_Search_gainOf_10 ?_
    refine gx_getN C iw_Things 3 (gx_w3 E _) rfl 4 (by decide) gn_87 rfl rfl d_Search_gainOf_13 ?_
    refine gx_iload_n C 1 d_Search_gainOf_16 rfl rfl ?_
    refine gx_iload_n C 3 d_Search_gainOf_17 rfl rfl ?_
    obtain ⟨r2, x2, hc2, hf⟩ := gx_bd_some hf
    refine gx_cSNi (n2 := 0) (k2 := 0) C (As := [.int v1, .int a.2.1]) (rest := [.ref (gx_ad E 8)]) 2 (c_CaseLayout_pairOf K.l v1 a.2.1 a.2.2 _ hc2) (Or.inr rfl) rfl gw_457 gn_617 gw_1 gw_456 (by decide +kernel) (by rw [hR]; decide) rfl rfl (Nat.le_of_ble_eq_true rfl) d_Search_gainOf_18 (by rw [hR]; decide) rfl rfl ?_
    obtain ⟨hi3, hf⟩ := gx_ck_some hf
    refine gx_iald C 8 0 (gx_w8 E _) rfl hi3 d_Search_gainOf_21 ?_
    refine gx_istore C (lv' := [(4, .int (gx_gA x2 6 (r2 : Int32).toNatClampNeg)), (0, .ref (gx_ad E 25)), (1, .int v1), (2, .int a.1), (3, .int a.2.1)]) d_Search_gainOf_22 (by decide) rfl ?_
    refine gx_iload C 0 d_Search_gainOf_24 rfl ?_
    refine gx_if_eq (tgt := 46) C d_Search_gainOf_26 (by decide) (fun h4 => ?_) (fun h4 => ?_)
    · have hf := (if_pos h4).symm.trans hf
      refine gx_iinc C (v := a.2.1 + 1) (lv' := [(3, .int (a.2.1 + 1)), (4, .int (gx_gA x2 6 (r2 : Int32).toNatClampNeg)), (0, .ref (gx_ad E 25)), (1, .int v1), (2, .int a.1)]) 4 d_Search_gainOf_46 rfl rfl (by decide) rfl ?_
      refine gx_goto (tgt := 4) C d_Search_gainOf_49 (by decide) ?_
      cases hf
      refine gx_lv (lv' := [(0, .ref (gx_ad E 25)), (1, .int v1), (2, .int a.1), (3, .int (a.2.1 + 1))]) [2, 3, 4, 0] rfl ?_
      exact hk
    · have hf := (if_neg h4).symm.trans hf
      refine gx_aload_n C 1 d_Search_gainOf_29 rfl rfl ?_
      refine gx_get C iw_Search 25 (gx_w25 E _) rfl 5 (by decide) gw_211 rfl rfl d_Search_gainOf_30 ?_
      refine gx_iload_n C 2 d_Search_gainOf_33 rfl rfl ?_
      refine gx_iload_n C 4 d_Search_gainOf_34 rfl rfl ?_
      obtain ⟨r5, x5, hc5, hf⟩ := gx_bd_some hf
      refine gx_cVi (n2 := 0) (k2 := 0) C (As := [.int v1, .int a.2.1]) (rest := []) 19 2 (c_Layout_gapOf K.l v1 a.2.1 x2 _ hc5) (Or.inr rfl) rfl (gx_goodV gw_609 gw_610 gw_611 gw_9 gw_612) (by decide +kernel) (gx_w19 E _) rfl (by rw [hR]; decide) rfl rfl (Nat.le_of_ble_eq_true rfl) d_Search_gainOf_35 (by rw [hR]; decide) rfl rfl ?_
      refine gx_if_ne (tgt := 46) C d_Search_gainOf_38 (by decide) (fun h6 => ?_) (fun h6 => ?_)
      · have hf := (if_neg h6).symm.trans hf
        refine gx_iinc C (v := a.2.1 + 1) (lv' := [(3, .int (a.2.1 + 1)), (4, .int (gx_gA x2 6 (r2 : Int32).toNatClampNeg)), (0, .ref (gx_ad E 25)), (1, .int v1), (2, .int a.1)]) 4 d_Search_gainOf_46 rfl rfl (by decide) rfl ?_
        refine gx_goto (tgt := 4) C d_Search_gainOf_49 (by decide) ?_
        cases hf
        refine gx_lv (lv' := [(0, .ref (gx_ad E 25)), (1, .int v1), (2, .int a.1), (3, .int (a.2.1 + 1))]) [2, 3, 4, 0] rfl ?_
        exact hk
      · have hf := (if_pos h6).symm.trans hf
        refine gx_iload_n C 3 d_Search_gainOf_41 rfl rfl ?_
        refine gx_iload C 0 d_Search_gainOf_42 rfl ?_
        refine gx_iadd C d_Search_gainOf_44 ?_
        refine gx_istore_n C (lv' := [(2, .int (a.1 + (gx_gA x2 6 (r2 : Int32).toNatClampNeg))), (4, .int (gx_gA x2 6 (r2 : Int32).toNatClampNeg)), (0, .ref (gx_ad E 25)), (1, .int v1), (3, .int a.2.1)]) d_Search_gainOf_45 rfl (by decide) rfl ?_
        refine gx_iinc C (v := a.2.1 + 1) (lv' := [(3, .int (a.2.1 + 1)), (2, .int (a.1 + (gx_gA x2 6 (r2 : Int32).toNatClampNeg))), (4, .int (gx_gA x2 6 (r2 : Int32).toNatClampNeg)), (0, .ref (gx_ad E 25)), (1, .int v1)]) 4 d_Search_gainOf_46 rfl rfl (by decide) rfl ?_
        refine gx_goto (tgt := 4) C d_Search_gainOf_49 (by decide) ?_
        cases hf
        refine gx_lv (lv' := [(0, .ref (gx_ad E 25)), (1, .int v1), (2, .int (a.1 + (gx_gA x2 6 (r2 : Int32).toNatClampNeg))), (3, .int (a.2.1 + 1))]) [3, 4, 1, 0] rfl ?_
        exact hk
set_option maxHeartbeats 4000000 in
set_option maxRecDepth 100000 in
theorem c_Search_gainOf (l : Launch) (a1 : Int32) (x : gx_S) (o : Int32 × gx_S) (hf : f_Search_gainOf a1 x = some o) : gx_Mi false l y_Search_gainOf prog_7_method_8_code 5 (some .int) rm_Search_gainOf (fun E => [.ref (gx_ad E 25), .int a1]) x o.1 o.2 := by
  refine gx_meti (own := "CaseLayout$Search") (by decide) rfl (fun E => Nat.le_of_ble_eq_true rfl) (fun K E hl0 hR hr hlk hk C => ?_)
  subst hl0
  unfold f_Search_gainOf at hf
  show gx_G K E _ 0 0 x 0 [(0, .ref (gx_ad E 25)), (1, .int a1)] []
  refine gx_iconst C (v := 0) d_Search_gainOf_0 (by decide) ?_
  refine gx_istore_n C (lv' := [(2, .int 0), (0, .ref (gx_ad E 25)), (1, .int a1)]) d_Search_gainOf_1 rfl (by decide) rfl ?_
  refine gx_iconst C (v := 0) d_Search_gainOf_2 (by decide) ?_
  refine gx_istore_n C (lv' := [(3, .int 0), (2, .int 0), (0, .ref (gx_ad E 25)), (1, .int a1)]) d_Search_gainOf_3 rfl (by decide) rfl ?_
  refine gx_lv (lv' := [(0, .ref (gx_ad E 25)), (1, .int a1), (2, .int 0), (3, .int 0)]) [2, 3, 1, 0] rfl ?_
  obtain ⟨e7, he7, hf⟩ := gx_bl_some hf
  refine (gx_loop (P := pp_Search_gainOf_4 K E a1) (Q := pq_Search_gainOf_4 K E a1) (fun a9 o9 h1 h2 => sc_Search_gainOf_4 C hR hr hlk a1 a9 o9 h1 h2) gx_fuel (0, 0, x) e7 he7 ?_ : pp_Search_gainOf_4 K E a1 (0, 0, x))
  unfold pq_Search_gainOf_4
  refine gx_iload_n C 0 d_Search_gainOf_52 rfl rfl ?_
  cases hf
  exact gx_iret C hr hlk hk d_Search_gainOf_53

abbrev rm_Search_tryThing (n : Nat) : Room := { frames := 5 + n, cells := 0, slots := 0, locals := 117 + n * 24 }
def j_Search_tryThing_17 (rec : Int32 → Int32 → gx_S → Option (Int32 × gx_S)) (v2 : Int32) (x : gx_S) : Option (Int32 × gx_S) :=
  gx_bd (f_Search_judge v2 x) (fun r2 x2 => some (1, x2))
def s_Search_tryThing_26 (rec : Int32 → Int32 → gx_S → Option (Int32 × gx_S)) (v1 : Int32) (v2 : Int32) (a : Int32 × gx_S) : Option ((Int32 × gx_S) ⊕ (Nat × Int32 × gx_S)) :=
  gx_ck v1 7 (if (gx_gA a.2 19 (v1 : Int32).toNatClampNeg) ≤ a.1 then (some (.inr (2, a.1, a.2))) else (gx_ck ((v1 * 81) + a.1) 567 (gx_ck v1 7 (gx_ck v1 7 (gx_bd (f_Search_keepsApart v1 (gx_sA (gx_sA a.2 14 (v1 : Int32).toNatClampNeg ((gx_gA a.2 18 ((v1 * 81) + a.1 : Int32).toNatClampNeg) - (gx_gA a.2 18 ((v1 * 81) + a.1 : Int32).toNatClampNeg) / 9 * 9)) 15 (v1 : Int32).toNatClampNeg ((gx_gA a.2 18 ((v1 * 81) + a.1 : Int32).toNatClampNeg) / 9))) (fun r9 x9 => if r9 = 0 then (some (.inl (a.1 + 1, x9))) else (if (gx_gI x9 9) < (gx_gI x9 8) then (gx_bd (f_Search_gainOf v1 (gx_sI x9 9 ((gx_gI x9 9) + 1))) (fun r12 x12 => gx_bd (rec (v1 + 1) (v2 + r12) x12) (fun r13 x13 => if r13 = 0 then (some (.inr (1, a.1, x13))) else (some (.inl (a.1 + 1, x13)))))) else (some (.inr (0, a.1, x9))))))))))
def F_Search_tryThing (rec : Int32 → Int32 → gx_S → Option (Int32 × gx_S)) (a1 : Int32) (a2 : Int32) (x : gx_S) : Option (Int32 × gx_S) :=
  if (gx_gI x 3) ≤ a1 then (j_Search_tryThing_17 rec a2  x) else (if a1 < 7 then (gx_bl (gx_it (s_Search_tryThing_26 rec a1 a2) gx_fuel (0, x)) (fun e15 => if e15.1 = 0 then (some (0, e15.2.2)) else (if e15.1 = 1 then (some (0, e15.2.2)) else (some (1, e15.2.2))))) else (j_Search_tryThing_17 rec a2  x))
def f_Search_tryThing : Nat → Int32 → Int32 → gx_S → Option (Int32 × gx_S)
  | 0 => fun _ _ _ => none
  | n + 1 => F_Search_tryThing (f_Search_tryThing n)
def pp_Search_tryThing_26 (K : gx_K) (E : gx_E) (v1 : Int32) (v2 : Int32) (a : Int32 × gx_S) : Prop := gx_G K E (gx_AB true E K.s.heap.size) 0 0 (a.2) 26 [(0, .ref (gx_ad E 25)), (1, .int v1), (2, .int v2), (3, .int a.1)] []
def pq_Search_tryThing_26 (K : gx_K) (E : gx_E) (v1 : Int32) (v2 : Int32) (b : Nat × Int32 × gx_S) : Prop := if b.1 = 0 then gx_G K E (gx_AB true E K.s.heap.size) 0 0 (b.2.2) 96 [] [] else (if b.1 = 1 then gx_G K E (gx_AB true E K.s.heap.size) 0 0 (b.2.2) 125 [] [] else (gx_G K E (gx_AB true E K.s.heap.size) 0 0 (b.2.2) 133 [] []))
set_option maxHeartbeats 4000000 in
set_option maxRecDepth 100000 in
theorem jc_Search_tryThing_17 {K : gx_K} {E : gx_E} {n0 : Nat} (C : gx_C K E "CaseLayout$Search" prog_7_method_6_code 5) (hR : K.R = (rm_Search_tryThing (n0 + 1))) (hr : K.meth.sig.returnType = (some .boolean)) (hlk : K.meth.locks = false) (rec : Int32 → Int32 → gx_S → Option (Int32 × gx_S)) (hrec : ∀ (a1 : Int32) (a2 : Int32) (x : gx_S) (o : Int32 × gx_S), rec a1 a2 x = some o → gx_Mi true K.l y_Search_tryThing prog_7_method_6_code 5 (some .boolean) (rm_Search_tryThing n0) (fun E => [.ref (gx_ad E 25), .int a1, .int a2]) x o.1 o.2) (v2 : Int32) (x : gx_S) (o : Int32 × gx_S) (hf : j_Search_tryThing_17 rec v2 x = some o) (hk : ∀ t, MQ K.below (gx_Qi E (gx_AB true E K.s.heap.size) o.1 o.2) K.args K.s 0 0 (gx_AB true E K.s.heap.size) t → K.Q t) : gx_G K E (gx_AB true E K.s.heap.size) 0 0 x 17 [(0, .ref (gx_ad E 25)), (2, .int v2)] [] := by
  unfold j_Search_tryThing_17 at hf
  refine gx_aload_n C 0 d_Search_tryThing_17 rfl rfl ?_
  refine gx_iload_n C 1 d_Search_tryThing_18 rfl rfl ?_
  obtain ⟨r2, x2, hc2, hf⟩ := gx_bd_some hf
  refine gx_cVv (n2 := 0) (k2 := 0) C (As := [.int v2]) (rest := []) 25 1 (c_Search_judge K.l v2 x _ hc2) (Or.inl rfl) rfl (gx_goodV gw_540 gw_542 gs_6 gw_8 gw_543) (by decide +kernel) (gx_w25 E _) rfl (by rw [hR]; constructor <;> (simp only []; omega)) rfl rfl (Nat.le_of_ble_eq_true rfl) d_Search_tryThing_19 (by rw [hR]; exact ⟨Nat.le_refl 0, Nat.le_refl 0⟩) rfl rfl ?_
  refine gx_iconst C (v := 1) d_Search_tryThing_22 (by decide) ?_
  cases hf
  exact gx_zret C hr hlk hk (by decide) d_Search_tryThing_23
set_option maxHeartbeats 4000000 in
set_option maxRecDepth 100000 in
theorem sc_Search_tryThing_26 {K : gx_K} {E : gx_E} {n0 : Nat} (C : gx_C K E "CaseLayout$Search" prog_7_method_6_code 5) (hR : K.R = (rm_Search_tryThing (n0 + 1))) (hr : K.meth.sig.returnType = (some .boolean)) (hlk : K.meth.locks = false) (rec : Int32 → Int32 → gx_S → Option (Int32 × gx_S)) (hrec : ∀ (a1 : Int32) (a2 : Int32) (x : gx_S) (o : Int32 × gx_S), rec a1 a2 x = some o → gx_Mi true K.l y_Search_tryThing prog_7_method_6_code 5 (some .boolean) (rm_Search_tryThing n0) (fun E => [.ref (gx_ad E 25), .int a1, .int a2]) x o.1 o.2) (v1 : Int32) (v2 : Int32) (a : Int32 × gx_S) (o : (Int32 × gx_S) ⊕ (Nat × Int32 × gx_S)) (hf : s_Search_tryThing_26 rec v1 v2 a = some o) (hk : gx_or (pp_Search_tryThing_26 K E v1 v2) (pq_Search_tryThing_26 K E v1 v2) o) : pp_Search_tryThing_26 K E v1 v2 a := by
  unfold s_Search_tryThing_26 at hf
  unfold pp_Search_tryThing_26
  refine gx_iload_n C 3 d_Search_tryThing_26 rfl rfl ?_
  refine gx_aload_n C 0 d_Search_tryThing_27 rfl rfl ?_
  refine gx_get C iw_Search 25 (gx_w25 E _) rfl 8 (by decide) gw_215 rfl rfl d_Search_tryThing_28 ?_
  refine gx_iload_n C 1 d_Search_tryThing_31 rfl rfl ?_
  obtain ⟨hi4, hf⟩ := gx_ck_some hf
  refine gx_iald C 27 0 (gx_w27 E _) rfl hi4 d_Search_tryThing_32 ?_
  refine gx_icmp_ge (tgt := 133) C d_Search_tryThing_33 (by decide) (fun h5 => ?_) (fun h5 => ?_)
  · have hf := (if_pos h5).symm.trans hf
    cases hf
    have hk : pq_Search_tryThing_26 K E v1 v2 _ := hk
    unfold pq_Search_tryThing_26 at hk
    have hk := gx_ifn (by decide : ¬ ((2 : Nat) = 0)) hk
    have hk := gx_ifn (by decide : ¬ ((2 : Nat) = 1)) hk
    refine gx_lv (lv' := []) [] rfl ?_
    exact hk
  · have hf := (if_neg h5).symm.trans hf
    refine gx_aload_n C 0 d_Search_tryThing_36 rfl rfl ?_
    refine gx_get C iw_Search 25 (gx_w25 E _) rfl 7 (by decide) gw_214 rfl rfl d_Search_tryThing_37 ?_
    refine gx_iload_n C 1 d_Search_tryThing_40 rfl rfl ?_
    refine gx_bipush C (v := 81) d_Search_tryThing_41 (by decide) ?_
    refine gx_imul C d_Search_tryThing_43 ?_
    refine gx_iload_n C 3 d_Search_tryThing_44 rfl rfl ?_
    refine gx_iadd C d_Search_tryThing_45 ?_
    obtain ⟨hi6, hf⟩ := gx_ck_some hf
    refine gx_iald C 26 0 (gx_w26 E _) rfl hi6 d_Search_tryThing_46 ?_
    refine gx_istore C (lv' := [(4, .int (gx_gA a.2 18 ((v1 * 81) + a.1 : Int32).toNatClampNeg)), (0, .ref (gx_ad E 25)), (1, .int v1), (2, .int v2), (3, .int a.1)]) d_Search_tryThing_47 (by decide) rfl ?_
    refine gx_aload_n C 1 d_Search_tryThing_49 rfl rfl ?_
    refine gx_get C iw_Search 25 (gx_w25 E _) rfl 5 (by decide) gw_211 rfl rfl d_Search_tryThing_50 ?_
    refine gx_getN C iw_Layout 19 (gx_w19 E _) rfl 1 (by decide) gn_193 rfl rfl d_Search_tryThing_53 ?_
    refine gx_iload_n C 2 d_Search_tryThing_56 rfl rfl ?_
    refine gx_iload C 0 d_Search_tryThing_57 rfl ?_
    refine gx_bipush C (v := 9) d_Search_tryThing_59 (by decide) ?_
    refine gx_irem C d_Search_tryThing_61 (by decide) ?_
    obtain ⟨hi7, hf⟩ := gx_ck_some hf
    refine gx_iast C (x' := gx_sA a.2 14 (v1 : Int32).toNatClampNeg ((gx_gA a.2 18 ((v1 * 81) + a.1 : Int32).toNatClampNeg) - (gx_gA a.2 18 ((v1 * 81) + a.1 : Int32).toNatClampNeg) / 9 * 9)) 20 0 (gx_w20 E _) rfl hi7 (gx_q20 E _ _ _) d_Search_tryThing_62 ?_
    refine gx_aload_n C 1 d_Search_tryThing_63 rfl rfl ?_
    refine gx_get C iw_Search 25 (gx_w25 E _) rfl 5 (by decide) gw_211 rfl rfl d_Search_tryThing_64 ?_
    refine gx_getN C iw_Layout 19 (gx_w19 E _) rfl 2 (by decide) gn_197 rfl rfl d_Search_tryThing_67 ?_
    refine gx_iload_n C 2 d_Search_tryThing_70 rfl rfl ?_
    refine gx_iload C 0 d_Search_tryThing_71 rfl ?_
    refine gx_bipush C (v := 9) d_Search_tryThing_73 (by decide) ?_
    refine gx_idiv C d_Search_tryThing_75 (by decide) ?_
    obtain ⟨hi8, hf⟩ := gx_ck_some hf
    refine gx_iast C (x' := gx_sA (gx_sA a.2 14 (v1 : Int32).toNatClampNeg ((gx_gA a.2 18 ((v1 * 81) + a.1 : Int32).toNatClampNeg) - (gx_gA a.2 18 ((v1 * 81) + a.1 : Int32).toNatClampNeg) / 9 * 9)) 15 (v1 : Int32).toNatClampNeg ((gx_gA a.2 18 ((v1 * 81) + a.1 : Int32).toNatClampNeg) / 9)) 21 0 (gx_w21 E _) rfl hi8 (gx_q21 E _ _ _) d_Search_tryThing_76 ?_
    refine gx_aload_n C 1 d_Search_tryThing_77 rfl rfl ?_
    refine gx_iload_n C 2 d_Search_tryThing_78 rfl rfl ?_
    obtain ⟨r9, x9, hc9, hf⟩ := gx_bd_some hf
    refine gx_cVi (n2 := 0) (k2 := 0) C (As := [.int v1]) (rest := []) 25 1 (c_Search_keepsApart K.l v1 (gx_sA (gx_sA a.2 14 (v1 : Int32).toNatClampNeg ((gx_gA a.2 18 ((v1 * 81) + a.1 : Int32).toNatClampNeg) - (gx_gA a.2 18 ((v1 * 81) + a.1 : Int32).toNatClampNeg) / 9 * 9)) 15 (v1 : Int32).toNatClampNeg ((gx_gA a.2 18 ((v1 * 81) + a.1 : Int32).toNatClampNeg) / 9)) _ hc9) (Or.inl rfl) rfl (gx_goodV gw_605 gw_607 gs_13 gw_8 gw_608) (by decide +kernel) (gx_w25 E _) rfl (by rw [hR]; constructor <;> (simp only []; omega)) rfl rfl (Nat.le_of_ble_eq_true rfl) d_Search_tryThing_79 (by rw [hR]; exact ⟨Nat.le_refl 0, Nat.le_refl 0⟩) rfl rfl ?_
    refine gx_if_eq (tgt := 127) C d_Search_tryThing_82 (by decide) (fun h10 => ?_) (fun h10 => ?_)
    · have hf := (if_pos h10).symm.trans hf
      refine gx_iinc C (v := a.1 + 1) (lv' := [(3, .int (a.1 + 1)), (4, .int (gx_gA a.2 18 ((v1 * 81) + a.1 : Int32).toNatClampNeg)), (0, .ref (gx_ad E 25)), (1, .int v1), (2, .int v2)]) 4 d_Search_tryThing_127 rfl rfl (by decide) rfl ?_
      refine gx_goto (tgt := 26) C d_Search_tryThing_130 (by decide) ?_
      cases hf
      refine gx_lv (lv' := [(0, .ref (gx_ad E 25)), (1, .int v1), (2, .int v2), (3, .int (a.1 + 1))]) [2, 3, 4, 0] rfl ?_
      exact hk
    · have hf := (if_neg h10).symm.trans hf
      refine gx_aload_n C 1 d_Search_tryThing_85 rfl rfl ?_
      refine gx_get C iw_Search 25 (gx_w25 E _) rfl 10 (by decide) gw_217 rfl rfl d_Search_tryThing_86 ?_
      refine gx_aload_n C 1 d_Search_tryThing_89 rfl rfl ?_
      refine gx_get C iw_Search 25 (gx_w25 E _) rfl 9 (by decide) gw_216 rfl rfl d_Search_tryThing_90 ?_
      refine gx_icmp_lt (tgt := 98) C d_Search_tryThing_93 (by decide) (fun h11 => ?_) (fun h11 => ?_)
      · have hf := (if_pos h11).symm.trans hf
        refine gx_aload_n C 1 d_Search_tryThing_98 rfl rfl ?_
        refine gx_dup C d_Search_tryThing_99 rfl ?_
        refine gx_get C iw_Search 25 (gx_w25 E _) rfl 10 (by decide) gw_217 rfl rfl d_Search_tryThing_100 ?_
        refine gx_iconst C (v := 1) d_Search_tryThing_103 (by decide) ?_
        refine gx_iadd C d_Search_tryThing_104 ?_
        refine gx_put C (ty := .int) (x' := gx_sI x9 9 ((gx_gI x9 9) + 1)) iw_Search ty_Search tk_Search tn_Search 25 (gx_w25 E _) rfl 10 (by decide) gw_217 rfl rfl (by decide +kernel) rfl rfl (Nat.le_of_ble_eq_true rfl) (gx_p25_10 E _ _) d_Search_tryThing_105 ?_
        refine gx_aload_n C 1 d_Search_tryThing_108 rfl rfl ?_
        refine gx_iload_n C 2 d_Search_tryThing_109 rfl rfl ?_
        refine gx_iconst C (v := 1) d_Search_tryThing_110 (by decide) ?_
        refine gx_iadd C d_Search_tryThing_111 ?_
        refine gx_iload_n C 3 d_Search_tryThing_112 rfl rfl ?_
        refine gx_aload_n C 1 d_Search_tryThing_113 rfl rfl ?_
        refine gx_iload_n C 2 d_Search_tryThing_114 rfl rfl ?_
        obtain ⟨r12, x12, hc12, hf⟩ := gx_bd_some hf
        refine gx_cVi (n2 := 0) (k2 := 0) C (As := [.int v1]) (rest := [.int v2, .int (v1 + 1), .ref (gx_ad E 25)]) 25 1 (c_Search_gainOf K.l v1 (gx_sI x9 9 ((gx_gI x9 9) + 1)) _ hc12) (Or.inl rfl) rfl (gx_goodV gw_618 gw_620 gs_14 gw_8 gw_621) (by decide +kernel) (gx_w25 E _) rfl (by rw [hR]; constructor <;> (simp only []; omega)) rfl rfl (Nat.le_of_ble_eq_true rfl) d_Search_tryThing_115 (by rw [hR]; exact ⟨Nat.le_refl 0, Nat.le_refl 0⟩) rfl rfl ?_
        refine gx_iadd C d_Search_tryThing_118 ?_
        obtain ⟨r13, x13, hc13, hf⟩ := gx_bd_some hf
        refine gx_cVi (n2 := 0) (k2 := 0) C (As := [.int (v1 + 1), .int (v2 + r12)]) (rest := []) 25 2 (hrec (v1 + 1) (v2 + r12) x12 _ hc13) (Or.inl rfl) rfl (gx_goodV gw_622 gw_537 gw_538 gw_8 gw_539) (by decide +kernel) (gx_w25 E _) rfl (by rw [hR]; constructor <;> (simp only []; omega)) rfl rfl (Nat.le_of_ble_eq_true rfl) d_Search_tryThing_119 (by rw [hR]; exact ⟨Nat.le_refl 0, Nat.le_refl 0⟩) rfl rfl ?_
        refine gx_if_ne (tgt := 127) C d_Search_tryThing_122 (by decide) (fun h14 => ?_) (fun h14 => ?_)
        · have hf := (if_neg h14).symm.trans hf
          refine gx_iinc C (v := a.1 + 1) (lv' := [(3, .int (a.1 + 1)), (4, .int (gx_gA a.2 18 ((v1 * 81) + a.1 : Int32).toNatClampNeg)), (0, .ref (gx_ad E 25)), (1, .int v1), (2, .int v2)]) 4 d_Search_tryThing_127 rfl rfl (by decide) rfl ?_
          refine gx_goto (tgt := 26) C d_Search_tryThing_130 (by decide) ?_
          cases hf
          refine gx_lv (lv' := [(0, .ref (gx_ad E 25)), (1, .int v1), (2, .int v2), (3, .int (a.1 + 1))]) [2, 3, 4, 0] rfl ?_
          exact hk
        · have hf := (if_pos h14).symm.trans hf
          cases hf
          have hk : pq_Search_tryThing_26 K E v1 v2 _ := hk
          unfold pq_Search_tryThing_26 at hk
          have hk := gx_ifn (by decide : ¬ ((1 : Nat) = 0)) hk
          have hk := gx_ifp (rfl : (1 : Nat) = 1) hk
          refine gx_lv (lv' := []) [] rfl ?_
          exact hk
      · have hf := (if_neg h11).symm.trans hf
        cases hf
        have hk : pq_Search_tryThing_26 K E v1 v2 _ := hk
        unfold pq_Search_tryThing_26 at hk
        have hk := gx_ifp (rfl : (0 : Nat) = 0) hk
        refine gx_lv (lv' := []) [] rfl ?_
        exact hk
set_option maxHeartbeats 4000000 in
set_option maxRecDepth 100000 in
theorem c_Search_tryThing (l : Launch) : ∀ (n : Nat) (a1 : Int32) (a2 : Int32) (x : gx_S) (o : Int32 × gx_S) (hf : f_Search_tryThing n a1 a2 x = some o), gx_Mi true l y_Search_tryThing prog_7_method_6_code 5 (some .boolean) (rm_Search_tryThing n) (fun E => [.ref (gx_ad E 25), .int a1, .int a2]) x o.1 o.2 := by
  intro n
  induction n with
  | zero => intro a1 a2 x o hf; cases hf
  | succ n0 ih =>
    intro a1 a2 x o hf
    have hf : F_Search_tryThing (f_Search_tryThing n0) a1 a2 x = some o := hf
    revert ih hf
    generalize f_Search_tryThing n0 = rec
    intro ih hf
    refine gx_meti (own := "CaseLayout$Search") (by decide) rfl (fun E => Nat.le_of_ble_eq_true rfl) (fun K E hl0 hR hr hlk hk C => ?_)
    subst hl0
    have hrec := ih
    unfold F_Search_tryThing at hf
    show gx_G K E _ 0 0 x 0 [(0, .ref (gx_ad E 25)), (1, .int a1), (2, .int a2)] []
    refine gx_iload_n C 1 d_Search_tryThing_0 rfl rfl ?_
    refine gx_aload_n C 0 d_Search_tryThing_1 rfl rfl ?_
    refine gx_get C iw_Search 25 (gx_w25 E _) rfl 1 (by decide) gw_207 rfl rfl d_Search_tryThing_2 ?_
    refine gx_getN C iw_Things 3 (gx_w3 E _) rfl 5 (by decide) gn_91 rfl rfl d_Search_tryThing_5 ?_
    refine gx_icmp_ge (tgt := 17) C d_Search_tryThing_8 (by decide) (fun h1 => ?_) (fun h1 => ?_)
    · have hf := (if_pos h1).symm.trans hf
      refine gx_lv (lv' := [(0, .ref (gx_ad E 25)), (2, .int a2)]) [0, 2] rfl ?_
      exact jc_Search_tryThing_17 C hR hr hlk rec hrec a2  x _ hf hk
    · have hf := (if_neg h1).symm.trans hf
      refine gx_iload_n C 1 d_Search_tryThing_11 rfl rfl ?_
      refine gx_bipush C (v := 7) d_Search_tryThing_12 (by decide) ?_
      refine gx_icmp_lt (tgt := 24) C d_Search_tryThing_14 (by decide) (fun h3 => ?_) (fun h3 => ?_)
      · have hf := (if_pos h3).symm.trans hf
        refine gx_iconst C (v := 0) d_Search_tryThing_24 (by decide) ?_
        refine gx_istore_n C (lv' := [(3, .int 0), (0, .ref (gx_ad E 25)), (1, .int a1), (2, .int a2)]) d_Search_tryThing_25 rfl (by decide) rfl ?_
        refine gx_lv (lv' := [(0, .ref (gx_ad E 25)), (1, .int a1), (2, .int a2), (3, .int 0)]) [1, 2, 3, 0] rfl ?_
        obtain ⟨e15, he15, hf⟩ := gx_bl_some hf
        refine (gx_loop (P := pp_Search_tryThing_26 K E a1 a2) (Q := pq_Search_tryThing_26 K E a1 a2) (fun a9 o9 h1 h2 => sc_Search_tryThing_26 C hR hr hlk rec hrec a1 a2 a9 o9 h1 h2) gx_fuel (0, x) e15 he15 ?_ : pp_Search_tryThing_26 K E a1 a2 (0, x))
        unfold pq_Search_tryThing_26
        by_cases ht16 : e15.1 = 0
        · rw [if_pos ht16]
          have hf := (if_pos ht16).symm.trans hf
          refine gx_iconst C (v := 0) d_Search_tryThing_96 (by decide) ?_
          cases hf
          exact gx_zret C hr hlk hk (by decide) d_Search_tryThing_97
        · rw [if_neg ht16]
          have hf := (if_neg ht16).symm.trans hf
          by_cases ht17 : e15.1 = 1
          · rw [if_pos ht17]
            have hf := (if_pos ht17).symm.trans hf
            refine gx_iconst C (v := 0) d_Search_tryThing_125 (by decide) ?_
            cases hf
            exact gx_zret C hr hlk hk (by decide) d_Search_tryThing_126
          · rw [if_neg ht17]
            have hf := (if_neg ht17).symm.trans hf
            refine gx_iconst C (v := 1) d_Search_tryThing_133 (by decide) ?_
            cases hf
            exact gx_zret C hr hlk hk (by decide) d_Search_tryThing_134
      · have hf := (if_neg h3).symm.trans hf
        refine gx_lv (lv' := [(0, .ref (gx_ad E 25)), (2, .int a2)]) [0, 2] rfl ?_
        exact jc_Search_tryThing_17 C hR hr hlk rec hrec a2  x _ hf hk

def f_Search_hasFound  (x : gx_S) : Option (Int32 × gx_S) :=
  if (gx_gI x 10) = (-1) then (some (0, x)) else (some (1, x))
abbrev rm_Search_hasFound : Room := { frames := 0, cells := 0, slots := 0, locals := 0 }
set_option maxHeartbeats 4000000 in
set_option maxRecDepth 100000 in
theorem c_Search_hasFound (l : Launch)  (x : gx_S) (o : Int32 × gx_S) (hf : f_Search_hasFound  x = some o) : gx_Mi false l y_Search_hasFound prog_7_method_3_code 1 (some .boolean) rm_Search_hasFound (fun E => [.ref (gx_ad E 25)]) x o.1 o.2 := by
  refine gx_meti (own := "CaseLayout$Search") (by decide) rfl (fun E => Nat.le_of_ble_eq_true rfl) (fun K E hl0 hR hr hlk hk C => ?_)
  subst hl0
  unfold f_Search_hasFound at hf
  show gx_G K E _ 0 0 x 0 [(0, .ref (gx_ad E 25))] []
  refine gx_aload_n C 0 d_Search_hasFound_0 rfl rfl ?_
  refine gx_get C iw_Search 25 (gx_w25 E _) rfl 11 (by decide) gw_219 rfl rfl d_Search_hasFound_1 ?_
  refine gx_iconst C (v := (-1)) d_Search_hasFound_4 (by decide) ?_
  refine gx_icmp_eq (tgt := 12) C d_Search_hasFound_5 (by decide) (fun h1 => ?_) (fun h1 => ?_)
  · have hf := (if_pos h1).symm.trans hf
    refine gx_iconst C (v := 0) d_Search_hasFound_12 (by decide) ?_
    cases hf
    exact gx_zret C hr hlk hk (by decide) d_Search_hasFound_13
  · have hf := (if_neg h1).symm.trans hf
    refine gx_iconst C (v := 1) d_Search_hasFound_8 (by decide) ?_
    refine gx_goto (tgt := 13) C d_Search_hasFound_9 (by decide) ?_
    cases hf
    exact gx_zret C hr hlk hk (by decide) d_Search_hasFound_13

def f_CaseLayout_run (a1 : Int32) (x : gx_S) : Option (Nat × Int32 × gx_S) :=
  gx_bx (f_CaseLayout_needWithin a1 0 20000 x) (fun r1 x1 => gx_bd (f_Search_begin a1 x1) (fun r2 x2 => gx_bd (f_Search_tryThing 9 0 0 x2) (fun r3 x3 => if r3 = 0 then (some (0, 1, x3)) else (gx_bd (f_Search_hasFound  x3) (fun r5 x5 => if r5 = 0 then (some (0, 2, x5)) else (some (0, 0, x5)))))))
abbrev rm_CaseLayout_run : Room := { frames := 15, cells := 1, slots := 6, locals := 357 }
set_option maxHeartbeats 4000000 in
set_option maxRecDepth 100000 in
theorem c_CaseLayout_run (l : Launch) (hlt : l.stackTraces = false) (a1 : Int32) (x : gx_S) (o : Nat × Int32 × gx_S) (hf : f_CaseLayout_run a1 x = some o) : gx_MX true l y_CaseLayout_run prog_1_method_11_code 2 (some .int) rm_CaseLayout_run (fun E => [.ref (gx_ad E 28), .int a1]) x (some (.int o.2.1)) o.1 o.2.2 := by
  refine gx_metX (own := "CaseLayout") (by decide) rfl (fun E => Nat.le_of_ble_eq_true rfl) (fun K E hl0 hR hr hlk hnh hLT hk C => ?_)
  subst hl0
  unfold f_CaseLayout_run at hf
  show gx_G K E (gx_AB false E K.s.heap.size) 0 0 x 0 [(0, .ref (gx_ad E 28)), (1, .int a1)] []
  refine gx_iload_n C 1 d_CaseLayout_run_0 rfl rfl ?_
  refine gx_iconst C (v := 0) d_CaseLayout_run_1 (by decide) ?_
  refine gx_sipush C (v := 20000) d_CaseLayout_run_2 (by decide) ?_
  obtain ⟨j1, r1, x1, hc1, ⟨hq1, hf⟩ | ⟨hq1, hf⟩⟩ := gx_bx_some hf
  rotate_left
  · subst hf
    refine gx_cSx (n2 := 1) (k2 := 6) C hq1 (As := [.int a1, .int 0, .int 20000]) (rest := []) 3 (c_CaseLayout_needWithin K.l hlt a1 0 20000 x _ hc1) (Or.inr rfl) rfl (gx_goodS gw_388 gw_389 gw_1 gw_390) (by decide +kernel) (by rw [hR]; decide) rfl rfl (Nat.le_of_ble_eq_true rfl) d_CaseLayout_run_5 (by rw [hR]; decide) rfl rfl ?_
    refine gx_H.toF ?_
    exact gx_outX hq1 hnh hlk hk
  subst hq1
  refine gx_cSv (n2 := 1) (k2 := 6) C (As := [.int a1, .int 0, .int 20000]) (rest := []) 3 (c_CaseLayout_needWithin K.l hlt a1 0 20000 x _ hc1).toV (Or.inr rfl) rfl (gx_goodS gw_388 gw_389 gw_1 gw_390) (by decide +kernel) (by rw [hR]; decide) rfl rfl (Nat.le_of_ble_eq_true rfl) d_CaseLayout_run_5 (by rw [hR]; decide) rfl rfl ?_
  refine gx_aload_n C 0 d_CaseLayout_run_8 rfl rfl ?_
  refine gx_get C iw_CaseLayout 28 (gx_w28 E _) rfl 5 (by decide) gw_251 rfl rfl d_CaseLayout_run_9 ?_
  refine gx_iload_n C 1 d_CaseLayout_run_12 rfl rfl ?_
  refine gx_toF ?_
  obtain ⟨r2, x2, hc2, hf⟩ := gx_bd_some hf
  refine gx_cVv (n2 := 1) (k2 := 6) C (As := [.int a1]) (rest := []) 25 1 (c_Search_begin K.l a1 x1 _ hc2) (Or.inl rfl) rfl (gx_goodV gw_520 gw_521 gw_522 gw_8 gw_523) (by decide +kernel) (gx_w25 E _) rfl (by rw [hR]; decide) rfl rfl (Nat.le_of_ble_eq_true rfl) d_CaseLayout_run_13 (by rw [hR]; decide) rfl rfl ?_
  refine gx_aload_n C 0 d_CaseLayout_run_16 rfl rfl ?_
  refine gx_get C iw_CaseLayout 28 (gx_w28 E _) rfl 5 (by decide) gw_251 rfl rfl d_CaseLayout_run_17 ?_
  refine gx_iconst C (v := 0) d_CaseLayout_run_20 (by decide) ?_
  refine gx_iconst C (v := 0) d_CaseLayout_run_21 (by decide) ?_
  obtain ⟨r3, x3, hc3, hf⟩ := gx_bd_some hf
  refine gx_cVi (n2 := 1) (k2 := 6) C (As := [.int 0, .int 0]) (rest := []) 25 2 (c_Search_tryThing K.l 9 0 0 x2 _ hc3) (Or.inl rfl) rfl (gx_goodV gw_536 gw_537 gw_538 gw_8 gw_539) (by decide +kernel) (gx_w25 E _) rfl (by rw [hR]; decide) rfl rfl (Nat.le_of_ble_eq_true rfl) d_CaseLayout_run_22 (by rw [hR]; decide) rfl rfl ?_
  refine gx_if_ne (tgt := 30) C d_CaseLayout_run_25 (by decide) (fun h4 => ?_) (fun h4 => ?_)
  · have hf := (if_neg h4).symm.trans hf
    refine gx_aload_n C 0 d_CaseLayout_run_30 rfl rfl ?_
    refine gx_get C iw_CaseLayout 28 (gx_w28 E _) rfl 5 (by decide) gw_251 rfl rfl d_CaseLayout_run_31 ?_
    obtain ⟨r5, x5, hc5, hf⟩ := gx_bd_some hf
    refine gx_cVi (n2 := 1) (k2 := 6) C (As := []) (rest := []) 25 0 (c_Search_hasFound K.l  x3 _ hc5) (Or.inl rfl) rfl (gx_goodV gw_623 gw_624 gw_625 gw_8 gw_626) (by decide +kernel) (gx_w25 E _) rfl (by rw [hR]; decide) rfl rfl (Nat.le_of_ble_eq_true rfl) d_CaseLayout_run_34 (by rw [hR]; decide) rfl rfl ?_
    refine gx_if_eq (tgt := 44) C d_CaseLayout_run_37 (by decide) (fun h6 => ?_) (fun h6 => ?_)
    · have hf := (if_pos h6).symm.trans hf
      refine gx_iconst C (v := 2) d_CaseLayout_run_44 (by decide) ?_
      cases hf
      exact gx_iretX C hr hlk hk d_CaseLayout_run_45
    · have hf := (if_neg h6).symm.trans hf
      refine gx_iconst C (v := 0) d_CaseLayout_run_40 (by decide) ?_
      refine gx_goto (tgt := 45) C d_CaseLayout_run_41 (by decide) ?_
      cases hf
      exact gx_iretX C hr hlk hk d_CaseLayout_run_45
  · have hf := (if_pos h4).symm.trans hf
    refine gx_iconst C (v := 1) d_CaseLayout_run_28 (by decide) ?_
    cases hf
    exact gx_iretX C hr hlk hk d_CaseLayout_run_29

def f_CaseLayout_nodes  (x : gx_S) : Option (Int32 × gx_S) :=
  some (gx_gI x 9, x)
abbrev rm_CaseLayout_nodes : Room := { frames := 0, cells := 0, slots := 0, locals := 0 }
set_option maxHeartbeats 4000000 in
set_option maxRecDepth 100000 in
theorem c_CaseLayout_nodes (l : Launch)  (x : gx_S) (o : Int32 × gx_S) (hf : f_CaseLayout_nodes  x = some o) : gx_Mi false l y_CaseLayout_nodes prog_1_method_12_code 1 (some .int) rm_CaseLayout_nodes (fun E => [.ref (gx_ad E 28)]) x o.1 o.2 := by
  refine gx_meti (own := "CaseLayout") (by decide) rfl (fun E => Nat.le_of_ble_eq_true rfl) (fun K E hl0 hR hr hlk hk C => ?_)
  subst hl0
  unfold f_CaseLayout_nodes at hf
  show gx_G K E _ 0 0 x 0 [(0, .ref (gx_ad E 28))] []
  refine gx_aload_n C 0 d_CaseLayout_nodes_0 rfl rfl ?_
  refine gx_get C iw_CaseLayout 28 (gx_w28 E _) rfl 5 (by decide) gw_251 rfl rfl d_CaseLayout_nodes_1 ?_
  refine gx_getN C iw_Search 25 (gx_w25 E _) rfl 10 (by decide) gn_218 rfl rfl d_CaseLayout_nodes_4 ?_
  cases hf
  exact gx_iret C hr hlk hk d_CaseLayout_nodes_7

def f_CaseLayout_needFound  (x : gx_S) : Option (Nat × Int32 × gx_S) :=
  gx_bd (f_Search_hasFound  x) (fun r1 x1 => if r1 = 0 then (some (2, 0, x1)) else (some (0, 0, x1)))
abbrev rm_CaseLayout_needFound : Room := { frames := 6, cells := 1, slots := 6, locals := 82 }
set_option maxHeartbeats 4000000 in
set_option maxRecDepth 100000 in
theorem c_CaseLayout_needFound (l : Launch) (hlt : l.stackTraces = false)  (x : gx_S) (o : Nat × Int32 × gx_S) (hf : f_CaseLayout_needFound  x = some o) : gx_MX false l y_CaseLayout_needFound prog_1_method_22_code 1 none rm_CaseLayout_needFound (fun E => [.ref (gx_ad E 28)]) x none o.1 o.2.2 := by
  refine gx_metX (own := "CaseLayout") (by decide) rfl (fun E => Nat.le_of_ble_eq_true rfl) (fun K E hl0 hR hr hlk hnh hLT hk C => ?_)
  subst hl0
  unfold f_CaseLayout_needFound at hf
  show gx_G K E (gx_AB false E K.s.heap.size) 0 0 x 0 [(0, .ref (gx_ad E 28))] []
  refine gx_aload_n C 0 d_CaseLayout_needFound_0 rfl rfl ?_
  refine gx_get C iw_CaseLayout 28 (gx_w28 E _) rfl 5 (by decide) gw_251 rfl rfl d_CaseLayout_needFound_1 ?_
  obtain ⟨r1, x1, hc1, hf⟩ := gx_bd_some hf
  refine gx_cVi (n2 := 0) (k2 := 0) C (As := []) (rest := []) 25 0 (c_Search_hasFound K.l  x _ hc1) (Or.inr rfl) rfl (gx_goodV gw_623 gw_624 gw_625 gw_8 gw_626) (by decide +kernel) (gx_w25 E _) rfl (by rw [hR]; decide) rfl rfl (Nat.le_of_ble_eq_true rfl) d_CaseLayout_needFound_4 (by rw [hR]; decide) rfl rfl ?_
  refine gx_if_ne (tgt := 20) C d_CaseLayout_needFound_7 (by decide) (fun h2 => ?_) (fun h2 => ?_)
  · have hf := (if_neg h2).symm.trans hf
    cases hf
    refine gx_widen (n' := 1) (k' := 6) (by decide) (by decide) ?_
    exact gx_vretX C hr hlk hk d_CaseLayout_needFound_20
  · have hf := (if_pos h2).symm.trans hf
    cases hf
    exact gx_throw (w := false) (j := 2) (tx := "no layout is found") (names := ["java/lang/RuntimeException", "java/lang/Exception"]) C (by decide) hLT hlt hnh hlk gw_415 gw_416 gw_16 (by decide +kernel) (ga_CaseLayout_100 C) (by decide +kernel) (by decide +kernel) d_CaseLayout_needFound_10 d_CaseLayout_needFound_13 d_CaseLayout_needFound_14 d_CaseLayout_needFound_16 d_CaseLayout_needFound_19 (by rw [hR]; decide) (by rw [hR]; exact Nat.le_of_ble_eq_true rfl) (by rw [hR]; decide) (by rw [hR]; decide) hk

def j_CaseLayout_at_24 (v1 : Int32) (v2 : Int32) (x : gx_S) : Option (Nat × Int32 × gx_S) :=
  gx_bx (f_CaseLayout_needFound  x) (fun r3 x3 => if v2 = 0 then (gx_ck v1 7 (some (0, gx_gA x3 16 (v1 : Int32).toNatClampNeg, x3))) else (gx_ck v1 7 (some (0, gx_gA x3 17 (v1 : Int32).toNatClampNeg, x3))))
def f_CaseLayout_at (a1 : Int32) (a2 : Int32) (x : gx_S) : Option (Nat × Int32 × gx_S) :=
  gx_bx (f_CaseLayout_needThing a1 x) (fun r1 x1 => if a2 = 0 then (j_CaseLayout_at_24 a1 a2  x1) else (if a2 = 1 then (j_CaseLayout_at_24 a1 a2  x1) else (some (1, 0, x1))))
abbrev rm_CaseLayout_at : Room := { frames := 7, cells := 2, slots := 12, locals := 103 }
set_option maxHeartbeats 4000000 in
set_option maxRecDepth 100000 in
theorem jc_CaseLayout_at_24 {K : gx_K} {E : gx_E} (C : gx_C K E "CaseLayout" prog_1_method_13_code 3) (hR : K.R = rm_CaseLayout_at) (hr : K.meth.sig.returnType = (some .int)) (hlk : K.meth.locks = false) (hlt : K.l.stackTraces = false) (hnh : K.c.exceptionTable.isEmpty = true) (hLT : gx_LT E K.s.heap.size) (v1 : Int32) (v2 : Int32) (x : gx_S) (o : Nat × Int32 × gx_S) (hf : j_CaseLayout_at_24 v1 v2 x = some o) (hk : ∀ t, gx_MQX K.below (gx_QX E (gx_AB false E K.s.heap.size) (some (.int o.2.1)) o.1 o.2.2) K.args K.s 2 12 (gx_AB false E K.s.heap.size) t → K.Q t) : gx_G K E (gx_AB false E K.s.heap.size) 1 6 x 24 [(0, .ref (gx_ad E 28)), (1, .int v1), (2, .int v2)] [] := by
  unfold j_CaseLayout_at_24 at hf
  refine gx_aload_n C 0 d_CaseLayout_at_24 rfl rfl ?_
  obtain ⟨j3, r3, x3, hc3, ⟨hq3, hf⟩ | ⟨hq3, hf⟩⟩ := gx_bx_some hf
  rotate_left
  · subst hf
    refine gx_cVx (n2 := 2) (k2 := 12) C hq3 (As := []) (rest := []) 28 0 (c_CaseLayout_needFound K.l hlt  x _ hc3) (Or.inr rfl) rfl (gx_goodV gw_635 gw_637 gs_15 gw_1 gw_638) (by decide +kernel) (gx_w28 E _) rfl (by rw [hR]; decide) rfl rfl (Nat.le_of_ble_eq_true rfl) d_CaseLayout_at_25 (by rw [hR]; decide) rfl rfl ?_
    exact gx_outX hq3 hnh hlk hk
  subst hq3
  refine gx_cVv (n2 := 2) (k2 := 12) C (As := []) (rest := []) 28 0 (c_CaseLayout_needFound K.l hlt  x _ hc3).toV (Or.inr rfl) rfl (gx_goodV gw_635 gw_637 gs_15 gw_1 gw_638) (by decide +kernel) (gx_w28 E _) rfl (by rw [hR]; decide) rfl rfl (Nat.le_of_ble_eq_true rfl) d_CaseLayout_at_25 (by rw [hR]; decide) rfl rfl ?_
  refine gx_iload_n C 2 d_CaseLayout_at_28 rfl rfl ?_
  refine gx_if_ne (tgt := 47) C d_CaseLayout_at_29 (by decide) (fun h4 => ?_) (fun h4 => ?_)
  · have hf := (if_neg h4).symm.trans hf
    refine gx_aload_n C 0 d_CaseLayout_at_47 rfl rfl ?_
    refine gx_get C iw_CaseLayout 28 (gx_w28 E _) rfl 5 (by decide) gw_251 rfl rfl d_CaseLayout_at_48 ?_
    refine gx_getN C iw_Search 25 (gx_w25 E _) rfl 6 (by decide) gn_213 rfl rfl d_CaseLayout_at_51 ?_
    refine gx_getN C iw_Layout 22 (gx_w22 E _) rfl 2 (by decide) gn_198 rfl rfl d_CaseLayout_at_54 ?_
    refine gx_iload_n C 1 d_CaseLayout_at_57 rfl rfl ?_
    obtain ⟨hi5, hf⟩ := gx_ck_some hf
    refine gx_iald C 24 0 (gx_w24 E _) rfl hi5 d_CaseLayout_at_58 ?_
    cases hf
    exact gx_iretX C hr hlk hk d_CaseLayout_at_59
  · have hf := (if_pos h4).symm.trans hf
    refine gx_aload_n C 0 d_CaseLayout_at_32 rfl rfl ?_
    refine gx_get C iw_CaseLayout 28 (gx_w28 E _) rfl 5 (by decide) gw_251 rfl rfl d_CaseLayout_at_33 ?_
    refine gx_getN C iw_Search 25 (gx_w25 E _) rfl 6 (by decide) gn_213 rfl rfl d_CaseLayout_at_36 ?_
    refine gx_getN C iw_Layout 22 (gx_w22 E _) rfl 1 (by decide) gn_194 rfl rfl d_CaseLayout_at_39 ?_
    refine gx_iload_n C 1 d_CaseLayout_at_42 rfl rfl ?_
    obtain ⟨hi6, hf⟩ := gx_ck_some hf
    refine gx_iald C 23 0 (gx_w23 E _) rfl hi6 d_CaseLayout_at_43 ?_
    refine gx_goto (tgt := 59) C d_CaseLayout_at_44 (by decide) ?_
    cases hf
    exact gx_iretX C hr hlk hk d_CaseLayout_at_59
set_option maxHeartbeats 4000000 in
set_option maxRecDepth 100000 in
theorem c_CaseLayout_at (l : Launch) (hlt : l.stackTraces = false) (a1 : Int32) (a2 : Int32) (x : gx_S) (o : Nat × Int32 × gx_S) (hf : f_CaseLayout_at a1 a2 x = some o) : gx_MX false l y_CaseLayout_at prog_1_method_13_code 3 (some .int) rm_CaseLayout_at (fun E => [.ref (gx_ad E 28), .int a1, .int a2]) x (some (.int o.2.1)) o.1 o.2.2 := by
  refine gx_metX (own := "CaseLayout") (by decide) rfl (fun E => Nat.le_of_ble_eq_true rfl) (fun K E hl0 hR hr hlk hnh hLT hk C => ?_)
  subst hl0
  unfold f_CaseLayout_at at hf
  show gx_G K E (gx_AB false E K.s.heap.size) 0 0 x 0 [(0, .ref (gx_ad E 28)), (1, .int a1), (2, .int a2)] []
  refine gx_aload_n C 0 d_CaseLayout_at_0 rfl rfl ?_
  refine gx_iload_n C 1 d_CaseLayout_at_1 rfl rfl ?_
  obtain ⟨j1, r1, x1, hc1, ⟨hq1, hf⟩ | ⟨hq1, hf⟩⟩ := gx_bx_some hf
  rotate_left
  · subst hf
    refine gx_cVx (n2 := 1) (k2 := 6) C hq1 (As := [.int a1]) (rest := []) 28 1 (c_CaseLayout_needThing K.l hlt a1 x _ hc1) (Or.inr rfl) rfl (gx_goodV gw_446 gw_448 gs_3 gw_1 gw_449) (by decide +kernel) (gx_w28 E _) rfl (by rw [hR]; decide) rfl rfl (Nat.le_of_ble_eq_true rfl) d_CaseLayout_at_2 (by rw [hR]; decide) rfl rfl ?_
    refine gx_H.widen (n' := 2) (k' := 12) (by decide) (by decide) ?_
    exact gx_outX hq1 hnh hlk hk
  subst hq1
  refine gx_cVv (n2 := 1) (k2 := 6) C (As := [.int a1]) (rest := []) 28 1 (c_CaseLayout_needThing K.l hlt a1 x _ hc1).toV (Or.inr rfl) rfl (gx_goodV gw_446 gw_448 gs_3 gw_1 gw_449) (by decide +kernel) (gx_w28 E _) rfl (by rw [hR]; decide) rfl rfl (Nat.le_of_ble_eq_true rfl) d_CaseLayout_at_2 (by rw [hR]; decide) rfl rfl ?_
  refine gx_iload_n C 2 d_CaseLayout_at_5 rfl rfl ?_
  refine gx_if_eq (tgt := 24) C d_CaseLayout_at_6 (by decide) (fun h2 => ?_) (fun h2 => ?_)
  · have hf := (if_pos h2).symm.trans hf
    exact jc_CaseLayout_at_24 C hR hr hlk hlt hnh hLT a1 a2  x1 _ hf hk
  · have hf := (if_neg h2).symm.trans hf
    refine gx_iload_n C 2 d_CaseLayout_at_9 rfl rfl ?_
    refine gx_iconst C (v := 1) d_CaseLayout_at_10 (by decide) ?_
    refine gx_icmp_eq (tgt := 24) C d_CaseLayout_at_11 (by decide) (fun h7 => ?_) (fun h7 => ?_)
    · have hf := (if_pos h7).symm.trans hf
      exact jc_CaseLayout_at_24 C hR hr hlk hlt hnh hLT a1 a2  x1 _ hf hk
    · have hf := (if_neg h7).symm.trans hf
      cases hf
      exact gx_throw (w := false) (j := 1) (tx := "neither x nor y") (names := ["java/lang/RuntimeException", "java/lang/Exception"]) C (by decide) hLT hlt hnh hlk gw_292 gw_293 gw_14 (by decide +kernel) (ga_CaseLayout_171 C) (by decide +kernel) (by decide +kernel) d_CaseLayout_at_14 d_CaseLayout_at_17 d_CaseLayout_at_18 d_CaseLayout_at_20 d_CaseLayout_at_23 (by rw [hR]; decide) (by rw [hR]; exact Nat.le_of_ble_eq_true rfl) (by rw [hR]; decide) (by rw [hR]; decide) hk

def f_CaseLayout_worth  (x : gx_S) : Option (Int32 × gx_S) :=
  some (gx_gI x 10, x)
abbrev rm_CaseLayout_worth : Room := { frames := 0, cells := 0, slots := 0, locals := 0 }
set_option maxHeartbeats 4000000 in
set_option maxRecDepth 100000 in
theorem c_CaseLayout_worth (l : Launch)  (x : gx_S) (o : Int32 × gx_S) (hf : f_CaseLayout_worth  x = some o) : gx_Mi false l y_CaseLayout_worth prog_1_method_14_code 1 (some .int) rm_CaseLayout_worth (fun E => [.ref (gx_ad E 28)]) x o.1 o.2 := by
  refine gx_meti (own := "CaseLayout") (by decide) rfl (fun E => Nat.le_of_ble_eq_true rfl) (fun K E hl0 hR hr hlk hk C => ?_)
  subst hl0
  unfold f_CaseLayout_worth at hf
  show gx_G K E _ 0 0 x 0 [(0, .ref (gx_ad E 28))] []
  refine gx_aload_n C 0 d_CaseLayout_worth_0 rfl rfl ?_
  refine gx_get C iw_CaseLayout 28 (gx_w28 E _) rfl 5 (by decide) gw_251 rfl rfl d_CaseLayout_worth_1 ?_
  refine gx_getN C iw_Search 25 (gx_w25 E _) rfl 11 (by decide) gn_220 rfl rfl d_CaseLayout_worth_4 ?_
  cases hf
  exact gx_iret C hr hlk hk d_CaseLayout_worth_7
