def f_Floor_hides (a1 : Int32) (a2 : Int32) (a3 : Int32) (x : gx_S) : Option (Int32 × gx_S) :=
  gx_bd (f_Grid_holds a1 a2 x) (fun r1 x1 => if r1 = 0 then (some (0, x1)) else (gx_bd (f_CaseLayout_cellOf a1 a2 x1) (fun r3 x3 => gx_ck r3 81 (if (gx_gA x3 11 (r3 : Int32).toNatClampNeg) = (-1) then (some (0, x3)) else (if (gx_gA x3 11 (r3 : Int32).toNatClampNeg) = a3 then (some (0, x3)) else (some (1, x3)))))))
abbrev rm_Floor_hides : Room := { frames := 1, cells := 0, slots := 0, locals := 22 }
set_option maxHeartbeats 4000000 in
set_option maxRecDepth 100000 in
theorem c_Floor_hides (l : Launch) (a1 : Int32) (a2 : Int32) (a3 : Int32) (x : gx_S) (o : Int32 × gx_S) (hf : f_Floor_hides a1 a2 a3 x = some o) : gx_Mi false l y_Floor_hides prog_3_method_5_code 5 (some .boolean) rm_Floor_hides (fun E => [.ref (gx_ad E 15), .int a1, .int a2, .int a3]) x o.1 o.2 := by
  refine gx_meti (own := "CaseLayout$Floor") (by decide) rfl (fun E => Nat.le_of_ble_eq_true rfl) (fun K E hl0 hR hr hlk hk C => ?_)
  subst hl0
  unfold f_Floor_hides at hf
  show gx_G K E _ 0 0 x 0 [(0, .ref (gx_ad E 15)), (1, .int a1), (2, .int a2), (3, .int a3)] []
  refine gx_aload_n C 0 d_Floor_hides_0 rfl rfl ?_
  refine gx_get C iw_Floor 15 (gx_w15 E _) rfl 0 (by decide) gw_160 rfl rfl d_Floor_hides_1 ?_
  refine gx_iload_n C 1 d_Floor_hides_4 rfl rfl ?_
  refine gx_iload_n C 2 d_Floor_hides_5 rfl rfl ?_
  obtain ⟨r1, x1, hc1, hf⟩ := gx_bd_some hf
  refine gx_cVi (n2 := 0) (k2 := 0) C (As := [.int a1, .int a2]) (rest := []) 0 2 (c_Grid_holds K.l a1 a2 x _ hc1) (Or.inr rfl) rfl (gx_goodV gw_552 gw_289 gw_290 gw_2 gw_291) (by decide +kernel) (gx_w0 E _) rfl (by rw [hR]; decide) rfl rfl (Nat.le_of_ble_eq_true rfl) d_Floor_hides_6 (by rw [hR]; decide) rfl rfl ?_
  refine gx_if_ne (tgt := 14) C d_Floor_hides_9 (by decide) (fun h2 => ?_) (fun h2 => ?_)
  · have hf := (if_neg h2).symm.trans hf
    refine gx_aload_n C 0 d_Floor_hides_14 rfl rfl ?_
    refine gx_get C iw_Floor 15 (gx_w15 E _) rfl 1 (by decide) gw_161 rfl rfl d_Floor_hides_15 ?_
    refine gx_iload_n C 1 d_Floor_hides_18 rfl rfl ?_
    refine gx_iload_n C 2 d_Floor_hides_19 rfl rfl ?_
    obtain ⟨r3, x3, hc3, hf⟩ := gx_bd_some hf
    refine gx_cSNi (n2 := 0) (k2 := 0) C (As := [.int a1, .int a2]) (rest := [.ref (gx_ad E 16)]) 2 (c_CaseLayout_cellOf K.l a1 a2 x1 _ hc3) (Or.inr rfl) rfl gw_362 gn_553 gw_1 gw_361 (by decide +kernel) (by rw [hR]; decide) rfl rfl (Nat.le_of_ble_eq_true rfl) d_Floor_hides_20 (by rw [hR]; decide) rfl rfl ?_
    obtain ⟨hi4, hf⟩ := gx_ck_some hf
    refine gx_iald C 16 0 (gx_w16 E _) rfl hi4 d_Floor_hides_23 ?_
    refine gx_istore C (lv' := [(4, .int (gx_gA x3 11 (r3 : Int32).toNatClampNeg)), (0, .ref (gx_ad E 15)), (1, .int a1), (2, .int a2), (3, .int a3)]) d_Floor_hides_24 (by decide) rfl ?_
    refine gx_iload C 0 d_Floor_hides_26 rfl ?_
    refine gx_iconst C (v := (-1)) d_Floor_hides_28 (by decide) ?_
    refine gx_icmp_eq (tgt := 42) C d_Floor_hides_29 (by decide) (fun h5 => ?_) (fun h5 => ?_)
    · have hf := (if_pos h5).symm.trans hf
      refine gx_iconst C (v := 0) d_Floor_hides_42 (by decide) ?_
      cases hf
      exact gx_zret C hr hlk hk (by decide) d_Floor_hides_43
    · have hf := (if_neg h5).symm.trans hf
      refine gx_iload C 0 d_Floor_hides_32 rfl ?_
      refine gx_iload_n C 4 d_Floor_hides_34 rfl rfl ?_
      refine gx_icmp_eq (tgt := 42) C d_Floor_hides_35 (by decide) (fun h6 => ?_) (fun h6 => ?_)
      · have hf := (if_pos h6).symm.trans hf
        refine gx_iconst C (v := 0) d_Floor_hides_42 (by decide) ?_
        cases hf
        exact gx_zret C hr hlk hk (by decide) d_Floor_hides_43
      · have hf := (if_neg h6).symm.trans hf
        refine gx_iconst C (v := 1) d_Floor_hides_38 (by decide) ?_
        refine gx_goto (tgt := 43) C d_Floor_hides_39 (by decide) ?_
        cases hf
        exact gx_zret C hr hlk hk (by decide) d_Floor_hides_43
  · have hf := (if_pos h2).symm.trans hf
    refine gx_iconst C (v := 0) d_Floor_hides_12 (by decide) ?_
    cases hf
    exact gx_zret C hr hlk hk (by decide) d_Floor_hides_13

def f_Floor_isCrossed (a0 : Int32) (a1 : Int32) (a2 : Int32) (a3 : Int32) (x : gx_S) : Option (Int32 × gx_S) :=
  if ((if 0 ≤ a2 then a2 else 0 - a2) + (if 0 ≤ a3 then a3 else 0 - a3)) ≤ (2 * (if 0 ≤ ((a2 * a1) - (a3 * a0)) then ((a2 * a1) - (a3 * a0)) else 0 - ((a2 * a1) - (a3 * a0)))) then (some (0, x)) else (some (1, x))
abbrev rm_Floor_isCrossed : Room := { frames := 1, cells := 0, slots := 0, locals := 15 }
set_option maxHeartbeats 4000000 in
set_option maxRecDepth 100000 in
theorem c_Floor_isCrossed (l : Launch) (a0 : Int32) (a1 : Int32) (a2 : Int32) (a3 : Int32) (x : gx_S) (o : Int32 × gx_S) (hf : f_Floor_isCrossed a0 a1 a2 a3 x = some o) : gx_Mi false l y_Floor_isCrossed prog_3_method_6_code 4 (some .boolean) rm_Floor_isCrossed (fun E => [.int a0, .int a1, .int a2, .int a3]) x o.1 o.2 := by
  refine gx_meti (own := "CaseLayout$Floor") (by decide) rfl (fun E => Nat.le_of_ble_eq_true rfl) (fun K E hl0 hR hr hlk hk C => ?_)
  subst hl0
  unfold f_Floor_isCrossed at hf
  show gx_G K E _ 0 0 x 0 [(0, .int a0), (1, .int a1), (2, .int a2), (3, .int a3)] []
  refine gx_iconst C (v := 2) d_Floor_isCrossed_0 (by decide) ?_
  refine gx_iload_n C 2 d_Floor_isCrossed_1 rfl rfl ?_
  refine gx_iload_n C 1 d_Floor_isCrossed_2 rfl rfl ?_
  refine gx_imul C d_Floor_isCrossed_3 ?_
  refine gx_iload_n C 3 d_Floor_isCrossed_4 rfl rfl ?_
  refine gx_iload_n C 0 d_Floor_isCrossed_5 rfl rfl ?_
  refine gx_imul C d_Floor_isCrossed_6 ?_
  refine gx_isub C d_Floor_isCrossed_7 ?_
  refine gx_mabs C gw_572 gw_573 gw_3 gw_574 (by rw [hR]; decide) (by rw [hR]; exact Nat.le_of_ble_eq_true rfl) (by rw [hR]; decide) (by rw [hR]; decide) d_Floor_isCrossed_8 ?_
  refine gx_imul C d_Floor_isCrossed_11 ?_
  refine gx_iload_n C 2 d_Floor_isCrossed_12 rfl rfl ?_
  refine gx_mabs C gw_572 gw_573 gw_3 gw_574 (by rw [hR]; decide) (by rw [hR]; exact Nat.le_of_ble_eq_true rfl) (by rw [hR]; decide) (by rw [hR]; decide) d_Floor_isCrossed_13 ?_
  refine gx_iload_n C 3 d_Floor_isCrossed_16 rfl rfl ?_
  refine gx_mabs C gw_572 gw_573 gw_3 gw_574 (by rw [hR]; decide) (by rw [hR]; exact Nat.le_of_ble_eq_true rfl) (by rw [hR]; decide) (by rw [hR]; decide) d_Floor_isCrossed_17 ?_
  refine gx_iadd C d_Floor_isCrossed_20 ?_
  refine gx_icmp_ge (tgt := 28) C d_Floor_isCrossed_21 (by decide) (fun h1 => ?_) (fun h1 => ?_)
  · have hf := (if_pos h1).symm.trans hf
    refine gx_iconst C (v := 0) d_Floor_isCrossed_28 (by decide) ?_
    cases hf
    exact gx_zret C hr hlk hk (by decide) d_Floor_isCrossed_29
  · have hf := (if_neg h1).symm.trans hf
    refine gx_iconst C (v := 1) d_Floor_isCrossed_24 (by decide) ?_
    refine gx_goto (tgt := 29) C d_Floor_isCrossed_25 (by decide) ?_
    cases hf
    exact gx_zret C hr hlk hk (by decide) d_Floor_isCrossed_29

def s_Floor_isSeen_45 (v2 : Int32) (v3 : Int32) (v4 : Int32) (v5 : Int32) (v6 : Int32) (v7 : Int32) (a : Int32 × gx_S) : Option ((Int32 × gx_S) ⊕ (Nat × Int32 × gx_S)) :=
  if (if v3 < v5 then v5 else v3) < a.1 then (some (.inr (1, a.1, a.2))) else (gx_bd (f_Floor_hides a.1 v7 v2 a.2) (fun r5 x5 => if r5 = 0 then (some (.inl (a.1 + 1, x5))) else (gx_bd (f_Floor_isCrossed (a.1 - v3) (v7 - v4) (v5 - v3) (v6 - v4) x5) (fun r7 x7 => if r7 = 0 then (some (.inl (a.1 + 1, x7))) else (some (.inr (0, a.1, x7)))))))
def s_Floor_isSeen_25 (v2 : Int32) (v3 : Int32) (v4 : Int32) (v5 : Int32) (v6 : Int32) (a : Int32 × gx_S) : Option ((Int32 × gx_S) ⊕ (Nat × Int32 × gx_S)) :=
  if (if v4 < v6 then v6 else v4) < a.1 then (some (.inr (1, a.1, a.2))) else (gx_bl (gx_it (s_Floor_isSeen_45 v2 v3 v4 v5 v6 a.1) gx_fuel (if v5 < v3 then v5 else v3, a.2)) (fun e9 => if e9.1 = 0 then (some (.inr (0, a.1, e9.2.2))) else (some (.inl (a.1 + 1, e9.2.2)))))
def f_Floor_isSeen (a2 : Int32) (a3 : Int32) (a4 : Int32) (x : gx_S) : Option (Int32 × gx_S) :=
  gx_ck a2 7 (gx_ck a2 7 (gx_bl (gx_it (s_Floor_isSeen_25 a2 a3 a4 (gx_gA x 14 (a2 : Int32).toNatClampNeg) (gx_gA x 15 (a2 : Int32).toNatClampNeg)) gx_fuel (if (gx_gA x 15 (a2 : Int32).toNatClampNeg) < a4 then (gx_gA x 15 (a2 : Int32).toNatClampNeg) else a4, x)) (fun e11 => if e11.1 = 0 then (some (0, e11.2.2)) else (some (1, e11.2.2)))))
abbrev rm_Floor_isSeen : Room := { frames := 2, cells := 0, slots := 0, locals := 46 }
def pp_Floor_isSeen_45 (K : gx_K) (E : gx_E) (v2 : Int32) (v3 : Int32) (v4 : Int32) (v5 : Int32) (v6 : Int32) (v7 : Int32) (a : Int32 × gx_S) : Prop := gx_G K E (gx_AB false E K.s.heap.size) 0 0 (a.2) 45 [(0, .ref (gx_ad E 15)), (2, .int v2), (3, .int v3), (4, .int v4), (5, .int v5), (6, .int v6), (7, .int v7), (8, .int a.1)] []
def pq_Floor_isSeen_45 (K : gx_K) (E : gx_E) (v2 : Int32) (v3 : Int32) (v4 : Int32) (v5 : Int32) (v6 : Int32) (v7 : Int32) (b : Nat × Int32 × gx_S) : Prop := if b.1 = 0 then gx_G K E (gx_AB false E K.s.heap.size) 0 0 (b.2.2) 92 [(2, .int v2), (3, .int v3), (4, .int v4), (5, .int v5), (6, .int v6), (7, .int v7)] [] else (gx_G K E (gx_AB false E K.s.heap.size) 0 0 (b.2.2) 100 [(0, .ref (gx_ad E 15)), (2, .int v2), (3, .int v3), (4, .int v4), (5, .int v5), (6, .int v6), (7, .int v7)] [])
def pp_Floor_isSeen_25 (K : gx_K) (E : gx_E) (v2 : Int32) (v3 : Int32) (v4 : Int32) (v5 : Int32) (v6 : Int32) (a : Int32 × gx_S) : Prop := gx_G K E (gx_AB false E K.s.heap.size) 0 0 (a.2) 25 [(0, .ref (gx_ad E 15)), (2, .int v2), (3, .int v3), (4, .int v4), (5, .int v5), (6, .int v6), (7, .int a.1)] []
def pq_Floor_isSeen_25 (K : gx_K) (E : gx_E) (v2 : Int32) (v3 : Int32) (v4 : Int32) (v5 : Int32) (v6 : Int32) (b : Nat × Int32 × gx_S) : Prop := if b.1 = 0 then gx_G K E (gx_AB false E K.s.heap.size) 0 0 (b.2.2) 92 [] [] else (gx_G K E (gx_AB false E K.s.heap.size) 0 0 (b.2.2) 106 [] [])
set_option maxHeartbeats 4000000 in
set_option maxRecDepth 100000 in
theorem sc_Floor_isSeen_45 {K : gx_K} {E : gx_E} (C : gx_C K E "CaseLayout$Floor" prog_3_method_4_code 9) (hR : K.R = rm_Floor_isSeen) (hr : K.meth.sig.returnType = (some .boolean)) (hlk : K.meth.locks = false) (v2 : Int32) (v3 : Int32) (v4 : Int32) (v5 : Int32) (v6 : Int32) (v7 : Int32) (a : Int32 × gx_S) (o : (Int32 × gx_S) ⊕ (Nat × Int32 × gx_S)) (hf : s_Floor_isSeen_45 v2 v3 v4 v5 v6 v7 a = some o) (hk : gx_or (pp_Floor_isSeen_45 K E v2 v3 v4 v5 v6 v7) (pq_Floor_isSeen_45 K E v2 v3 v4 v5 v6 v7) o) : pp_Floor_isSeen_45 K E v2 v3 v4 v5 v6 v7 a := by
  unfold s_Floor_isSeen_45 at hf
  unfold pp_Floor_isSeen_45
  refine gx_iload C 7 d_Floor_isSeen_45 rfl ?_
  refine gx_iload_n C 2 d_Floor_isSeen_47 rfl rfl ?_
  refine gx_iload C 4 d_Floor_isSeen_48 rfl ?_
  refine gx_mmax C gw_564 gw_36 gw_3 gw_37 (by rw [hR]; decide) (by rw [hR]; exact Nat.le_of_ble_eq_true rfl) (by rw [hR]; decide) (by rw [hR]; decide) d_Floor_isSeen_50 ?_
  refine gx_icmp_gt (tgt := 100) C d_Floor_isSeen_53 (by decide) (fun h4 => ?_) (fun h4 => ?_)
  · have hf := (if_pos h4).symm.trans hf
    cases hf
    have hk : pq_Floor_isSeen_45 K E v2 v3 v4 v5 v6 v7 _ := hk
    unfold pq_Floor_isSeen_45 at hk
    have hk := gx_ifn (by decide : ¬ ((1 : Nat) = 0)) hk
    refine gx_lv (lv' := [(0, .ref (gx_ad E 15)), (2, .int v2), (3, .int v3), (4, .int v4), (5, .int v5), (6, .int v6), (7, .int v7)]) [0, 1, 2, 3, 4, 5, 6] rfl ?_
    exact hk
  · have hf := (if_neg h4).symm.trans hf
    refine gx_aload_n C 0 d_Floor_isSeen_56 rfl rfl ?_
    refine gx_iload C 7 d_Floor_isSeen_57 rfl ?_
    refine gx_iload C 6 d_Floor_isSeen_59 rfl ?_
    refine gx_iload_n C 1 d_Floor_isSeen_61 rfl rfl ?_
    obtain ⟨r5, x5, hc5, hf⟩ := gx_bd_some hf
    refine gx_cVi (n2 := 0) (k2 := 0) C (As := [.int a.1, .int v7, .int v2]) (rest := []) 15 3 (c_Floor_hides K.l a.1 v7 v2 a.2 _ hc5) (Or.inr rfl) rfl (gx_goodV gw_565 gw_567 gs_9 gw_7 gw_568) (by decide +kernel) (gx_w15 E _) rfl (by rw [hR]; decide) rfl rfl (Nat.le_of_ble_eq_true rfl) d_Floor_isSeen_62 (by rw [hR]; decide) rfl rfl ?_
    refine gx_if_eq (tgt := 94) C d_Floor_isSeen_65 (by decide) (fun h6 => ?_) (fun h6 => ?_)
    · have hf := (if_pos h6).symm.trans hf
      refine gx_iinc C (v := a.1 + 1) (lv' := [(8, .int (a.1 + 1)), (0, .ref (gx_ad E 15)), (2, .int v2), (3, .int v3), (4, .int v4), (5, .int v5), (6, .int v6), (7, .int v7)]) 7 d_Floor_isSeen_94 rfl rfl (by decide) rfl ?_
      refine gx_goto (tgt := 45) C d_Floor_isSeen_97 (by decide) ?_
      cases hf
      refine gx_lv (lv' := [(0, .ref (gx_ad E 15)), (2, .int v2), (3, .int v3), (4, .int v4), (5, .int v5), (6, .int v6), (7, .int v7), (8, .int (a.1 + 1))]) [1, 2, 3, 4, 5, 6, 7, 0] rfl ?_
      exact hk
    · have hf := (if_neg h6).symm.trans hf
      refine gx_iload C 7 d_Floor_isSeen_68 rfl ?_
      refine gx_iload_n C 2 d_Floor_isSeen_70 rfl rfl ?_
      refine gx_isub C d_Floor_isSeen_71 ?_
      refine gx_iload C 6 d_Floor_isSeen_72 rfl ?_
      refine gx_iload C 3 d_Floor_isSeen_74 rfl ?_
      refine gx_isub C d_Floor_isSeen_76 ?_
      refine gx_iload C 4 d_Floor_isSeen_77 rfl ?_
      refine gx_iload_n C 2 d_Floor_isSeen_79 rfl rfl ?_
      refine gx_isub C d_Floor_isSeen_80 ?_
      refine gx_iload C 5 d_Floor_isSeen_81 rfl ?_
      refine gx_iload C 3 d_Floor_isSeen_83 rfl ?_
      refine gx_isub C d_Floor_isSeen_85 ?_
      obtain ⟨r7, x7, hc7, hf⟩ := gx_bd_some hf
      refine gx_cSi (n2 := 0) (k2 := 0) C (As := [.int (a.1 - v3), .int (v7 - v4), .int (v5 - v3), .int (v6 - v4)]) (rest := []) 4 (c_Floor_isCrossed K.l (a.1 - v3) (v7 - v4) (v5 - v3) (v6 - v4) x5 _ hc7) (Or.inr rfl) rfl (gx_goodS gw_569 gw_570 gw_7 gw_571) (by decide +kernel) (by rw [hR]; decide) rfl rfl (Nat.le_of_ble_eq_true rfl) d_Floor_isSeen_86 (by rw [hR]; decide) rfl rfl ?_
      refine gx_if_eq (tgt := 94) C d_Floor_isSeen_89 (by decide) (fun h8 => ?_) (fun h8 => ?_)
      · have hf := (if_pos h8).symm.trans hf
        refine gx_iinc C (v := a.1 + 1) (lv' := [(8, .int (a.1 + 1)), (0, .ref (gx_ad E 15)), (2, .int v2), (3, .int v3), (4, .int v4), (5, .int v5), (6, .int v6), (7, .int v7)]) 7 d_Floor_isSeen_94 rfl rfl (by decide) rfl ?_
        refine gx_goto (tgt := 45) C d_Floor_isSeen_97 (by decide) ?_
        cases hf
        refine gx_lv (lv' := [(0, .ref (gx_ad E 15)), (2, .int v2), (3, .int v3), (4, .int v4), (5, .int v5), (6, .int v6), (7, .int v7), (8, .int (a.1 + 1))]) [1, 2, 3, 4, 5, 6, 7, 0] rfl ?_
        exact hk
      · have hf := (if_neg h8).symm.trans hf
        cases hf
        have hk : pq_Floor_isSeen_45 K E v2 v3 v4 v5 v6 v7 _ := hk
        unfold pq_Floor_isSeen_45 at hk
        have hk := gx_ifp (rfl : (0 : Nat) = 0) hk
        refine gx_lv (lv' := [(2, .int v2), (3, .int v3), (4, .int v4), (5, .int v5), (6, .int v6), (7, .int v7)]) [1, 2, 3, 4, 5, 6] rfl ?_
        exact hk
set_option maxHeartbeats 4000000 in
set_option maxRecDepth 100000 in
theorem sc_Floor_isSeen_25 {K : gx_K} {E : gx_E} (C : gx_C K E "CaseLayout$Floor" prog_3_method_4_code 9) (hR : K.R = rm_Floor_isSeen) (hr : K.meth.sig.returnType = (some .boolean)) (hlk : K.meth.locks = false) (v2 : Int32) (v3 : Int32) (v4 : Int32) (v5 : Int32) (v6 : Int32) (a : Int32 × gx_S) (o : (Int32 × gx_S) ⊕ (Nat × Int32 × gx_S)) (hf : s_Floor_isSeen_25 v2 v3 v4 v5 v6 a = some o) (hk : gx_or (pp_Floor_isSeen_25 K E v2 v3 v4 v5 v6) (pq_Floor_isSeen_25 K E v2 v3 v4 v5 v6) o) : pp_Floor_isSeen_25 K E v2 v3 v4 v5 v6 a := by
  unfold s_Floor_isSeen_25 at hf
  unfold pp_Floor_isSeen_25
  refine gx_iload C 6 d_Floor_isSeen_25 rfl ?_
  refine gx_iload C 3 d_Floor_isSeen_27 rfl ?_
  refine gx_iload C 5 d_Floor_isSeen_29 rfl ?_
  refine gx_mmax C gw_564 gw_36 gw_3 gw_37 (by rw [hR]; decide) (by rw [hR]; exact Nat.le_of_ble_eq_true rfl) (by rw [hR]; decide) (by rw [hR]; decide) d_Floor_isSeen_31 ?_
  refine gx_icmp_gt (tgt := 106) C d_Floor_isSeen_34 (by decide) (fun h3 => ?_) (fun h3 => ?_)
  · have hf := (if_pos h3).symm.trans hf
    cases hf
    have hk : pq_Floor_isSeen_25 K E v2 v3 v4 v5 v6 _ := hk
    unfold pq_Floor_isSeen_25 at hk
    have hk := gx_ifn (by decide : ¬ ((1 : Nat) = 0)) hk
    refine gx_lv (lv' := []) [] rfl ?_
    exact hk
  · have hf := (if_neg h3).symm.trans hf
    refine gx_iload_n C 2 d_Floor_isSeen_37 rfl rfl ?_
    refine gx_iload C 4 d_Floor_isSeen_38 rfl ?_
    refine gx_mmin C gw_563 gw_33 gw_3 gw_34 (by rw [hR]; decide) (by rw [hR]; exact Nat.le_of_ble_eq_true rfl) (by rw [hR]; decide) (by rw [hR]; decide) d_Floor_isSeen_40 ?_
    refine gx_istore C (lv' := [(8, .int (if v5 < v3 then v5 else v3)), (0, .ref (gx_ad E 15)), (2, .int v2), (3, .int v3), (4, .int v4), (5, .int v5), (6, .int v6), (7, .int a.1)]) d_Floor_isSeen_43 (by decide) rfl ?_
    refine gx_lv (lv' := [(0, .ref (gx_ad E 15)), (2, .int v2), (3, .int v3), (4, .int v4), (5, .int v5), (6, .int v6), (7, .int a.1), (8, .int (if v5 < v3 then v5 else v3))]) [1, 2, 3, 4, 5, 6, 7, 0] rfl ?_
    obtain ⟨e9, he9, hf⟩ := gx_bl_some hf
    refine (gx_loop (P := pp_Floor_isSeen_45 K E v2 v3 v4 v5 v6 a.1) (Q := pq_Floor_isSeen_45 K E v2 v3 v4 v5 v6 a.1) (fun a9 o9 h1 h2 => sc_Floor_isSeen_45 C hR hr hlk v2 v3 v4 v5 v6 a.1 a9 o9 h1 h2) gx_fuel (if v5 < v3 then v5 else v3, a.2) e9 he9 ?_ : pp_Floor_isSeen_45 K E v2 v3 v4 v5 v6 a.1 (if v5 < v3 then v5 else v3, a.2))
    unfold pq_Floor_isSeen_45
    by_cases ht10 : e9.1 = 0
    · rw [if_pos ht10]
      have hf := (if_pos ht10).symm.trans hf
      cases hf
      have hk : pq_Floor_isSeen_25 K E v2 v3 v4 v5 v6 _ := hk
      unfold pq_Floor_isSeen_25 at hk
      have hk := gx_ifp (rfl : (0 : Nat) = 0) hk
      refine gx_lv (lv' := []) [] rfl ?_
      exact hk
    · rw [if_neg ht10]
      have hf := (if_neg ht10).symm.trans hf
      refine gx_iinc C (v := a.1 + 1) (lv' := [(7, .int (a.1 + 1)), (0, .ref (gx_ad E 15)), (2, .int v2), (3, .int v3), (4, .int v4), (5, .int v5), (6, .int v6)]) 6 d_Floor_isSeen_100 rfl rfl (by decide) rfl ?_
      refine gx_goto (tgt := 25) C d_Floor_isSeen_103 (by decide) ?_
      cases hf
      refine gx_lv (lv' := [(0, .ref (gx_ad E 15)), (2, .int v2), (3, .int v3), (4, .int v4), (5, .int v5), (6, .int v6), (7, .int (a.1 + 1))]) [1, 2, 3, 4, 5, 6, 0] rfl ?_
      exact hk
set_option maxHeartbeats 4000000 in
set_option maxRecDepth 100000 in
theorem c_Floor_isSeen (l : Launch) (a2 : Int32) (a3 : Int32) (a4 : Int32) (x : gx_S) (o : Int32 × gx_S) (hf : f_Floor_isSeen a2 a3 a4 x = some o) : gx_Mi false l y_Floor_isSeen prog_3_method_4_code 9 (some .boolean) rm_Floor_isSeen (fun E => [.ref (gx_ad E 15), .ref (gx_ad E 19), .int a2, .int a3, .int a4]) x o.1 o.2 := by
  refine gx_meti (own := "CaseLayout$Floor") (by decide) rfl (fun E => Nat.le_of_ble_eq_true rfl) (fun K E hl0 hR hr hlk hk C => ?_)
  subst hl0
  unfold f_Floor_isSeen at hf
  show gx_G K E _ 0 0 x 0 [(0, .ref (gx_ad E 15)), (1, .ref (gx_ad E 19)), (2, .int a2), (3, .int a3), (4, .int a4)] []
  refine gx_aload_n C 1 d_Floor_isSeen_0 rfl rfl ?_
  refine gx_getN C iw_Layout 19 (gx_w19 E _) rfl 1 (by decide) gn_192 rfl rfl d_Floor_isSeen_1 ?_
  refine gx_iload_n C 2 d_Floor_isSeen_4 rfl rfl ?_
  obtain ⟨hi1, hf⟩ := gx_ck_some hf
  refine gx_iald C 20 0 (gx_w20 E _) rfl hi1 d_Floor_isSeen_5 ?_
  refine gx_istore C (lv' := [(5, .int (gx_gA x 14 (a2 : Int32).toNatClampNeg)), (0, .ref (gx_ad E 15)), (1, .ref (gx_ad E 19)), (2, .int a2), (3, .int a3), (4, .int a4)]) d_Floor_isSeen_6 (by decide) rfl ?_
  refine gx_aload_n C 2 d_Floor_isSeen_8 rfl rfl ?_
  refine gx_getN C iw_Layout 19 (gx_w19 E _) rfl 2 (by decide) gn_196 rfl rfl d_Floor_isSeen_9 ?_
  refine gx_iload_n C 3 d_Floor_isSeen_12 rfl rfl ?_
  obtain ⟨hi2, hf⟩ := gx_ck_some hf
  refine gx_iald C 21 0 (gx_w21 E _) rfl hi2 d_Floor_isSeen_13 ?_
  refine gx_istore C (lv' := [(6, .int (gx_gA x 15 (a2 : Int32).toNatClampNeg)), (5, .int (gx_gA x 14 (a2 : Int32).toNatClampNeg)), (0, .ref (gx_ad E 15)), (1, .ref (gx_ad E 19)), (2, .int a2), (3, .int a3), (4, .int a4)]) d_Floor_isSeen_14 (by decide) rfl ?_
  refine gx_iload C 6 d_Floor_isSeen_16 rfl ?_
  refine gx_iload C 0 d_Floor_isSeen_18 rfl ?_
  refine gx_mmin C gw_563 gw_33 gw_3 gw_34 (by rw [hR]; decide) (by rw [hR]; exact Nat.le_of_ble_eq_true rfl) (by rw [hR]; decide) (by rw [hR]; decide) d_Floor_isSeen_20 ?_
  refine gx_istore C (lv' := [(7, .int (if (gx_gA x 15 (a2 : Int32).toNatClampNeg) < a4 then (gx_gA x 15 (a2 : Int32).toNatClampNeg) else a4)), (6, .int (gx_gA x 15 (a2 : Int32).toNatClampNeg)), (5, .int (gx_gA x 14 (a2 : Int32).toNatClampNeg)), (0, .ref (gx_ad E 15)), (1, .ref (gx_ad E 19)), (2, .int a2), (3, .int a3), (4, .int a4)]) d_Floor_isSeen_23 (by decide) rfl ?_
  refine gx_lv (lv' := [(0, .ref (gx_ad E 15)), (2, .int a2), (3, .int a3), (4, .int a4), (5, .int (gx_gA x 14 (a2 : Int32).toNatClampNeg)), (6, .int (gx_gA x 15 (a2 : Int32).toNatClampNeg)), (7, .int (if (gx_gA x 15 (a2 : Int32).toNatClampNeg) < a4 then (gx_gA x 15 (a2 : Int32).toNatClampNeg) else a4))]) [3, 5, 6, 7, 2, 1, 0] rfl ?_
  obtain ⟨e11, he11, hf⟩ := gx_bl_some hf
  refine (gx_loop (P := pp_Floor_isSeen_25 K E a2 a3 a4 (gx_gA x 14 (a2 : Int32).toNatClampNeg) (gx_gA x 15 (a2 : Int32).toNatClampNeg)) (Q := pq_Floor_isSeen_25 K E a2 a3 a4 (gx_gA x 14 (a2 : Int32).toNatClampNeg) (gx_gA x 15 (a2 : Int32).toNatClampNeg)) (fun a9 o9 h1 h2 => sc_Floor_isSeen_25 C hR hr hlk a2 a3 a4 (gx_gA x 14 (a2 : Int32).toNatClampNeg) (gx_gA x 15 (a2 : Int32).toNatClampNeg) a9 o9 h1 h2) gx_fuel (if (gx_gA x 15 (a2 : Int32).toNatClampNeg) < a4 then (gx_gA x 15 (a2 : Int32).toNatClampNeg) else a4, x) e11 he11 ?_ : pp_Floor_isSeen_25 K E a2 a3 a4 (gx_gA x 14 (a2 : Int32).toNatClampNeg) (gx_gA x 15 (a2 : Int32).toNatClampNeg) (if (gx_gA x 15 (a2 : Int32).toNatClampNeg) < a4 then (gx_gA x 15 (a2 : Int32).toNatClampNeg) else a4, x))
  unfold pq_Floor_isSeen_25
  by_cases ht12 : e11.1 = 0
  · rw [if_pos ht12]
    have hf := (if_pos ht12).symm.trans hf
    refine gx_iconst C (v := 0) d_Floor_isSeen_92 (by decide) ?_
    cases hf
    exact gx_zret C hr hlk hk (by decide) d_Floor_isSeen_93
  · rw [if_neg ht12]
    have hf := (if_neg ht12).symm.trans hf
    refine gx_iconst C (v := 1) d_Floor_isSeen_106 (by decide) ?_
    cases hf
    exact gx_zret C hr hlk hk (by decide) d_Floor_isSeen_107

def s_Floor_isSeen_2_45 (v2 : Int32) (v3 : Int32) (v4 : Int32) (v5 : Int32) (v6 : Int32) (v7 : Int32) (a : Int32 × gx_S) : Option ((Int32 × gx_S) ⊕ (Nat × Int32 × gx_S)) :=
  if (if v3 < v5 then v5 else v3) < a.1 then (some (.inr (1, a.1, a.2))) else (gx_bd (f_Floor_hides a.1 v7 v2 a.2) (fun r5 x5 => if r5 = 0 then (some (.inl (a.1 + 1, x5))) else (gx_bd (f_Floor_isCrossed (a.1 - v3) (v7 - v4) (v5 - v3) (v6 - v4) x5) (fun r7 x7 => if r7 = 0 then (some (.inl (a.1 + 1, x7))) else (some (.inr (0, a.1, x7)))))))
def s_Floor_isSeen_2_25 (v2 : Int32) (v3 : Int32) (v4 : Int32) (v5 : Int32) (v6 : Int32) (a : Int32 × gx_S) : Option ((Int32 × gx_S) ⊕ (Nat × Int32 × gx_S)) :=
  if (if v4 < v6 then v6 else v4) < a.1 then (some (.inr (1, a.1, a.2))) else (gx_bl (gx_it (s_Floor_isSeen_2_45 v2 v3 v4 v5 v6 a.1) gx_fuel (if v5 < v3 then v5 else v3, a.2)) (fun e9 => if e9.1 = 0 then (some (.inr (0, a.1, e9.2.2))) else (some (.inl (a.1 + 1, e9.2.2)))))
def f_Floor_isSeen_2 (a2 : Int32) (a3 : Int32) (a4 : Int32) (x : gx_S) : Option (Int32 × gx_S) :=
  gx_ck a2 7 (gx_ck a2 7 (gx_bl (gx_it (s_Floor_isSeen_2_25 a2 a3 a4 (gx_gA x 16 (a2 : Int32).toNatClampNeg) (gx_gA x 17 (a2 : Int32).toNatClampNeg)) gx_fuel (if (gx_gA x 17 (a2 : Int32).toNatClampNeg) < a4 then (gx_gA x 17 (a2 : Int32).toNatClampNeg) else a4, x)) (fun e11 => if e11.1 = 0 then (some (0, e11.2.2)) else (some (1, e11.2.2)))))
abbrev rm_Floor_isSeen_2 : Room := { frames := 2, cells := 0, slots := 0, locals := 46 }
def pp_Floor_isSeen_2_45 (K : gx_K) (E : gx_E) (v2 : Int32) (v3 : Int32) (v4 : Int32) (v5 : Int32) (v6 : Int32) (v7 : Int32) (a : Int32 × gx_S) : Prop := gx_G K E (gx_AB false E K.s.heap.size) 0 0 (a.2) 45 [(0, .ref (gx_ad E 15)), (2, .int v2), (3, .int v3), (4, .int v4), (5, .int v5), (6, .int v6), (7, .int v7), (8, .int a.1)] []
def pq_Floor_isSeen_2_45 (K : gx_K) (E : gx_E) (v2 : Int32) (v3 : Int32) (v4 : Int32) (v5 : Int32) (v6 : Int32) (v7 : Int32) (b : Nat × Int32 × gx_S) : Prop := if b.1 = 0 then gx_G K E (gx_AB false E K.s.heap.size) 0 0 (b.2.2) 92 [(2, .int v2), (3, .int v3), (4, .int v4), (5, .int v5), (6, .int v6), (7, .int v7)] [] else (gx_G K E (gx_AB false E K.s.heap.size) 0 0 (b.2.2) 100 [(0, .ref (gx_ad E 15)), (2, .int v2), (3, .int v3), (4, .int v4), (5, .int v5), (6, .int v6), (7, .int v7)] [])
def pp_Floor_isSeen_2_25 (K : gx_K) (E : gx_E) (v2 : Int32) (v3 : Int32) (v4 : Int32) (v5 : Int32) (v6 : Int32) (a : Int32 × gx_S) : Prop := gx_G K E (gx_AB false E K.s.heap.size) 0 0 (a.2) 25 [(0, .ref (gx_ad E 15)), (2, .int v2), (3, .int v3), (4, .int v4), (5, .int v5), (6, .int v6), (7, .int a.1)] []
def pq_Floor_isSeen_2_25 (K : gx_K) (E : gx_E) (v2 : Int32) (v3 : Int32) (v4 : Int32) (v5 : Int32) (v6 : Int32) (b : Nat × Int32 × gx_S) : Prop := if b.1 = 0 then gx_G K E (gx_AB false E K.s.heap.size) 0 0 (b.2.2) 92 [] [] else (gx_G K E (gx_AB false E K.s.heap.size) 0 0 (b.2.2) 106 [] [])
set_option maxHeartbeats 4000000 in
set_option maxRecDepth 100000 in
theorem sc_Floor_isSeen_2_45 {K : gx_K} {E : gx_E} (C : gx_C K E "CaseLayout$Floor" prog_3_method_4_code 9) (hR : K.R = rm_Floor_isSeen_2) (hr : K.meth.sig.returnType = (some .boolean)) (hlk : K.meth.locks = false) (v2 : Int32) (v3 : Int32) (v4 : Int32) (v5 : Int32) (v6 : Int32) (v7 : Int32) (a : Int32 × gx_S) (o : (Int32 × gx_S) ⊕ (Nat × Int32 × gx_S)) (hf : s_Floor_isSeen_2_45 v2 v3 v4 v5 v6 v7 a = some o) (hk : gx_or (pp_Floor_isSeen_2_45 K E v2 v3 v4 v5 v6 v7) (pq_Floor_isSeen_2_45 K E v2 v3 v4 v5 v6 v7) o) : pp_Floor_isSeen_2_45 K E v2 v3 v4 v5 v6 v7 a := by
  unfold s_Floor_isSeen_2_45 at hf
  unfold pp_Floor_isSeen_2_45
  refine gx_iload C 7 d_Floor_isSeen_45 rfl ?_
  refine gx_iload_n C 2 d_Floor_isSeen_47 rfl rfl ?_
  refine gx_iload C 4 d_Floor_isSeen_48 rfl ?_
  refine gx_mmax C gw_564 gw_36 gw_3 gw_37 (by rw [hR]; decide) (by rw [hR]; exact Nat.le_of_ble_eq_true rfl) (by rw [hR]; decide) (by rw [hR]; decide) d_Floor_isSeen_50 ?_
  refine gx_icmp_gt (tgt := 100) C d_Floor_isSeen_53 (by decide) (fun h4 => ?_) (fun h4 => ?_)
  · have hf := (if_pos h4).symm.trans hf
    cases hf
    have hk : pq_Floor_isSeen_2_45 K E v2 v3 v4 v5 v6 v7 _ := hk
    unfold pq_Floor_isSeen_2_45 at hk
    have hk := gx_ifn (by decide : ¬ ((1 : Nat) = 0)) hk
    refine gx_lv (lv' := [(0, .ref (gx_ad E 15)), (2, .int v2), (3, .int v3), (4, .int v4), (5, .int v5), (6, .int v6), (7, .int v7)]) [0, 1, 2, 3, 4, 5, 6] rfl ?_
    exact hk
  · have hf := (if_neg h4).symm.trans hf
    refine gx_aload_n C 0 d_Floor_isSeen_56 rfl rfl ?_
    refine gx_iload C 7 d_Floor_isSeen_57 rfl ?_
    refine gx_iload C 6 d_Floor_isSeen_59 rfl ?_
    refine gx_iload_n C 1 d_Floor_isSeen_61 rfl rfl ?_
    obtain ⟨r5, x5, hc5, hf⟩ := gx_bd_some hf
    refine gx_cVi (n2 := 0) (k2 := 0) C (As := [.int a.1, .int v7, .int v2]) (rest := []) 15 3 (c_Floor_hides K.l a.1 v7 v2 a.2 _ hc5) (Or.inr rfl) rfl (gx_goodV gw_565 gw_567 gs_9 gw_7 gw_568) (by decide +kernel) (gx_w15 E _) rfl (by rw [hR]; decide) rfl rfl (Nat.le_of_ble_eq_true rfl) d_Floor_isSeen_62 (by rw [hR]; decide) rfl rfl ?_
    refine gx_if_eq (tgt := 94) C d_Floor_isSeen_65 (by decide) (fun h6 => ?_) (fun h6 => ?_)
    · have hf := (if_pos h6).symm.trans hf
      refine gx_iinc C (v := a.1 + 1) (lv' := [(8, .int (a.1 + 1)), (0, .ref (gx_ad E 15)), (2, .int v2), (3, .int v3), (4, .int v4), (5, .int v5), (6, .int v6), (7, .int v7)]) 7 d_Floor_isSeen_94 rfl rfl (by decide) rfl ?_
      refine gx_goto (tgt := 45) C d_Floor_isSeen_97 (by decide) ?_
      cases hf
      refine gx_lv (lv' := [(0, .ref (gx_ad E 15)), (2, .int v2), (3, .int v3), (4, .int v4), (5, .int v5), (6, .int v6), (7, .int v7), (8, .int (a.1 + 1))]) [1, 2, 3, 4, 5, 6, 7, 0] rfl ?_
      exact hk
    · have hf := (if_neg h6).symm.trans hf
      refine gx_iload C 7 d_Floor_isSeen_68 rfl ?_
      refine gx_iload_n C 2 d_Floor_isSeen_70 rfl rfl ?_
      refine gx_isub C d_Floor_isSeen_71 ?_
      refine gx_iload C 6 d_Floor_isSeen_72 rfl ?_
      refine gx_iload C 3 d_Floor_isSeen_74 rfl ?_
      refine gx_isub C d_Floor_isSeen_76 ?_
      refine gx_iload C 4 d_Floor_isSeen_77 rfl ?_
      refine gx_iload_n C 2 d_Floor_isSeen_79 rfl rfl ?_
      refine gx_isub C d_Floor_isSeen_80 ?_
      refine gx_iload C 5 d_Floor_isSeen_81 rfl ?_
      refine gx_iload C 3 d_Floor_isSeen_83 rfl ?_
      refine gx_isub C d_Floor_isSeen_85 ?_
      obtain ⟨r7, x7, hc7, hf⟩ := gx_bd_some hf
      refine gx_cSi (n2 := 0) (k2 := 0) C (As := [.int (a.1 - v3), .int (v7 - v4), .int (v5 - v3), .int (v6 - v4)]) (rest := []) 4 (c_Floor_isCrossed K.l (a.1 - v3) (v7 - v4) (v5 - v3) (v6 - v4) x5 _ hc7) (Or.inr rfl) rfl (gx_goodS gw_569 gw_570 gw_7 gw_571) (by decide +kernel) (by rw [hR]; decide) rfl rfl (Nat.le_of_ble_eq_true rfl) d_Floor_isSeen_86 (by rw [hR]; decide) rfl rfl ?_
      refine gx_if_eq (tgt := 94) C d_Floor_isSeen_89 (by decide) (fun h8 => ?_) (fun h8 => ?_)
      · have hf := (if_pos h8).symm.trans hf
        refine gx_iinc C (v := a.1 + 1) (lv' := [(8, .int (a.1 + 1)), (0, .ref (gx_ad E 15)), (2, .int v2), (3, .int v3), (4, .int v4), (5, .int v5), (6, .int v6), (7, .int v7)]) 7 d_Floor_isSeen_94 rfl rfl (by decide) rfl ?_
        refine gx_goto (tgt := 45) C d_Floor_isSeen_97 (by decide) ?_
        cases hf
        refine gx_lv (lv' := [(0, .ref (gx_ad E 15)), (2, .int v2), (3, .int v3), (4, .int v4), (5, .int v5), (6, .int v6), (7, .int v7), (8, .int (a.1 + 1))]) [1, 2, 3, 4, 5, 6, 7, 0] rfl ?_
        exact hk
      · have hf := (if_neg h8).symm.trans hf
        cases hf
        have hk : pq_Floor_isSeen_2_45 K E v2 v3 v4 v5 v6 v7 _ := hk
        unfold pq_Floor_isSeen_2_45 at hk
        have hk := gx_ifp (rfl : (0 : Nat) = 0) hk
        refine gx_lv (lv' := [(2, .int v2), (3, .int v3), (4, .int v4), (5, .int v5), (6, .int v6), (7, .int v7)]) [1, 2, 3, 4, 5, 6] rfl ?_
        exact hk
set_option maxHeartbeats 4000000 in
set_option maxRecDepth 100000 in
theorem sc_Floor_isSeen_2_25 {K : gx_K} {E : gx_E} (C : gx_C K E "CaseLayout$Floor" prog_3_method_4_code 9) (hR : K.R = rm_Floor_isSeen_2) (hr : K.meth.sig.returnType = (some .boolean)) (hlk : K.meth.locks = false) (v2 : Int32) (v3 : Int32) (v4 : Int32) (v5 : Int32) (v6 : Int32) (a : Int32 × gx_S) (o : (Int32 × gx_S) ⊕ (Nat × Int32 × gx_S)) (hf : s_Floor_isSeen_2_25 v2 v3 v4 v5 v6 a = some o) (hk : gx_or (pp_Floor_isSeen_2_25 K E v2 v3 v4 v5 v6) (pq_Floor_isSeen_2_25 K E v2 v3 v4 v5 v6) o) : pp_Floor_isSeen_2_25 K E v2 v3 v4 v5 v6 a := by
  unfold s_Floor_isSeen_2_25 at hf
  unfold pp_Floor_isSeen_2_25
  refine gx_iload C 6 d_Floor_isSeen_25 rfl ?_
  refine gx_iload C 3 d_Floor_isSeen_27 rfl ?_
  refine gx_iload C 5 d_Floor_isSeen_29 rfl ?_
  refine gx_mmax C gw_564 gw_36 gw_3 gw_37 (by rw [hR]; decide) (by rw [hR]; exact Nat.le_of_ble_eq_true rfl) (by rw [hR]; decide) (by rw [hR]; decide) d_Floor_isSeen_31 ?_
  refine gx_icmp_gt (tgt := 106) C d_Floor_isSeen_34 (by decide) (fun h3 => ?_) (fun h3 => ?_)
  · have hf := (if_pos h3).symm.trans hf
    cases hf
    have hk : pq_Floor_isSeen_2_25 K E v2 v3 v4 v5 v6 _ := hk
    unfold pq_Floor_isSeen_2_25 at hk
    have hk := gx_ifn (by decide : ¬ ((1 : Nat) = 0)) hk
    refine gx_lv (lv' := []) [] rfl ?_
    exact hk
  · have hf := (if_neg h3).symm.trans hf
    refine gx_iload_n C 2 d_Floor_isSeen_37 rfl rfl ?_
    refine gx_iload C 4 d_Floor_isSeen_38 rfl ?_
    refine gx_mmin C gw_563 gw_33 gw_3 gw_34 (by rw [hR]; decide) (by rw [hR]; exact Nat.le_of_ble_eq_true rfl) (by rw [hR]; decide) (by rw [hR]; decide) d_Floor_isSeen_40 ?_
    refine gx_istore C (lv' := [(8, .int (if v5 < v3 then v5 else v3)), (0, .ref (gx_ad E 15)), (2, .int v2), (3, .int v3), (4, .int v4), (5, .int v5), (6, .int v6), (7, .int a.1)]) d_Floor_isSeen_43 (by decide) rfl ?_
    refine gx_lv (lv' := [(0, .ref (gx_ad E 15)), (2, .int v2), (3, .int v3), (4, .int v4), (5, .int v5), (6, .int v6), (7, .int a.1), (8, .int (if v5 < v3 then v5 else v3))]) [1, 2, 3, 4, 5, 6, 7, 0] rfl ?_
    obtain ⟨e9, he9, hf⟩ := gx_bl_some hf
    refine (gx_loop (P := pp_Floor_isSeen_2_45 K E v2 v3 v4 v5 v6 a.1) (Q := pq_Floor_isSeen_2_45 K E v2 v3 v4 v5 v6 a.1) (fun a9 o9 h1 h2 => sc_Floor_isSeen_2_45 C hR hr hlk v2 v3 v4 v5 v6 a.1 a9 o9 h1 h2) gx_fuel (if v5 < v3 then v5 else v3, a.2) e9 he9 ?_ : pp_Floor_isSeen_2_45 K E v2 v3 v4 v5 v6 a.1 (if v5 < v3 then v5 else v3, a.2))
    unfold pq_Floor_isSeen_2_45
    by_cases ht10 : e9.1 = 0
    · rw [if_pos ht10]
      have hf := (if_pos ht10).symm.trans hf
      cases hf
      have hk : pq_Floor_isSeen_2_25 K E v2 v3 v4 v5 v6 _ := hk
      unfold pq_Floor_isSeen_2_25 at hk
      have hk := gx_ifp (rfl : (0 : Nat) = 0) hk
      refine gx_lv (lv' := []) [] rfl ?_
      exact hk
    · rw [if_neg ht10]
      have hf := (if_neg ht10).symm.trans hf
      refine gx_iinc C (v := a.1 + 1) (lv' := [(7, .int (a.1 + 1)), (0, .ref (gx_ad E 15)), (2, .int v2), (3, .int v3), (4, .int v4), (5, .int v5), (6, .int v6)]) 6 d_Floor_isSeen_100 rfl rfl (by decide) rfl ?_
      refine gx_goto (tgt := 25) C d_Floor_isSeen_103 (by decide) ?_
      cases hf
      refine gx_lv (lv' := [(0, .ref (gx_ad E 15)), (2, .int v2), (3, .int v3), (4, .int v4), (5, .int v5), (6, .int v6), (7, .int (a.1 + 1))]) [1, 2, 3, 4, 5, 6, 0] rfl ?_
      exact hk
set_option maxHeartbeats 4000000 in
set_option maxRecDepth 100000 in
theorem c_Floor_isSeen_2 (l : Launch) (a2 : Int32) (a3 : Int32) (a4 : Int32) (x : gx_S) (o : Int32 × gx_S) (hf : f_Floor_isSeen_2 a2 a3 a4 x = some o) : gx_Mi false l y_Floor_isSeen prog_3_method_4_code 9 (some .boolean) rm_Floor_isSeen_2 (fun E => [.ref (gx_ad E 15), .ref (gx_ad E 22), .int a2, .int a3, .int a4]) x o.1 o.2 := by
  refine gx_meti (own := "CaseLayout$Floor") (by decide) rfl (fun E => Nat.le_of_ble_eq_true rfl) (fun K E hl0 hR hr hlk hk C => ?_)
  subst hl0
  unfold f_Floor_isSeen_2 at hf
  show gx_G K E _ 0 0 x 0 [(0, .ref (gx_ad E 15)), (1, .ref (gx_ad E 22)), (2, .int a2), (3, .int a3), (4, .int a4)] []
  refine gx_aload_n C 1 d_Floor_isSeen_0 rfl rfl ?_
  refine gx_getN C iw_Layout 22 (gx_w22 E _) rfl 1 (by decide) gn_192 rfl rfl d_Floor_isSeen_1 ?_
  refine gx_iload_n C 2 d_Floor_isSeen_4 rfl rfl ?_
  obtain ⟨hi1, hf⟩ := gx_ck_some hf
  refine gx_iald C 23 0 (gx_w23 E _) rfl hi1 d_Floor_isSeen_5 ?_
  refine gx_istore C (lv' := [(5, .int (gx_gA x 16 (a2 : Int32).toNatClampNeg)), (0, .ref (gx_ad E 15)), (1, .ref (gx_ad E 22)), (2, .int a2), (3, .int a3), (4, .int a4)]) d_Floor_isSeen_6 (by decide) rfl ?_
  refine gx_aload_n C 2 d_Floor_isSeen_8 rfl rfl ?_
  refine gx_getN C iw_Layout 22 (gx_w22 E _) rfl 2 (by decide) gn_196 rfl rfl d_Floor_isSeen_9 ?_
  refine gx_iload_n C 3 d_Floor_isSeen_12 rfl rfl ?_
  obtain ⟨hi2, hf⟩ := gx_ck_some hf
  refine gx_iald C 24 0 (gx_w24 E _) rfl hi2 d_Floor_isSeen_13 ?_
  refine gx_istore C (lv' := [(6, .int (gx_gA x 17 (a2 : Int32).toNatClampNeg)), (5, .int (gx_gA x 16 (a2 : Int32).toNatClampNeg)), (0, .ref (gx_ad E 15)), (1, .ref (gx_ad E 22)), (2, .int a2), (3, .int a3), (4, .int a4)]) d_Floor_isSeen_14 (by decide) rfl ?_
  refine gx_iload C 6 d_Floor_isSeen_16 rfl ?_
  refine gx_iload C 0 d_Floor_isSeen_18 rfl ?_
  refine gx_mmin C gw_563 gw_33 gw_3 gw_34 (by rw [hR]; decide) (by rw [hR]; exact Nat.le_of_ble_eq_true rfl) (by rw [hR]; decide) (by rw [hR]; decide) d_Floor_isSeen_20 ?_
  refine gx_istore C (lv' := [(7, .int (if (gx_gA x 17 (a2 : Int32).toNatClampNeg) < a4 then (gx_gA x 17 (a2 : Int32).toNatClampNeg) else a4)), (6, .int (gx_gA x 17 (a2 : Int32).toNatClampNeg)), (5, .int (gx_gA x 16 (a2 : Int32).toNatClampNeg)), (0, .ref (gx_ad E 15)), (1, .ref (gx_ad E 22)), (2, .int a2), (3, .int a3), (4, .int a4)]) d_Floor_isSeen_23 (by decide) rfl ?_
  refine gx_lv (lv' := [(0, .ref (gx_ad E 15)), (2, .int a2), (3, .int a3), (4, .int a4), (5, .int (gx_gA x 16 (a2 : Int32).toNatClampNeg)), (6, .int (gx_gA x 17 (a2 : Int32).toNatClampNeg)), (7, .int (if (gx_gA x 17 (a2 : Int32).toNatClampNeg) < a4 then (gx_gA x 17 (a2 : Int32).toNatClampNeg) else a4))]) [3, 5, 6, 7, 2, 1, 0] rfl ?_
  obtain ⟨e11, he11, hf⟩ := gx_bl_some hf
  refine (gx_loop (P := pp_Floor_isSeen_2_25 K E a2 a3 a4 (gx_gA x 16 (a2 : Int32).toNatClampNeg) (gx_gA x 17 (a2 : Int32).toNatClampNeg)) (Q := pq_Floor_isSeen_2_25 K E a2 a3 a4 (gx_gA x 16 (a2 : Int32).toNatClampNeg) (gx_gA x 17 (a2 : Int32).toNatClampNeg)) (fun a9 o9 h1 h2 => sc_Floor_isSeen_2_25 C hR hr hlk a2 a3 a4 (gx_gA x 16 (a2 : Int32).toNatClampNeg) (gx_gA x 17 (a2 : Int32).toNatClampNeg) a9 o9 h1 h2) gx_fuel (if (gx_gA x 17 (a2 : Int32).toNatClampNeg) < a4 then (gx_gA x 17 (a2 : Int32).toNatClampNeg) else a4, x) e11 he11 ?_ : pp_Floor_isSeen_2_25 K E a2 a3 a4 (gx_gA x 16 (a2 : Int32).toNatClampNeg) (gx_gA x 17 (a2 : Int32).toNatClampNeg) (if (gx_gA x 17 (a2 : Int32).toNatClampNeg) < a4 then (gx_gA x 17 (a2 : Int32).toNatClampNeg) else a4, x))
  unfold pq_Floor_isSeen_2_25
  by_cases ht12 : e11.1 = 0
  · rw [if_pos ht12]
    have hf := (if_pos ht12).symm.trans hf
    refine gx_iconst C (v := 0) d_Floor_isSeen_92 (by decide) ?_
    cases hf
    exact gx_zret C hr hlk hk (by decide) d_Floor_isSeen_93
  · rw [if_neg ht12]
    have hf := (if_neg ht12).symm.trans hf
    refine gx_iconst C (v := 1) d_Floor_isSeen_106 (by decide) ?_
    cases hf
    exact gx_zret C hr hlk hk (by decide) d_Floor_isSeen_107

def s_Arrays_fill_5 (v1 : Int32) (v3 : Int32) (a : Int32 × gx_S) : Option ((Int32 × gx_S) ⊕ (Nat × Int32 × gx_S)) :=
  if v3 ≤ a.1 then (some (.inr (0, a.1, a.2))) else (gx_ck a.1 81 (some (.inl (a.1 + 1, gx_sA a.2 12 (a.1 : Int32).toNatClampNeg v1))))
def f_Arrays_fill (a1 : Int32) (x : gx_S) : Option (Int32 × gx_S) :=
  gx_bl (gx_it (s_Arrays_fill_5 a1 81) gx_fuel (0, x)) (fun e3 => some (0, e3.2.2))
abbrev rm_Arrays_fill : Room := { frames := 0, cells := 0, slots := 0, locals := 0 }
def pp_Arrays_fill_5 (K : gx_K) (E : gx_E) (v1 : Int32) (v3 : Int32) (a : Int32 × gx_S) : Prop := gx_G K E (gx_AB true E K.s.heap.size) 0 0 (a.2) 5 [(0, .ref (gx_ad E 17)), (1, .int v1), (2, .int a.1), (3, .int v3)] []
def pq_Arrays_fill_5 (K : gx_K) (E : gx_E) (v1 : Int32) (v3 : Int32) (b : Nat × Int32 × gx_S) : Prop := gx_G K E (gx_AB true E K.s.heap.size) 0 0 (b.2.2) 20 [] []
set_option maxHeartbeats 4000000 in
set_option maxRecDepth 100000 in
theorem sc_Arrays_fill_5 {K : gx_K} {E : gx_E} (C : gx_C K E "java/util/Arrays" prog_20_method_103_code 4) (hR : K.R = rm_Arrays_fill) (hr : K.meth.sig.returnType = none) (hlk : K.meth.locks = false) (v1 : Int32) (v3 : Int32) (a : Int32 × gx_S) (o : (Int32 × gx_S) ⊕ (Nat × Int32 × gx_S)) (hf : s_Arrays_fill_5 v1 v3 a = some o) (hk : gx_or (pp_Arrays_fill_5 K E v1 v3) (pq_Arrays_fill_5 K E v1 v3) o) : pp_Arrays_fill_5 K E v1 v3 a := by
  unfold s_Arrays_fill_5 at hf
  unfold pp_Arrays_fill_5
  refine gx_iload_n C 2 d_Arrays_fill_5 rfl rfl ?_
  refine gx_iload_n C 3 d_Arrays_fill_6 rfl rfl ?_
  refine gx_icmp_ge (tgt := 20) C d_Arrays_fill_7 (by decide) (fun h1 => ?_) (fun h1 => ?_)
  · have hf := (if_pos h1).symm.trans hf
    cases hf
    have hk : pq_Arrays_fill_5 K E v1 v3 _ := hk
    unfold pq_Arrays_fill_5 at hk
    refine gx_lv (lv' := []) [] rfl ?_
    exact hk
  · have hf := (if_neg h1).symm.trans hf
    refine gx_aload_n C 0 d_Arrays_fill_10 rfl rfl ?_
    refine gx_iload_n C 2 d_Arrays_fill_11 rfl rfl ?_
    refine gx_iload_n C 1 d_Arrays_fill_12 rfl rfl ?_
    obtain ⟨hi2, hf⟩ := gx_ck_some hf
    refine gx_iast C (x' := gx_sA a.2 12 (a.1 : Int32).toNatClampNeg v1) 17 0 (gx_w17 E _) rfl hi2 (gx_q17 E _ _ _) d_Arrays_fill_13 ?_
    refine gx_iinc C (v := a.1 + 1) (lv' := [(2, .int (a.1 + 1)), (0, .ref (gx_ad E 17)), (1, .int v1), (3, .int v3)]) 2 d_Arrays_fill_14 rfl rfl (by decide) rfl ?_
    refine gx_goto (tgt := 5) C d_Arrays_fill_17 (by decide) ?_
    cases hf
    refine gx_lv (lv' := [(0, .ref (gx_ad E 17)), (1, .int v1), (2, .int (a.1 + 1)), (3, .int v3)]) [1, 2, 0, 3] rfl ?_
    exact hk
set_option maxHeartbeats 4000000 in
set_option maxRecDepth 100000 in
theorem c_Arrays_fill (l : Launch) (a1 : Int32) (x : gx_S) (o : Int32 × gx_S) (hf : f_Arrays_fill a1 x = some o) : gx_Mv true l y_Arrays_fill prog_20_method_103_code 4 rm_Arrays_fill (fun E => [.ref (gx_ad E 17), .int a1]) x o.2 := by
  refine gx_metv (own := "java/util/Arrays") (by decide) rfl (fun E => Nat.le_of_ble_eq_true rfl) (fun K E hl0 hR hr hlk hk C => ?_)
  subst hl0
  unfold f_Arrays_fill at hf
  show gx_G K E _ 0 0 x 0 [(0, .ref (gx_ad E 17)), (1, .int a1)] []
  refine gx_iconst C (v := 0) d_Arrays_fill_0 (by decide) ?_
  refine gx_istore_n C (lv' := [(2, .int 0), (0, .ref (gx_ad E 17)), (1, .int a1)]) d_Arrays_fill_1 rfl (by decide) rfl ?_
  refine gx_aload_n C 1 d_Arrays_fill_2 rfl rfl ?_
  refine gx_alen C (v := 81) 17 0 (gx_w17 E _) rfl rfl d_Arrays_fill_3 ?_
  refine gx_istore_n C (lv' := [(3, .int 81), (2, .int 0), (0, .ref (gx_ad E 17)), (1, .int a1)]) d_Arrays_fill_4 rfl (by decide) rfl ?_
  refine gx_lv (lv' := [(0, .ref (gx_ad E 17)), (1, .int a1), (2, .int 0), (3, .int 81)]) [2, 3, 1, 0] rfl ?_
  obtain ⟨e3, he3, hf⟩ := gx_bl_some hf
  refine (gx_loop (P := pp_Arrays_fill_5 K E a1 81) (Q := pq_Arrays_fill_5 K E a1 81) (fun a9 o9 h1 h2 => sc_Arrays_fill_5 C hR hr hlk a1 81 a9 o9 h1 h2) gx_fuel (0, x) e3 he3 ?_ : pp_Arrays_fill_5 K E a1 81 (0, x))
  unfold pq_Arrays_fill_5
  cases hf
  exact gx_vret C hr hlk hk d_Arrays_fill_20

def f_Floor_reach (a1 : Int32) (a2 : Int32) (a3 : Int32) (x : gx_S) : Option (Int32 × gx_S) :=
  gx_bd (f_Grid_holds a1 a2 x) (fun r1 x1 => if r1 = 0 then (some (0, x1)) else (gx_bd (f_CaseLayout_cellOf a1 a2 x1) (fun r3 x3 => gx_ck r3 81 (if (gx_gA x3 11 (r3 : Int32).toNatClampNeg) = (-1) then (gx_ck r3 81 (if (gx_gA x3 12 (r3 : Int32).toNatClampNeg) = (-1) then (if (gx_gI x3 7) < 81 then (gx_ck r3 81 (gx_ck (gx_gI (gx_sA x3 12 (r3 : Int32).toNatClampNeg a3) 7) 81 (some (0, gx_sI (gx_sA (gx_sA x3 12 (r3 : Int32).toNatClampNeg a3) 13 (gx_gI (gx_sA x3 12 (r3 : Int32).toNatClampNeg a3) 7 : Int32).toNatClampNeg r3) 7 ((gx_gI (gx_sA (gx_sA x3 12 (r3 : Int32).toNatClampNeg a3) 13 (gx_gI (gx_sA x3 12 (r3 : Int32).toNatClampNeg a3) 7 : Int32).toNatClampNeg r3) 7) + 1))))) else (some (0, x3))) else (some (0, x3)))) else (some (0, x3))))))
abbrev rm_Floor_reach : Room := { frames := 1, cells := 0, slots := 0, locals := 22 }
set_option maxHeartbeats 4000000 in
set_option maxRecDepth 100000 in
theorem c_Floor_reach (l : Launch) (a1 : Int32) (a2 : Int32) (a3 : Int32) (x : gx_S) (o : Int32 × gx_S) (hf : f_Floor_reach a1 a2 a3 x = some o) : gx_Mv true l y_Floor_reach prog_3_method_8_code 5 rm_Floor_reach (fun E => [.ref (gx_ad E 15), .int a1, .int a2, .int a3]) x o.2 := by
  refine gx_metv (own := "CaseLayout$Floor") (by decide) rfl (fun E => Nat.le_of_ble_eq_true rfl) (fun K E hl0 hR hr hlk hk C => ?_)
  subst hl0
  unfold f_Floor_reach at hf
  show gx_G K E _ 0 0 x 0 [(0, .ref (gx_ad E 15)), (1, .int a1), (2, .int a2), (3, .int a3)] []
  refine gx_aload_n C 0 d_Floor_reach_0 rfl rfl ?_
  refine gx_get C iw_Floor 15 (gx_w15 E _) rfl 0 (by decide) gw_160 rfl rfl d_Floor_reach_1 ?_
  refine gx_iload_n C 1 d_Floor_reach_4 rfl rfl ?_
  refine gx_iload_n C 2 d_Floor_reach_5 rfl rfl ?_
  obtain ⟨r1, x1, hc1, hf⟩ := gx_bd_some hf
  refine gx_cVi (n2 := 0) (k2 := 0) C (As := [.int a1, .int a2]) (rest := []) 0 2 (c_Grid_holds K.l a1 a2 x _ hc1) (Or.inl rfl) rfl (gx_goodV gw_552 gw_289 gw_290 gw_2 gw_291) (by decide +kernel) (gx_w0 E _) rfl (by rw [hR]; decide) rfl rfl (Nat.le_of_ble_eq_true rfl) d_Floor_reach_6 (by rw [hR]; decide) rfl rfl ?_
  refine gx_if_ne (tgt := 13) C d_Floor_reach_9 (by decide) (fun h2 => ?_) (fun h2 => ?_)
  · have hf := (if_neg h2).symm.trans hf
    refine gx_iload_n C 1 d_Floor_reach_13 rfl rfl ?_
    refine gx_iload_n C 2 d_Floor_reach_14 rfl rfl ?_
    obtain ⟨r3, x3, hc3, hf⟩ := gx_bd_some hf
    refine gx_cSNi (n2 := 0) (k2 := 0) C (As := [.int a1, .int a2]) (rest := []) 2 (c_CaseLayout_cellOf K.l a1 a2 x1 _ hc3) (Or.inl rfl) rfl gw_362 gn_553 gw_1 gw_361 (by decide +kernel) (by rw [hR]; decide) rfl rfl (Nat.le_of_ble_eq_true rfl) d_Floor_reach_15 (by rw [hR]; decide) rfl rfl ?_
    refine gx_istore C (lv' := [(4, .int r3), (0, .ref (gx_ad E 15)), (1, .int a1), (2, .int a2), (3, .int a3)]) d_Floor_reach_18 (by decide) rfl ?_
    refine gx_aload_n C 1 d_Floor_reach_20 rfl rfl ?_
    refine gx_get C iw_Floor 15 (gx_w15 E _) rfl 1 (by decide) gw_161 rfl rfl d_Floor_reach_21 ?_
    refine gx_iload C 0 d_Floor_reach_24 rfl ?_
    obtain ⟨hi4, hf⟩ := gx_ck_some hf
    refine gx_iald C 16 0 (gx_w16 E _) rfl hi4 d_Floor_reach_26 ?_
    refine gx_iconst C (v := (-1)) d_Floor_reach_27 (by decide) ?_
    refine gx_icmp_ne (tgt := 51) C d_Floor_reach_28 (by decide) (fun h5 => ?_) (fun h5 => ?_)
    · have hf := (if_neg h5).symm.trans hf
      cases hf
      exact gx_vret C hr hlk hk d_Floor_reach_51
    · have hf := (if_pos h5).symm.trans hf
      refine gx_aload_n C 1 d_Floor_reach_31 rfl rfl ?_
      refine gx_get C iw_Floor 15 (gx_w15 E _) rfl 2 (by decide) gw_162 rfl rfl d_Floor_reach_32 ?_
      refine gx_iload C 0 d_Floor_reach_35 rfl ?_
      obtain ⟨hi6, hf⟩ := gx_ck_some hf
      refine gx_iald C 17 0 (gx_w17 E _) rfl hi6 d_Floor_reach_37 ?_
      refine gx_iconst C (v := (-1)) d_Floor_reach_38 (by decide) ?_
      refine gx_icmp_ne (tgt := 51) C d_Floor_reach_39 (by decide) (fun h7 => ?_) (fun h7 => ?_)
      · have hf := (if_neg h7).symm.trans hf
        cases hf
        exact gx_vret C hr hlk hk d_Floor_reach_51
      · have hf := (if_pos h7).symm.trans hf
        refine gx_aload_n C 1 d_Floor_reach_42 rfl rfl ?_
        refine gx_get C iw_Floor 15 (gx_w15 E _) rfl 4 (by decide) gw_165 rfl rfl d_Floor_reach_43 ?_
        refine gx_bipush C (v := 81) d_Floor_reach_46 (by decide) ?_
        refine gx_icmp_lt (tgt := 52) C d_Floor_reach_48 (by decide) (fun h8 => ?_) (fun h8 => ?_)
        · have hf := (if_pos h8).symm.trans hf
          refine gx_aload_n C 1 d_Floor_reach_52 rfl rfl ?_
          refine gx_get C iw_Floor 15 (gx_w15 E _) rfl 2 (by decide) gw_162 rfl rfl d_Floor_reach_53 ?_
          refine gx_iload C 0 d_Floor_reach_56 rfl ?_
          refine gx_iload_n C 4 d_Floor_reach_58 rfl rfl ?_
          obtain ⟨hi9, hf⟩ := gx_ck_some hf
          refine gx_iast C (x' := gx_sA x3 12 (r3 : Int32).toNatClampNeg a3) 17 0 (gx_w17 E _) rfl hi9 (gx_q17 E _ _ _) d_Floor_reach_59 ?_
          refine gx_aload_n C 1 d_Floor_reach_60 rfl rfl ?_
          refine gx_get C iw_Floor 15 (gx_w15 E _) rfl 3 (by decide) gw_164 rfl rfl d_Floor_reach_61 ?_
          refine gx_aload_n C 1 d_Floor_reach_64 rfl rfl ?_
          refine gx_get C iw_Floor 15 (gx_w15 E _) rfl 4 (by decide) gw_165 rfl rfl d_Floor_reach_65 ?_
          refine gx_iload C 0 d_Floor_reach_68 rfl ?_
          obtain ⟨hi10, hf⟩ := gx_ck_some hf
          refine gx_iast C (x' := gx_sA (gx_sA x3 12 (r3 : Int32).toNatClampNeg a3) 13 (gx_gI (gx_sA x3 12 (r3 : Int32).toNatClampNeg a3) 7 : Int32).toNatClampNeg r3) 18 0 (gx_w18 E _) rfl hi10 (gx_q18 E _ _ _) d_Floor_reach_70 ?_
          refine gx_aload_n C 1 d_Floor_reach_71 rfl rfl ?_
          refine gx_dup C d_Floor_reach_72 rfl ?_
          refine gx_get C iw_Floor 15 (gx_w15 E _) rfl 4 (by decide) gw_165 rfl rfl d_Floor_reach_73 ?_
          refine gx_iconst C (v := 1) d_Floor_reach_76 (by decide) ?_
          refine gx_iadd C d_Floor_reach_77 ?_
          refine gx_put C (ty := .int) (x' := gx_sI (gx_sA (gx_sA x3 12 (r3 : Int32).toNatClampNeg a3) 13 (gx_gI (gx_sA x3 12 (r3 : Int32).toNatClampNeg a3) 7 : Int32).toNatClampNeg r3) 7 ((gx_gI (gx_sA (gx_sA x3 12 (r3 : Int32).toNatClampNeg a3) 13 (gx_gI (gx_sA x3 12 (r3 : Int32).toNatClampNeg a3) 7 : Int32).toNatClampNeg r3) 7) + 1)) iw_Floor ty_Floor tk_Floor tn_Floor 15 (gx_w15 E _) rfl 4 (by decide) gw_165 rfl rfl (by decide +kernel) rfl rfl (Nat.le_of_ble_eq_true rfl) (gx_p15_4 E _ _) d_Floor_reach_78 ?_
          cases hf
          exact gx_vret C hr hlk hk d_Floor_reach_81
        · have hf := (if_neg h8).symm.trans hf
          cases hf
          exact gx_vret C hr hlk hk d_Floor_reach_51
  · have hf := (if_pos h2).symm.trans hf
    cases hf
    exact gx_vret C hr hlk hk d_Floor_reach_12

def s_Floor_measure_15  (a : Int32 × gx_S) : Option ((Int32 × gx_S) ⊕ (Nat × Int32 × gx_S)) :=
  if (gx_gI a.2 5) ≤ a.1 then (some (.inr (0, a.1, a.2))) else (gx_ck a.1 6 (gx_bd (f_Floor_reach ((gx_gA a.2 10 (a.1 : Int32).toNatClampNeg) - (gx_gA a.2 10 (a.1 : Int32).toNatClampNeg) / 9 * 9) ((gx_gA a.2 10 (a.1 : Int32).toNatClampNeg) / 9) 0 a.2) (fun r4 x4 => some (.inl (a.1 + 1, x4)))))
def s_Floor_measure_51  (a : Int32 × gx_S) : Option ((Int32 × gx_S) ⊕ (Nat × Int32 × gx_S)) :=
  if (gx_gI a.2 7) ≤ a.1 then (some (.inr (0, a.1, a.2))) else (if 81 ≤ a.1 then (some (.inr (0, a.1, a.2))) else (gx_ck a.1 81 (gx_ck a.1 81 (gx_ck a.1 81 (gx_ck (gx_gA a.2 13 (a.1 : Int32).toNatClampNeg) 81 (gx_bd (f_Floor_reach (((gx_gA a.2 13 (a.1 : Int32).toNatClampNeg) - (gx_gA a.2 13 (a.1 : Int32).toNatClampNeg) / 9 * 9) - 1) ((gx_gA a.2 13 (a.1 : Int32).toNatClampNeg) / 9) ((gx_gA a.2 12 (gx_gA a.2 13 (a.1 : Int32).toNatClampNeg : Int32).toNatClampNeg) + 1) a.2) (fun r12 x12 => gx_bd (f_Floor_reach (((gx_gA a.2 13 (a.1 : Int32).toNatClampNeg) - (gx_gA a.2 13 (a.1 : Int32).toNatClampNeg) / 9 * 9) + 1) ((gx_gA a.2 13 (a.1 : Int32).toNatClampNeg) / 9) ((gx_gA a.2 12 (gx_gA a.2 13 (a.1 : Int32).toNatClampNeg : Int32).toNatClampNeg) + 1) x12) (fun r13 x13 => gx_bd (f_Floor_reach ((gx_gA a.2 13 (a.1 : Int32).toNatClampNeg) - (gx_gA a.2 13 (a.1 : Int32).toNatClampNeg) / 9 * 9) (((gx_gA a.2 13 (a.1 : Int32).toNatClampNeg) / 9) - 1) ((gx_gA a.2 12 (gx_gA a.2 13 (a.1 : Int32).toNatClampNeg : Int32).toNatClampNeg) + 1) x13) (fun r14 x14 => gx_bd (f_Floor_reach ((gx_gA a.2 13 (a.1 : Int32).toNatClampNeg) - (gx_gA a.2 13 (a.1 : Int32).toNatClampNeg) / 9 * 9) (((gx_gA a.2 13 (a.1 : Int32).toNatClampNeg) / 9) + 1) ((gx_gA a.2 12 (gx_gA a.2 13 (a.1 : Int32).toNatClampNeg : Int32).toNatClampNeg) + 1) x14) (fun r15 x15 => some (.inl (a.1 + 1, x15))))))))))))
def f_Floor_measure  (x : gx_S) : Option (Int32 × gx_S) :=
  gx_bd (f_Arrays_fill (-1) x) (fun r1 x1 => gx_bl (gx_it (s_Floor_measure_15 ) gx_fuel (0, gx_sI x1 7 0)) (fun e5 => gx_bl (gx_it (s_Floor_measure_51 ) gx_fuel (0, e5.2.2)) (fun e16 => some (0, e16.2.2))))
abbrev rm_Floor_measure : Room := { frames := 2, cells := 0, slots := 0, locals := 46 }
def pp_Floor_measure_15 (K : gx_K) (E : gx_E)  (a : Int32 × gx_S) : Prop := gx_G K E (gx_AB true E K.s.heap.size) 0 0 (a.2) 15 [(0, .ref (gx_ad E 15)), (1, .ref (gx_ad E 13)), (2, .int a.1)] []
def pq_Floor_measure_15 (K : gx_K) (E : gx_E)  (b : Nat × Int32 × gx_S) : Prop := gx_G K E (gx_AB true E K.s.heap.size) 0 0 (b.2.2) 49 [(0, .ref (gx_ad E 15))] []
def pp_Floor_measure_51 (K : gx_K) (E : gx_E)  (a : Int32 × gx_S) : Prop := gx_G K E (gx_AB true E K.s.heap.size) 0 0 (a.2) 51 [(0, .ref (gx_ad E 15)), (2, .int a.1)] []
def pq_Floor_measure_51 (K : gx_K) (E : gx_E)  (b : Nat × Int32 × gx_S) : Prop := gx_G K E (gx_AB true E K.s.heap.size) 0 0 (b.2.2) 151 [] []
set_option maxHeartbeats 4000000 in
set_option maxRecDepth 100000 in
theorem sc_Floor_measure_15 {K : gx_K} {E : gx_E} (C : gx_C K E "CaseLayout$Floor" prog_3_method_7_code 6) (hR : K.R = rm_Floor_measure) (hr : K.meth.sig.returnType = none) (hlk : K.meth.locks = false)  (a : Int32 × gx_S) (o : (Int32 × gx_S) ⊕ (Nat × Int32 × gx_S)) (hf : s_Floor_measure_15  a = some o) (hk : gx_or (pp_Floor_measure_15 K E ) (pq_Floor_measure_15 K E ) o) : pp_Floor_measure_15 K E  a := by
  unfold s_Floor_measure_15 at hf
  unfold pp_Floor_measure_15
  refine gx_iload_n C 2 d_Floor_measure_15 rfl rfl ?_
  refine gx_aload_n C 1 d_Floor_measure_16 rfl rfl ?_
  refine gx_getN C iw_Exits 13 (gx_w13 E _) rfl 1 (by decide) gn_141 rfl rfl d_Floor_measure_17 ?_
  refine gx_icmp_ge (tgt := 49) C d_Floor_measure_20 (by decide) (fun h2 => ?_) (fun h2 => ?_)
  · have hf := (if_pos h2).symm.trans hf
    cases hf
    have hk : pq_Floor_measure_15 K E  _ := hk
    unfold pq_Floor_measure_15 at hk
    refine gx_lv (lv' := [(0, .ref (gx_ad E 15))]) [0] rfl ?_
    exact hk
  · have hf := (if_neg h2).symm.trans hf
    refine gx_aload_n C 1 d_Floor_measure_23 rfl rfl ?_
    refine gx_getN C iw_Exits 13 (gx_w13 E _) rfl 0 (by decide) gn_139 rfl rfl d_Floor_measure_24 ?_
    refine gx_iload_n C 2 d_Floor_measure_27 rfl rfl ?_
    obtain ⟨hi3, hf⟩ := gx_ck_some hf
    refine gx_iald C 14 0 (gx_w14 E _) rfl hi3 d_Floor_measure_28 ?_
    refine gx_istore_n C (lv' := [(3, .int (gx_gA a.2 10 (a.1 : Int32).toNatClampNeg)), (0, .ref (gx_ad E 15)), (1, .ref (gx_ad E 13)), (2, .int a.1)]) d_Floor_measure_29 rfl (by decide) rfl ?_
    refine gx_aload_n C 1 d_Floor_measure_30 rfl rfl ?_
    refine gx_iload_n C 0 d_Floor_measure_31 rfl rfl ?_
    refine gx_bipush C (v := 9) d_Floor_measure_32 (by decide) ?_
    refine gx_irem C d_Floor_measure_34 (by decide) ?_
    refine gx_iload_n C 0 d_Floor_measure_35 rfl rfl ?_
    refine gx_bipush C (v := 9) d_Floor_measure_36 (by decide) ?_
    refine gx_idiv C d_Floor_measure_38 (by decide) ?_
    refine gx_iconst C (v := 0) d_Floor_measure_39 (by decide) ?_
    obtain ⟨r4, x4, hc4, hf⟩ := gx_bd_some hf
    refine gx_cVv (n2 := 0) (k2 := 0) C (As := [.int ((gx_gA a.2 10 (a.1 : Int32).toNatClampNeg) - (gx_gA a.2 10 (a.1 : Int32).toNatClampNeg) / 9 * 9), .int ((gx_gA a.2 10 (a.1 : Int32).toNatClampNeg) / 9), .int 0]) (rest := []) 15 3 (c_Floor_reach K.l ((gx_gA a.2 10 (a.1 : Int32).toNatClampNeg) - (gx_gA a.2 10 (a.1 : Int32).toNatClampNeg) / 9 * 9) ((gx_gA a.2 10 (a.1 : Int32).toNatClampNeg) / 9) 0 a.2 _ hc4) (Or.inl rfl) rfl (gx_goodV gw_586 gw_588 gs_11 gw_7 gw_589) (by decide +kernel) (gx_w15 E _) rfl (by rw [hR]; decide) rfl rfl (Nat.le_of_ble_eq_true rfl) d_Floor_measure_40 (by rw [hR]; decide) rfl rfl ?_
    refine gx_iinc C (v := a.1 + 1) (lv' := [(2, .int (a.1 + 1)), (3, .int (gx_gA a.2 10 (a.1 : Int32).toNatClampNeg)), (0, .ref (gx_ad E 15)), (1, .ref (gx_ad E 13))]) 3 d_Floor_measure_43 rfl rfl (by decide) rfl ?_
    refine gx_goto (tgt := 15) C d_Floor_measure_46 (by decide) ?_
    cases hf
    refine gx_lv (lv' := [(0, .ref (gx_ad E 15)), (1, .ref (gx_ad E 13)), (2, .int (a.1 + 1))]) [2, 3, 0] rfl ?_
    exact hk
set_option maxHeartbeats 4000000 in
set_option maxRecDepth 100000 in
theorem sc_Floor_measure_51 {K : gx_K} {E : gx_E} (C : gx_C K E "CaseLayout$Floor" prog_3_method_7_code 6) (hR : K.R = rm_Floor_measure) (hr : K.meth.sig.returnType = none) (hlk : K.meth.locks = false)  (a : Int32 × gx_S) (o : (Int32 × gx_S) ⊕ (Nat × Int32 × gx_S)) (hf : s_Floor_measure_51  a = some o) (hk : gx_or (pp_Floor_measure_51 K E ) (pq_Floor_measure_51 K E ) o) : pp_Floor_measure_51 K E  a := by
  unfold s_Floor_measure_51 at hf
  unfold pp_Floor_measure_51
  refine gx_iload_n C 1 d_Floor_measure_51 rfl rfl ?_
  refine gx_aload_n C 0 d_Floor_measure_52 rfl rfl ?_
  refine gx_get C iw_Floor 15 (gx_w15 E _) rfl 4 (by decide) gw_165 rfl rfl d_Floor_measure_53 ?_
  refine gx_icmp_ge (tgt := 151) C d_Floor_measure_56 (by decide) (fun h6 => ?_) (fun h6 => ?_)
  · have hf := (if_pos h6).symm.trans hf
    cases hf
    have hk : pq_Floor_measure_51 K E  _ := hk
    unfold pq_Floor_measure_51 at hk
    refine gx_lv (lv' := []) [] rfl ?_
    exact hk
  · have hf := (if_neg h6).symm.trans hf
    refine gx_iload_n C 1 d_Floor_measure_59 rfl rfl ?_
    refine gx_bipush C (v := 81) d_Floor_measure_60 (by decide) ?_
    refine gx_icmp_ge (tgt := 151) C d_Floor_measure_62 (by decide) (fun h7 => ?_) (fun h7 => ?_)
    · have hf := (if_pos h7).symm.trans hf
      cases hf
      have hk : pq_Floor_measure_51 K E  _ := hk
      unfold pq_Floor_measure_51 at hk
      refine gx_lv (lv' := []) [] rfl ?_
      exact hk
    · have hf := (if_neg h7).symm.trans hf
      refine gx_aload_n C 0 d_Floor_measure_65 rfl rfl ?_
      refine gx_get C iw_Floor 15 (gx_w15 E _) rfl 3 (by decide) gw_164 rfl rfl d_Floor_measure_66 ?_
      refine gx_iload_n C 1 d_Floor_measure_69 rfl rfl ?_
      obtain ⟨hi8, hf⟩ := gx_ck_some hf
      refine gx_iald C 18 0 (gx_w18 E _) rfl hi8 d_Floor_measure_70 ?_
      refine gx_bipush C (v := 9) d_Floor_measure_71 (by decide) ?_
      refine gx_irem C d_Floor_measure_73 (by decide) ?_
      refine gx_istore_n C (lv' := [(3, .int ((gx_gA a.2 13 (a.1 : Int32).toNatClampNeg) - (gx_gA a.2 13 (a.1 : Int32).toNatClampNeg) / 9 * 9)), (0, .ref (gx_ad E 15)), (2, .int a.1)]) d_Floor_measure_74 rfl (by decide) rfl ?_
      refine gx_aload_n C 1 d_Floor_measure_75 rfl rfl ?_
      refine gx_get C iw_Floor 15 (gx_w15 E _) rfl 3 (by decide) gw_164 rfl rfl d_Floor_measure_76 ?_
      refine gx_iload_n C 2 d_Floor_measure_79 rfl rfl ?_
      obtain ⟨hi9, hf⟩ := gx_ck_some hf
      refine gx_iald C 18 0 (gx_w18 E _) rfl hi9 d_Floor_measure_80 ?_
      refine gx_bipush C (v := 9) d_Floor_measure_81 (by decide) ?_
      refine gx_idiv C d_Floor_measure_83 (by decide) ?_
      refine gx_istore C (lv' := [(4, .int ((gx_gA a.2 13 (a.1 : Int32).toNatClampNeg) / 9)), (3, .int ((gx_gA a.2 13 (a.1 : Int32).toNatClampNeg) - (gx_gA a.2 13 (a.1 : Int32).toNatClampNeg) / 9 * 9)), (0, .ref (gx_ad E 15)), (2, .int a.1)]) d_Floor_measure_84 (by decide) rfl ?_
      refine gx_aload_n C 2 d_Floor_measure_86 rfl rfl ?_
      refine gx_get C iw_Floor 15 (gx_w15 E _) rfl 2 (by decide) gw_162 rfl rfl d_Floor_measure_87 ?_
      refine gx_aload_n C 2 d_Floor_measure_90 rfl rfl ?_
      refine gx_get C iw_Floor 15 (gx_w15 E _) rfl 3 (by decide) gw_164 rfl rfl d_Floor_measure_91 ?_
      refine gx_iload_n C 3 d_Floor_measure_94 rfl rfl ?_
      obtain ⟨hi10, hf⟩ := gx_ck_some hf
      refine gx_iald C 18 0 (gx_w18 E _) rfl hi10 d_Floor_measure_95 ?_
      obtain ⟨hi11, hf⟩ := gx_ck_some hf
      refine gx_iald C 17 0 (gx_w17 E _) rfl hi11 d_Floor_measure_96 ?_
      refine gx_iconst C (v := 1) d_Floor_measure_97 (by decide) ?_
      refine gx_iadd C d_Floor_measure_98 ?_
      refine gx_istore C (lv' := [(5, .int ((gx_gA a.2 12 (gx_gA a.2 13 (a.1 : Int32).toNatClampNeg : Int32).toNatClampNeg) + 1)), (4, .int ((gx_gA a.2 13 (a.1 : Int32).toNatClampNeg) / 9)), (3, .int ((gx_gA a.2 13 (a.1 : Int32).toNatClampNeg) - (gx_gA a.2 13 (a.1 : Int32).toNatClampNeg) / 9 * 9)), (0, .ref (gx_ad E 15)), (2, .int a.1)]) d_Floor_measure_99 (by decide) rfl ?_
      refine gx_aload_n C 3 d_Floor_measure_101 rfl rfl ?_
      refine gx_iload_n C 2 d_Floor_measure_102 rfl rfl ?_
      refine gx_iconst C (v := 1) d_Floor_measure_103 (by decide) ?_
      refine gx_isub C d_Floor_measure_104 ?_
      refine gx_iload C 1 d_Floor_measure_105 rfl ?_
      refine gx_iload C 0 d_Floor_measure_107 rfl ?_
      obtain ⟨r12, x12, hc12, hf⟩ := gx_bd_some hf
      refine gx_cVv (n2 := 0) (k2 := 0) C (As := [.int (((gx_gA a.2 13 (a.1 : Int32).toNatClampNeg) - (gx_gA a.2 13 (a.1 : Int32).toNatClampNeg) / 9 * 9) - 1), .int ((gx_gA a.2 13 (a.1 : Int32).toNatClampNeg) / 9), .int ((gx_gA a.2 12 (gx_gA a.2 13 (a.1 : Int32).toNatClampNeg : Int32).toNatClampNeg) + 1)]) (rest := []) 15 3 (c_Floor_reach K.l (((gx_gA a.2 13 (a.1 : Int32).toNatClampNeg) - (gx_gA a.2 13 (a.1 : Int32).toNatClampNeg) / 9 * 9) - 1) ((gx_gA a.2 13 (a.1 : Int32).toNatClampNeg) / 9) ((gx_gA a.2 12 (gx_gA a.2 13 (a.1 : Int32).toNatClampNeg : Int32).toNatClampNeg) + 1) a.2 _ hc12) (Or.inl rfl) rfl (gx_goodV gw_586 gw_588 gs_11 gw_7 gw_589) (by decide +kernel) (gx_w15 E _) rfl (by rw [hR]; decide) rfl rfl (Nat.le_of_ble_eq_true rfl) d_Floor_measure_109 (by rw [hR]; decide) rfl rfl ?_
      refine gx_aload_n C 3 d_Floor_measure_112 rfl rfl ?_
      refine gx_iload_n C 2 d_Floor_measure_113 rfl rfl ?_
      refine gx_iconst C (v := 1) d_Floor_measure_114 (by decide) ?_
      refine gx_iadd C d_Floor_measure_115 ?_
      refine gx_iload C 1 d_Floor_measure_116 rfl ?_
      refine gx_iload C 0 d_Floor_measure_118 rfl ?_
      obtain ⟨r13, x13, hc13, hf⟩ := gx_bd_some hf
      refine gx_cVv (n2 := 0) (k2 := 0) C (As := [.int (((gx_gA a.2 13 (a.1 : Int32).toNatClampNeg) - (gx_gA a.2 13 (a.1 : Int32).toNatClampNeg) / 9 * 9) + 1), .int ((gx_gA a.2 13 (a.1 : Int32).toNatClampNeg) / 9), .int ((gx_gA a.2 12 (gx_gA a.2 13 (a.1 : Int32).toNatClampNeg : Int32).toNatClampNeg) + 1)]) (rest := []) 15 3 (c_Floor_reach K.l (((gx_gA a.2 13 (a.1 : Int32).toNatClampNeg) - (gx_gA a.2 13 (a.1 : Int32).toNatClampNeg) / 9 * 9) + 1) ((gx_gA a.2 13 (a.1 : Int32).toNatClampNeg) / 9) ((gx_gA a.2 12 (gx_gA a.2 13 (a.1 : Int32).toNatClampNeg : Int32).toNatClampNeg) + 1) x12 _ hc13) (Or.inl rfl) rfl (gx_goodV gw_586 gw_588 gs_11 gw_7 gw_589) (by decide +kernel) (gx_w15 E _) rfl (by rw [hR]; decide) rfl rfl (Nat.le_of_ble_eq_true rfl) d_Floor_measure_120 (by rw [hR]; decide) rfl rfl ?_
      refine gx_aload_n C 3 d_Floor_measure_123 rfl rfl ?_
      refine gx_iload_n C 2 d_Floor_measure_124 rfl rfl ?_
      refine gx_iload C 1 d_Floor_measure_125 rfl ?_
      refine gx_iconst C (v := 1) d_Floor_measure_127 (by decide) ?_
      refine gx_isub C d_Floor_measure_128 ?_
      refine gx_iload C 0 d_Floor_measure_129 rfl ?_
      obtain ⟨r14, x14, hc14, hf⟩ := gx_bd_some hf
      refine gx_cVv (n2 := 0) (k2 := 0) C (As := [.int ((gx_gA a.2 13 (a.1 : Int32).toNatClampNeg) - (gx_gA a.2 13 (a.1 : Int32).toNatClampNeg) / 9 * 9), .int (((gx_gA a.2 13 (a.1 : Int32).toNatClampNeg) / 9) - 1), .int ((gx_gA a.2 12 (gx_gA a.2 13 (a.1 : Int32).toNatClampNeg : Int32).toNatClampNeg) + 1)]) (rest := []) 15 3 (c_Floor_reach K.l ((gx_gA a.2 13 (a.1 : Int32).toNatClampNeg) - (gx_gA a.2 13 (a.1 : Int32).toNatClampNeg) / 9 * 9) (((gx_gA a.2 13 (a.1 : Int32).toNatClampNeg) / 9) - 1) ((gx_gA a.2 12 (gx_gA a.2 13 (a.1 : Int32).toNatClampNeg : Int32).toNatClampNeg) + 1) x13 _ hc14) (Or.inl rfl) rfl (gx_goodV gw_586 gw_588 gs_11 gw_7 gw_589) (by decide +kernel) (gx_w15 E _) rfl (by rw [hR]; decide) rfl rfl (Nat.le_of_ble_eq_true rfl) d_Floor_measure_131 (by rw [hR]; decide) rfl rfl ?_
      refine gx_aload_n C 3 d_Floor_measure_134 rfl rfl ?_
      refine gx_iload_n C 2 d_Floor_measure_135 rfl rfl ?_
      refine gx_iload C 1 d_Floor_measure_136 rfl ?_
      refine gx_iconst C (v := 1) d_Floor_measure_138 (by decide) ?_
      refine gx_iadd C d_Floor_measure_139 ?_
      refine gx_iload C 0 d_Floor_measure_140 rfl ?_
      obtain ⟨r15, x15, hc15, hf⟩ := gx_bd_some hf
      refine gx_cVv (n2 := 0) (k2 := 0) C (As := [.int ((gx_gA a.2 13 (a.1 : Int32).toNatClampNeg) - (gx_gA a.2 13 (a.1 : Int32).toNatClampNeg) / 9 * 9), .int (((gx_gA a.2 13 (a.1 : Int32).toNatClampNeg) / 9) + 1), .int ((gx_gA a.2 12 (gx_gA a.2 13 (a.1 : Int32).toNatClampNeg : Int32).toNatClampNeg) + 1)]) (rest := []) 15 3 (c_Floor_reach K.l ((gx_gA a.2 13 (a.1 : Int32).toNatClampNeg) - (gx_gA a.2 13 (a.1 : Int32).toNatClampNeg) / 9 * 9) (((gx_gA a.2 13 (a.1 : Int32).toNatClampNeg) / 9) + 1) ((gx_gA a.2 12 (gx_gA a.2 13 (a.1 : Int32).toNatClampNeg : Int32).toNatClampNeg) + 1) x14 _ hc15) (Or.inl rfl) rfl (gx_goodV gw_586 gw_588 gs_11 gw_7 gw_589) (by decide +kernel) (gx_w15 E _) rfl (by rw [hR]; decide) rfl rfl (Nat.le_of_ble_eq_true rfl) d_Floor_measure_142 (by rw [hR]; decide) rfl rfl ?_
      refine gx_iinc C (v := a.1 + 1) (lv' := [(2, .int (a.1 + 1)), (5, .int ((gx_gA a.2 12 (gx_gA a.2 13 (a.1 : Int32).toNatClampNeg : Int32).toNatClampNeg) + 1)), (4, .int ((gx_gA a.2 13 (a.1 : Int32).toNatClampNeg) / 9)), (3, .int ((gx_gA a.2 13 (a.1 : Int32).toNatClampNeg) - (gx_gA a.2 13 (a.1 : Int32).toNatClampNeg) / 9 * 9)), (0, .ref (gx_ad E 15))]) 4 d_Floor_measure_145 rfl rfl (by decide) rfl ?_
      refine gx_goto (tgt := 51) C d_Floor_measure_148 (by decide) ?_
      cases hf
      refine gx_lv (lv' := [(0, .ref (gx_ad E 15)), (2, .int (a.1 + 1))]) [4, 0] rfl ?_
      exact hk
set_option maxHeartbeats 4000000 in
set_option maxRecDepth 100000 in
theorem c_Floor_measure (l : Launch)  (x : gx_S) (o : Int32 × gx_S) (hf : f_Floor_measure  x = some o) : gx_Mv true l y_Floor_measure prog_3_method_7_code 6 rm_Floor_measure (fun E => [.ref (gx_ad E 15), .ref (gx_ad E 13)]) x o.2 := by
  refine gx_metv (own := "CaseLayout$Floor") (by decide) rfl (fun E => Nat.le_of_ble_eq_true rfl) (fun K E hl0 hR hr hlk hk C => ?_)
  subst hl0
  unfold f_Floor_measure at hf
  show gx_G K E _ 0 0 x 0 [(0, .ref (gx_ad E 15)), (1, .ref (gx_ad E 13))] []
  refine gx_aload_n C 0 d_Floor_measure_0 rfl rfl ?_
  refine gx_get C iw_Floor 15 (gx_w15 E _) rfl 2 (by decide) gw_162 rfl rfl d_Floor_measure_1 ?_
  refine gx_iconst C (v := (-1)) d_Floor_measure_4 (by decide) ?_
  obtain ⟨r1, x1, hc1, hf⟩ := gx_bd_some hf
  refine gx_cSv (n2 := 0) (k2 := 0) C (As := [.ref (gx_ad E 17), .int (-1)]) (rest := []) 2 (c_Arrays_fill K.l (-1) x _ hc1) (Or.inl rfl) rfl (gx_goodS gw_583 gw_584 gw_17 gw_585) (by decide +kernel) (by rw [hR]; decide) rfl rfl (Nat.le_of_ble_eq_true rfl) d_Floor_measure_5 (by rw [hR]; decide) rfl rfl ?_
  refine gx_aload_n C 0 d_Floor_measure_8 rfl rfl ?_
  refine gx_iconst C (v := 0) d_Floor_measure_9 (by decide) ?_
  refine gx_put C (ty := .int) (x' := gx_sI x1 7 0) iw_Floor ty_Floor tk_Floor tn_Floor 15 (gx_w15 E _) rfl 4 (by decide) gw_165 rfl rfl (by decide +kernel) rfl rfl (Nat.le_of_ble_eq_true rfl) (gx_p15_4 E _ _) d_Floor_measure_10 ?_
  refine gx_iconst C (v := 0) d_Floor_measure_13 (by decide) ?_
  refine gx_istore_n C (lv' := [(2, .int 0), (0, .ref (gx_ad E 15)), (1, .ref (gx_ad E 13))]) d_Floor_measure_14 rfl (by decide) rfl ?_
  refine gx_lv (lv' := [(0, .ref (gx_ad E 15)), (1, .ref (gx_ad E 13)), (2, .int 0)]) [1, 2, 0] rfl ?_
  obtain ⟨e5, he5, hf⟩ := gx_bl_some hf
  refine (gx_loop (P := pp_Floor_measure_15 K E ) (Q := pq_Floor_measure_15 K E ) (fun a9 o9 h1 h2 => sc_Floor_measure_15 C hR hr hlk  a9 o9 h1 h2) gx_fuel (0, gx_sI x1 7 0) e5 he5 ?_ : pp_Floor_measure_15 K E  (0, gx_sI x1 7 0))
  unfold pq_Floor_measure_15
  refine gx_iconst C (v := 0) d_Floor_measure_49 (by decide) ?_
  refine gx_istore_n C (lv' := [(2, .int 0), (0, .ref (gx_ad E 15))]) d_Floor_measure_50 rfl (by decide) rfl ?_
  refine gx_lv (lv' := [(0, .ref (gx_ad E 15)), (2, .int 0)]) [1, 0] rfl ?_
  obtain ⟨e16, he16, hf⟩ := gx_bl_some hf
  refine (gx_loop (P := pp_Floor_measure_51 K E ) (Q := pq_Floor_measure_51 K E ) (fun a9 o9 h1 h2 => sc_Floor_measure_51 C hR hr hlk  a9 o9 h1 h2) gx_fuel (0, e5.2.2) e16 he16 ?_ : pp_Floor_measure_51 K E  (0, e5.2.2))
  unfold pq_Floor_measure_51
  cases hf
  exact gx_vret C hr hlk hk d_Floor_measure_151
