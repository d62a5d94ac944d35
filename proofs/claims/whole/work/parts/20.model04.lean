def s_CaseLayoutModel_isSeen_108 (v2 : Int32) (v3 : Int32) (v4 : Int32) (v5 : Int32) (v6 : Int32) (v7 : Int32) (v8 : Int32) (v9 : Int32) (v10 : Int32) (a : Int32 × Int32 × gx_S) : Option ((Int32 × Int32 × gx_S) ⊕ (Nat × Int32 × Int32 × gx_S)) :=
  if (gx_gI a.2.2 14) ≤ a.2.1 then (some (.inr (0, a.1, a.2.1, a.2.2))) else (if a.1 = 0 then (if a.2.1 = v2 then (some (.inl (0, a.2.1 + 1, a.2.2))) else (gx_bd (f_CaseLayoutModel_covers a.2.1 v9 v10 a.2.2) (fun r13 x13 => if r13 = 0 then (some (.inl (0, a.2.1 + 1, x13))) else (some (.inl (1, a.2.1 + 1, x13)))))) else (some (.inl (1, a.2.1 + 1, a.2.2))))
def s_CaseLayoutModel_isSeen_53 (v2 : Int32) (v3 : Int32) (v4 : Int32) (v5 : Int32) (v6 : Int32) (a : Int32 × Int32 × gx_S) : Option ((Int32 × Int32 × gx_S) ⊕ (Nat × Int32 × Int32 × gx_S)) :=
  if ((gx_gI a.2.2 12) * (gx_gI a.2.2 13)) ≤ a.2.1 then (some (.inr (0, a.1, a.2.1, a.2.2))) else (if a.1 = 0 then (some (.inr (0, a.1, a.2.1, a.2.2))) else (gx_nz (gx_gI a.2.2 12) (gx_nz (gx_gI a.2.2 12) (gx_ck ((9 * (a.2.1 / (gx_gI a.2.2 12))) + (a.2.1 - a.2.1 / (gx_gI a.2.2 12) * (gx_gI a.2.2 12))) 81 (gx_bl (gx_it (s_CaseLayoutModel_isSeen_108 v2 v3 v4 v5 v6 a.1 a.2.1 (a.2.1 - a.2.1 / (gx_gI a.2.2 12) * (gx_gI a.2.2 12)) (a.2.1 / (gx_gI a.2.2 12))) gx_fuel (gx_gA a.2.2 20 ((9 * (a.2.1 / (gx_gI a.2.2 12))) + (a.2.1 - a.2.1 / (gx_gI a.2.2 12) * (gx_gI a.2.2 12)) : Int32).toNatClampNeg, 0, a.2.2)) (fun e15 => if e15.2.1 = 0 then (some (.inl (1, a.2.1 + 1, e15.2.2.2))) else (gx_bd (f_CaseLayoutModel_goesThrough v3 v4 v5 v6 (a.2.1 - a.2.1 / (gx_gI a.2.2 12) * (gx_gI a.2.2 12)) (a.2.1 / (gx_gI a.2.2 12)) e15.2.2.2) (fun r17 x17 => if r17 = 0 then (some (.inl (1, a.2.1 + 1, x17))) else (some (.inl (0, a.2.1 + 1, x17)))))))))))
def f_CaseLayoutModel_isSeen (a1 : Int32) (a2 : Int32) (x : gx_S) : Option (Int32 × gx_S) :=
  gx_ck a1 8 (gx_ck a1 8 (gx_ck a2 7 (gx_ck a2 7 (gx_bl (gx_it (s_CaseLayoutModel_isSeen_53 a2 ((2 * (gx_gA x 27 (a1 : Int32).toNatClampNeg)) + 1) ((2 * (gx_gA x 28 (a1 : Int32).toNatClampNeg)) + 1) ((2 * (gx_gA x 32 (a2 : Int32).toNatClampNeg)) + 1) ((2 * (gx_gA x 33 (a2 : Int32).toNatClampNeg)) + 1)) gx_fuel (1, 0, x)) (fun e19 => gx_nb e19.2.1 (some (e19.2.1, e19.2.2.2)))))))
abbrev rm_CaseLayoutModel_isSeen : Room := { frames := 2, cells := 0, slots := 0, locals := 56 }
def pp_CaseLayoutModel_isSeen_108 (K : gx_K) (E : gx_E) (v2 : Int32) (v3 : Int32) (v4 : Int32) (v5 : Int32) (v6 : Int32) (v7 : Int32) (v8 : Int32) (v9 : Int32) (v10 : Int32) (a : Int32 × Int32 × gx_S) : Prop := gx_G K E (gx_AB false E K.s.heap.size) 0 0 (a.2.2) 108 [(0, .ref (gx_ad E 29)), (2, .int v2), (3, .int v3), (4, .int v4), (5, .int v5), (6, .int v6), (7, .int v7), (8, .int v8), (9, .int v9), (10, .int v10), (11, .int a.1), (12, .int a.2.1)] []
def pq_CaseLayoutModel_isSeen_108 (K : gx_K) (E : gx_E) (v2 : Int32) (v3 : Int32) (v4 : Int32) (v5 : Int32) (v6 : Int32) (v7 : Int32) (v8 : Int32) (v9 : Int32) (v10 : Int32) (b : Nat × Int32 × Int32 × gx_S) : Prop := gx_G K E (gx_AB false E K.s.heap.size) 0 0 (b.2.2.2) 154 [(0, .ref (gx_ad E 29)), (2, .int v2), (3, .int v3), (4, .int v4), (5, .int v5), (6, .int v6), (7, .int v7), (8, .int v8), (9, .int v9), (10, .int v10), (11, .int b.2.1)] []
def pp_CaseLayoutModel_isSeen_53 (K : gx_K) (E : gx_E) (v2 : Int32) (v3 : Int32) (v4 : Int32) (v5 : Int32) (v6 : Int32) (a : Int32 × Int32 × gx_S) : Prop := gx_G K E (gx_AB false E K.s.heap.size) 0 0 (a.2.2) 53 [(0, .ref (gx_ad E 29)), (2, .int v2), (3, .int v3), (4, .int v4), (5, .int v5), (6, .int v6), (7, .int a.1), (8, .int a.2.1)] []
def pq_CaseLayoutModel_isSeen_53 (K : gx_K) (E : gx_E) (v2 : Int32) (v3 : Int32) (v4 : Int32) (v5 : Int32) (v6 : Int32) (b : Nat × Int32 × Int32 × gx_S) : Prop := gx_G K E (gx_AB false E K.s.heap.size) 0 0 (b.2.2.2) 189 [(7, .int b.2.1)] []
set_option maxHeartbeats 4000000 in
set_option maxRecDepth 100000 in
theorem sc_CaseLayoutModel_isSeen_108 {K : gx_K} {E : gx_E} (C : gx_C K E "CaseLayoutModel" prog_10_method_27_code 13) (hR : K.R = rm_CaseLayoutModel_isSeen) (hr : K.meth.sig.returnType = (some .boolean)) (hlk : K.meth.locks = false) (v2 : Int32) (v3 : Int32) (v4 : Int32) (v5 : Int32) (v6 : Int32) (v7 : Int32) (v8 : Int32) (v9 : Int32) (v10 : Int32) (a : Int32 × Int32 × gx_S) (o : (Int32 × Int32 × gx_S) ⊕ (Nat × Int32 × Int32 × gx_S)) (hf : s_CaseLayoutModel_isSeen_108 v2 v3 v4 v5 v6 v7 v8 v9 v10 a = some o) (hk : gx_or (pp_CaseLayoutModel_isSeen_108 K E v2 v3 v4 v5 v6 v7 v8 v9 v10) (pq_CaseLayoutModel_isSeen_108 K E v2 v3 v4 v5 v6 v7 v8 v9 v10) o) : pp_CaseLayoutModel_isSeen_108 K E v2 v3 v4 v5 v6 v7 v8 v9 v10 a := by
  unfold s_CaseLayoutModel_isSeen_108 at hf
  unfold pp_CaseLayoutModel_isSeen_108
  refine gx_iload C 11 d_Mod_isSeen_108 rfl ?_
  refine gx_aload_n C 0 d_Mod_isSeen_110 rfl rfl ?_
  refine gx_get C iw_Mod 29 (gx_w29 E _) rfl 5 (by decide) gw_679 rfl rfl d_Mod_isSeen_111 ?_
  refine gx_icmp_ge (tgt := 154) C d_Mod_isSeen_114 (by decide) (fun h10 => ?_) (fun h10 => ?_)
  · have hf := (if_pos h10).symm.trans hf
    cases hf
    have hk : pq_CaseLayoutModel_isSeen_108 K E v2 v3 v4 v5 v6 v7 v8 v9 v10 _ := hk
    unfold pq_CaseLayoutModel_isSeen_108 at hk
    refine gx_lv (lv' := [(0, .ref (gx_ad E 29)), (2, .int v2), (3, .int v3), (4, .int v4), (5, .int v5), (6, .int v6), (7, .int v7), (8, .int v8), (9, .int v9), (10, .int v10), (11, .int a.1)]) [0, 1, 2, 3, 4, 5, 6, 7, 8, 9, 10] rfl ?_
    exact hk
  · have hf := (if_neg h10).symm.trans hf
    refine gx_iload C 10 d_Mod_isSeen_117 rfl ?_
    refine gx_if_ne (tgt := 141) C d_Mod_isSeen_119 (by decide) (fun h11 => ?_) (fun h11 => ?_)
    · have hf := (if_neg h11).symm.trans hf
      refine gx_iconst C (v := 1) d_Mod_isSeen_141 (by decide) ?_
      refine gx_goto (tgt := 146) C d_Mod_isSeen_142 (by decide) ?_
      refine gx_istore C (lv' := [(11, .int 1), (0, .ref (gx_ad E 29)), (2, .int v2), (3, .int v3), (4, .int v4), (5, .int v5), (6, .int v6), (7, .int v7), (8, .int v8), (9, .int v9), (10, .int v10), (12, .int a.2.1)]) d_Mod_isSeen_146 (by decide) rfl ?_
      refine gx_iinc C (v := a.2.1 + 1) (lv' := [(12, .int (a.2.1 + 1)), (11, .int 1), (0, .ref (gx_ad E 29)), (2, .int v2), (3, .int v3), (4, .int v4), (5, .int v5), (6, .int v6), (7, .int v7), (8, .int v8), (9, .int v9), (10, .int v10)]) 11 d_Mod_isSeen_148 rfl rfl (by decide) rfl ?_
      refine gx_goto (tgt := 108) C d_Mod_isSeen_151 (by decide) ?_
      cases hf
      refine gx_lv (lv' := [(0, .ref (gx_ad E 29)), (2, .int v2), (3, .int v3), (4, .int v4), (5, .int v5), (6, .int v6), (7, .int v7), (8, .int v8), (9, .int v9), (10, .int v10), (11, .int 1), (12, .int (a.2.1 + 1))]) [2, 3, 4, 5, 6, 7, 8, 9, 10, 11, 1, 0] rfl ?_
      exact hk
    · have hf := (if_pos h11).symm.trans hf
      refine gx_iload C 11 d_Mod_isSeen_122 rfl ?_
      refine gx_iload_n C 1 d_Mod_isSeen_124 rfl rfl ?_
      refine gx_icmp_eq (tgt := 145) C d_Mod_isSeen_125 (by decide) (fun h12 => ?_) (fun h12 => ?_)
      · have hf := (if_pos h12).symm.trans hf
        refine gx_iconst C (v := 0) d_Mod_isSeen_145 (by decide) ?_
        refine gx_istore C (lv' := [(11, .int 0), (0, .ref (gx_ad E 29)), (2, .int v2), (3, .int v3), (4, .int v4), (5, .int v5), (6, .int v6), (7, .int v7), (8, .int v8), (9, .int v9), (10, .int v10), (12, .int a.2.1)]) d_Mod_isSeen_146 (by decide) rfl ?_
        refine gx_iinc C (v := a.2.1 + 1) (lv' := [(12, .int (a.2.1 + 1)), (11, .int 0), (0, .ref (gx_ad E 29)), (2, .int v2), (3, .int v3), (4, .int v4), (5, .int v5), (6, .int v6), (7, .int v7), (8, .int v8), (9, .int v9), (10, .int v10)]) 11 d_Mod_isSeen_148 rfl rfl (by decide) rfl ?_
        refine gx_goto (tgt := 108) C d_Mod_isSeen_151 (by decide) ?_
        cases hf
        refine gx_lv (lv' := [(0, .ref (gx_ad E 29)), (2, .int v2), (3, .int v3), (4, .int v4), (5, .int v5), (6, .int v6), (7, .int v7), (8, .int v8), (9, .int v9), (10, .int v10), (11, .int 0), (12, .int (a.2.1 + 1))]) [2, 3, 4, 5, 6, 7, 8, 9, 10, 11, 1, 0] rfl ?_
        exact hk
      · have hf := (if_neg h12).symm.trans hf
        refine gx_aload_n C 0 d_Mod_isSeen_128 rfl rfl ?_
        refine gx_iload C 11 d_Mod_isSeen_129 rfl ?_
        refine gx_iload C 8 d_Mod_isSeen_131 rfl ?_
        refine gx_iload C 9 d_Mod_isSeen_133 rfl ?_
        obtain ⟨r13, x13, hc13, hf⟩ := gx_bd_some hf
        refine gx_cVi (n2 := 0) (k2 := 0) C (As := [.int a.2.1, .int v9, .int v10]) (rest := []) 29 3 (c_CaseLayoutModel_covers K.l a.2.1 v9 v10 a.2.2 _ hc13) (Or.inr rfl) rfl (gx_goodV gw_842 gw_844 gs_25 gw_10 gw_845) (by decide +kernel) (gx_w29 E _) rfl (by rw [hR]; decide) rfl rfl (Nat.le_of_ble_eq_true rfl) d_Mod_isSeen_135 (by rw [hR]; decide) rfl rfl ?_
        refine gx_if_eq (tgt := 145) C d_Mod_isSeen_138 (by decide) (fun h14 => ?_) (fun h14 => ?_)
        · have hf := (if_pos h14).symm.trans hf
          refine gx_iconst C (v := 0) d_Mod_isSeen_145 (by decide) ?_
          refine gx_istore C (lv' := [(11, .int 0), (0, .ref (gx_ad E 29)), (2, .int v2), (3, .int v3), (4, .int v4), (5, .int v5), (6, .int v6), (7, .int v7), (8, .int v8), (9, .int v9), (10, .int v10), (12, .int a.2.1)]) d_Mod_isSeen_146 (by decide) rfl ?_
          refine gx_iinc C (v := a.2.1 + 1) (lv' := [(12, .int (a.2.1 + 1)), (11, .int 0), (0, .ref (gx_ad E 29)), (2, .int v2), (3, .int v3), (4, .int v4), (5, .int v5), (6, .int v6), (7, .int v7), (8, .int v8), (9, .int v9), (10, .int v10)]) 11 d_Mod_isSeen_148 rfl rfl (by decide) rfl ?_
          refine gx_goto (tgt := 108) C d_Mod_isSeen_151 (by decide) ?_
          cases hf
          refine gx_lv (lv' := [(0, .ref (gx_ad E 29)), (2, .int v2), (3, .int v3), (4, .int v4), (5, .int v5), (6, .int v6), (7, .int v7), (8, .int v8), (9, .int v9), (10, .int v10), (11, .int 0), (12, .int (a.2.1 + 1))]) [2, 3, 4, 5, 6, 7, 8, 9, 10, 11, 1, 0] rfl ?_
          exact hk
        · have hf := (if_neg h14).symm.trans hf
          refine gx_iconst C (v := 1) d_Mod_isSeen_141 (by decide) ?_
          refine gx_goto (tgt := 146) C d_Mod_isSeen_142 (by decide) ?_
          refine gx_istore C (lv' := [(11, .int 1), (0, .ref (gx_ad E 29)), (2, .int v2), (3, .int v3), (4, .int v4), (5, .int v5), (6, .int v6), (7, .int v7), (8, .int v8), (9, .int v9), (10, .int v10), (12, .int a.2.1)]) d_Mod_isSeen_146 (by decide) rfl ?_
          refine gx_iinc C (v := a.2.1 + 1) (lv' := [(12, .int (a.2.1 + 1)), (11, .int 1), (0, .ref (gx_ad E 29)), (2, .int v2), (3, .int v3), (4, .int v4), (5, .int v5), (6, .int v6), (7, .int v7), (8, .int v8), (9, .int v9), (10, .int v10)]) 11 d_Mod_isSeen_148 rfl rfl (by decide) rfl ?_
          refine gx_goto (tgt := 108) C d_Mod_isSeen_151 (by decide) ?_
          cases hf
          refine gx_lv (lv' := [(0, .ref (gx_ad E 29)), (2, .int v2), (3, .int v3), (4, .int v4), (5, .int v5), (6, .int v6), (7, .int v7), (8, .int v8), (9, .int v9), (10, .int v10), (11, .int 1), (12, .int (a.2.1 + 1))]) [2, 3, 4, 5, 6, 7, 8, 9, 10, 11, 1, 0] rfl ?_
          exact hk
set_option maxHeartbeats 4000000 in
set_option maxRecDepth 100000 in
theorem sc_CaseLayoutModel_isSeen_53 {K : gx_K} {E : gx_E} (C : gx_C K E "CaseLayoutModel" prog_10_method_27_code 13) (hR : K.R = rm_CaseLayoutModel_isSeen) (hr : K.meth.sig.returnType = (some .boolean)) (hlk : K.meth.locks = false) (v2 : Int32) (v3 : Int32) (v4 : Int32) (v5 : Int32) (v6 : Int32) (a : Int32 × Int32 × gx_S) (o : (Int32 × Int32 × gx_S) ⊕ (Nat × Int32 × Int32 × gx_S)) (hf : s_CaseLayoutModel_isSeen_53 v2 v3 v4 v5 v6 a = some o) (hk : gx_or (pp_CaseLayoutModel_isSeen_53 K E v2 v3 v4 v5 v6) (pq_CaseLayoutModel_isSeen_53 K E v2 v3 v4 v5 v6) o) : pp_CaseLayoutModel_isSeen_53 K E v2 v3 v4 v5 v6 a := by
  unfold s_CaseLayoutModel_isSeen_53 at hf
  unfold pp_CaseLayoutModel_isSeen_53
  refine gx_iload C 7 d_Mod_isSeen_53 rfl ?_
  refine gx_aload_n C 0 d_Mod_isSeen_55 rfl rfl ?_
  refine gx_get C iw_Mod 29 (gx_w29 E _) rfl 1 (by decide) gw_675 rfl rfl d_Mod_isSeen_56 ?_
  refine gx_aload_n C 0 d_Mod_isSeen_59 rfl rfl ?_
  refine gx_get C iw_Mod 29 (gx_w29 E _) rfl 2 (by decide) gw_676 rfl rfl d_Mod_isSeen_60 ?_
  refine gx_imul C d_Mod_isSeen_63 ?_
  refine gx_icmp_ge (tgt := 189) C d_Mod_isSeen_64 (by decide) (fun h5 => ?_) (fun h5 => ?_)
  · have hf := (if_pos h5).symm.trans hf
    cases hf
    have hk : pq_CaseLayoutModel_isSeen_53 K E v2 v3 v4 v5 v6 _ := hk
    unfold pq_CaseLayoutModel_isSeen_53 at hk
    refine gx_lv (lv' := [(7, .int a.1)]) [6] rfl ?_
    exact hk
  · have hf := (if_neg h5).symm.trans hf
    refine gx_iload C 6 d_Mod_isSeen_67 rfl ?_
    refine gx_if_eq (tgt := 189) C d_Mod_isSeen_69 (by decide) (fun h6 => ?_) (fun h6 => ?_)
    · have hf := (if_pos h6).symm.trans hf
      cases hf
      have hk : pq_CaseLayoutModel_isSeen_53 K E v2 v3 v4 v5 v6 _ := hk
      unfold pq_CaseLayoutModel_isSeen_53 at hk
      refine gx_lv (lv' := [(7, .int a.1)]) [6] rfl ?_
      exact hk
    · have hf := (if_neg h6).symm.trans hf
      refine gx_iload C 7 d_Mod_isSeen_72 rfl ?_
      refine gx_aload_n C 0 d_Mod_isSeen_74 rfl rfl ?_
      refine gx_get C iw_Mod 29 (gx_w29 E _) rfl 1 (by decide) gw_675 rfl rfl d_Mod_isSeen_75 ?_
      obtain ⟨hz7, hf⟩ := gx_nz_some hf
      refine gx_irem C d_Mod_isSeen_78 hz7 ?_
      refine gx_istore C (lv' := [(9, .int (a.2.1 - a.2.1 / (gx_gI a.2.2 12) * (gx_gI a.2.2 12))), (0, .ref (gx_ad E 29)), (2, .int v2), (3, .int v3), (4, .int v4), (5, .int v5), (6, .int v6), (7, .int a.1), (8, .int a.2.1)]) d_Mod_isSeen_79 (by decide) rfl ?_
      refine gx_iload C 8 d_Mod_isSeen_81 rfl ?_
      refine gx_aload_n C 1 d_Mod_isSeen_83 rfl rfl ?_
      refine gx_get C iw_Mod 29 (gx_w29 E _) rfl 1 (by decide) gw_675 rfl rfl d_Mod_isSeen_84 ?_
      obtain ⟨hz8, hf⟩ := gx_nz_some hf
      refine gx_idiv C d_Mod_isSeen_87 hz8 ?_
      refine gx_istore C (lv' := [(10, .int (a.2.1 / (gx_gI a.2.2 12))), (9, .int (a.2.1 - a.2.1 / (gx_gI a.2.2 12) * (gx_gI a.2.2 12))), (0, .ref (gx_ad E 29)), (2, .int v2), (3, .int v3), (4, .int v4), (5, .int v5), (6, .int v6), (7, .int a.1), (8, .int a.2.1)]) d_Mod_isSeen_88 (by decide) rfl ?_
      refine gx_aload_n C 2 d_Mod_isSeen_90 rfl rfl ?_
      refine gx_get C iw_Mod 29 (gx_w29 E _) rfl 3 (by decide) gw_677 rfl rfl d_Mod_isSeen_91 ?_
      refine gx_bipush C (v := 9) d_Mod_isSeen_94 (by decide) ?_
      refine gx_iload C 0 d_Mod_isSeen_96 rfl ?_
      refine gx_imul C d_Mod_isSeen_98 ?_
      refine gx_iload C 1 d_Mod_isSeen_99 rfl ?_
      refine gx_iadd C d_Mod_isSeen_101 ?_
      obtain ⟨hi9, hf⟩ := gx_ck_some hf
      refine gx_zald C 30 1 (gx_w30 E _) rfl hi9 d_Mod_isSeen_102 ?_
      refine gx_istore C (lv' := [(11, .int (gx_gA a.2.2 20 ((9 * (a.2.1 / (gx_gI a.2.2 12))) + (a.2.1 - a.2.1 / (gx_gI a.2.2 12) * (gx_gI a.2.2 12)) : Int32).toNatClampNeg)), (10, .int (a.2.1 / (gx_gI a.2.2 12))), (9, .int (a.2.1 - a.2.1 / (gx_gI a.2.2 12) * (gx_gI a.2.2 12))), (0, .ref (gx_ad E 29)), (2, .int v2), (3, .int v3), (4, .int v4), (5, .int v5), (6, .int v6), (7, .int a.1), (8, .int a.2.1)]) d_Mod_isSeen_103 (by decide) rfl ?_
      refine gx_iconst C (v := 0) d_Mod_isSeen_105 (by decide) ?_
      refine gx_istore C (lv' := [(12, .int 0), (11, .int (gx_gA a.2.2 20 ((9 * (a.2.1 / (gx_gI a.2.2 12))) + (a.2.1 - a.2.1 / (gx_gI a.2.2 12) * (gx_gI a.2.2 12)) : Int32).toNatClampNeg)), (10, .int (a.2.1 / (gx_gI a.2.2 12))), (9, .int (a.2.1 - a.2.1 / (gx_gI a.2.2 12) * (gx_gI a.2.2 12))), (0, .ref (gx_ad E 29)), (2, .int v2), (3, .int v3), (4, .int v4), (5, .int v5), (6, .int v6), (7, .int a.1), (8, .int a.2.1)]) d_Mod_isSeen_106 (by decide) rfl ?_
      refine gx_lv (lv' := [(0, .ref (gx_ad E 29)), (2, .int v2), (3, .int v3), (4, .int v4), (5, .int v5), (6, .int v6), (7, .int a.1), (8, .int a.2.1), (9, .int (a.2.1 - a.2.1 / (gx_gI a.2.2 12) * (gx_gI a.2.2 12))), (10, .int (a.2.1 / (gx_gI a.2.2 12))), (11, .int (gx_gA a.2.2 20 ((9 * (a.2.1 / (gx_gI a.2.2 12))) + (a.2.1 - a.2.1 / (gx_gI a.2.2 12) * (gx_gI a.2.2 12)) : Int32).toNatClampNeg)), (12, .int 0)]) [4, 5, 6, 7, 8, 9, 10, 11, 3, 2, 1, 0] rfl ?_
      obtain ⟨e15, he15, hf⟩ := gx_bl_some hf
      refine (gx_loop (P := pp_CaseLayoutModel_isSeen_108 K E v2 v3 v4 v5 v6 a.1 a.2.1 (a.2.1 - a.2.1 / (gx_gI a.2.2 12) * (gx_gI a.2.2 12)) (a.2.1 / (gx_gI a.2.2 12))) (Q := pq_CaseLayoutModel_isSeen_108 K E v2 v3 v4 v5 v6 a.1 a.2.1 (a.2.1 - a.2.1 / (gx_gI a.2.2 12) * (gx_gI a.2.2 12)) (a.2.1 / (gx_gI a.2.2 12))) (fun a9 o9 h1 h2 => sc_CaseLayoutModel_isSeen_108 C hR hr hlk v2 v3 v4 v5 v6 a.1 a.2.1 (a.2.1 - a.2.1 / (gx_gI a.2.2 12) * (gx_gI a.2.2 12)) (a.2.1 / (gx_gI a.2.2 12)) a9 o9 h1 h2) gx_fuel (gx_gA a.2.2 20 ((9 * (a.2.1 / (gx_gI a.2.2 12))) + (a.2.1 - a.2.1 / (gx_gI a.2.2 12) * (gx_gI a.2.2 12)) : Int32).toNatClampNeg, 0, a.2.2) e15 he15 ?_ : pp_CaseLayoutModel_isSeen_108 K E v2 v3 v4 v5 v6 a.1 a.2.1 (a.2.1 - a.2.1 / (gx_gI a.2.2 12) * (gx_gI a.2.2 12)) (a.2.1 / (gx_gI a.2.2 12)) (gx_gA a.2.2 20 ((9 * (a.2.1 / (gx_gI a.2.2 12))) + (a.2.1 - a.2.1 / (gx_gI a.2.2 12) * (gx_gI a.2.2 12)) : Int32).toNatClampNeg, 0, a.2.2))
      unfold pq_CaseLayoutModel_isSeen_108
      refine gx_iload C 10 d_Mod_isSeen_154 rfl ?_
      refine gx_if_eq (tgt := 176) C d_Mod_isSeen_156 (by decide) (fun h16 => ?_) (fun h16 => ?_)
      · have hf := (if_pos h16).symm.trans hf
        refine gx_iconst C (v := 1) d_Mod_isSeen_176 (by decide) ?_
        refine gx_goto (tgt := 181) C d_Mod_isSeen_177 (by decide) ?_
        refine gx_istore C (lv' := [(7, .int 1), (0, .ref (gx_ad E 29)), (2, .int v2), (3, .int v3), (4, .int v4), (5, .int v5), (6, .int v6), (8, .int a.2.1), (9, .int (a.2.1 - a.2.1 / (gx_gI a.2.2 12) * (gx_gI a.2.2 12))), (10, .int (a.2.1 / (gx_gI a.2.2 12))), (11, .int e15.2.1)]) d_Mod_isSeen_181 (by decide) rfl ?_
        refine gx_iinc C (v := a.2.1 + 1) (lv' := [(8, .int (a.2.1 + 1)), (7, .int 1), (0, .ref (gx_ad E 29)), (2, .int v2), (3, .int v3), (4, .int v4), (5, .int v5), (6, .int v6), (9, .int (a.2.1 - a.2.1 / (gx_gI a.2.2 12) * (gx_gI a.2.2 12))), (10, .int (a.2.1 / (gx_gI a.2.2 12))), (11, .int e15.2.1)]) 7 d_Mod_isSeen_183 rfl rfl (by decide) rfl ?_
        refine gx_goto (tgt := 53) C d_Mod_isSeen_186 (by decide) ?_
        cases hf
        refine gx_lv (lv' := [(0, .ref (gx_ad E 29)), (2, .int v2), (3, .int v3), (4, .int v4), (5, .int v5), (6, .int v6), (7, .int 1), (8, .int (a.2.1 + 1))]) [2, 3, 4, 5, 6, 7, 1, 0] rfl ?_
        exact hk
      · have hf := (if_neg h16).symm.trans hf
        refine gx_iload_n C 2 d_Mod_isSeen_159 rfl rfl ?_
        refine gx_iload C 3 d_Mod_isSeen_160 rfl ?_
        refine gx_iload C 4 d_Mod_isSeen_162 rfl ?_
        refine gx_iload C 5 d_Mod_isSeen_164 rfl ?_
        refine gx_iload C 8 d_Mod_isSeen_166 rfl ?_
        refine gx_iload C 9 d_Mod_isSeen_168 rfl ?_
        obtain ⟨r17, x17, hc17, hf⟩ := gx_bd_some hf
        refine gx_cSi (n2 := 0) (k2 := 0) C (As := [.int v3, .int v4, .int v5, .int v6, .int (a.2.1 - a.2.1 / (gx_gI a.2.2 12) * (gx_gI a.2.2 12)), .int (a.2.1 / (gx_gI a.2.2 12))]) (rest := []) 6 (c_CaseLayoutModel_goesThrough K.l v3 v4 v5 v6 (a.2.1 - a.2.1 / (gx_gI a.2.2 12) * (gx_gI a.2.2 12)) (a.2.1 / (gx_gI a.2.2 12)) e15.2.2.2 _ hc17) (Or.inr rfl) rfl (gx_goodS gw_846 gw_847 gw_10 gw_848) (by decide +kernel) (by rw [hR]; decide) rfl rfl (Nat.le_of_ble_eq_true rfl) d_Mod_isSeen_170 (by rw [hR]; decide) rfl rfl ?_
        refine gx_if_ne (tgt := 180) C d_Mod_isSeen_173 (by decide) (fun h18 => ?_) (fun h18 => ?_)
        · have hf := (if_neg h18).symm.trans hf
          refine gx_iconst C (v := 0) d_Mod_isSeen_180 (by decide) ?_
          refine gx_istore C (lv' := [(7, .int 0), (0, .ref (gx_ad E 29)), (2, .int v2), (3, .int v3), (4, .int v4), (5, .int v5), (6, .int v6), (8, .int a.2.1), (9, .int (a.2.1 - a.2.1 / (gx_gI a.2.2 12) * (gx_gI a.2.2 12))), (10, .int (a.2.1 / (gx_gI a.2.2 12))), (11, .int e15.2.1)]) d_Mod_isSeen_181 (by decide) rfl ?_
          refine gx_iinc C (v := a.2.1 + 1) (lv' := [(8, .int (a.2.1 + 1)), (7, .int 0), (0, .ref (gx_ad E 29)), (2, .int v2), (3, .int v3), (4, .int v4), (5, .int v5), (6, .int v6), (9, .int (a.2.1 - a.2.1 / (gx_gI a.2.2 12) * (gx_gI a.2.2 12))), (10, .int (a.2.1 / (gx_gI a.2.2 12))), (11, .int e15.2.1)]) 7 d_Mod_isSeen_183 rfl rfl (by decide) rfl ?_
          refine gx_goto (tgt := 53) C d_Mod_isSeen_186 (by decide) ?_
          cases hf
          refine gx_lv (lv' := [(0, .ref (gx_ad E 29)), (2, .int v2), (3, .int v3), (4, .int v4), (5, .int v5), (6, .int v6), (7, .int 0), (8, .int (a.2.1 + 1))]) [2, 3, 4, 5, 6, 7, 1, 0] rfl ?_
          exact hk
        · have hf := (if_pos h18).symm.trans hf
          refine gx_iconst C (v := 1) d_Mod_isSeen_176 (by decide) ?_
          refine gx_goto (tgt := 181) C d_Mod_isSeen_177 (by decide) ?_
          refine gx_istore C (lv' := [(7, .int 1), (0, .ref (gx_ad E 29)), (2, .int v2), (3, .int v3), (4, .int v4), (5, .int v5), (6, .int v6), (8, .int a.2.1), (9, .int (a.2.1 - a.2.1 / (gx_gI a.2.2 12) * (gx_gI a.2.2 12))), (10, .int (a.2.1 / (gx_gI a.2.2 12))), (11, .int e15.2.1)]) d_Mod_isSeen_181 (by decide) rfl ?_
          refine gx_iinc C (v := a.2.1 + 1) (lv' := [(8, .int (a.2.1 + 1)), (7, .int 1), (0, .ref (gx_ad E 29)), (2, .int v2), (3, .int v3), (4, .int v4), (5, .int v5), (6, .int v6), (9, .int (a.2.1 - a.2.1 / (gx_gI a.2.2 12) * (gx_gI a.2.2 12))), (10, .int (a.2.1 / (gx_gI a.2.2 12))), (11, .int e15.2.1)]) 7 d_Mod_isSeen_183 rfl rfl (by decide) rfl ?_
          refine gx_goto (tgt := 53) C d_Mod_isSeen_186 (by decide) ?_
          cases hf
          refine gx_lv (lv' := [(0, .ref (gx_ad E 29)), (2, .int v2), (3, .int v3), (4, .int v4), (5, .int v5), (6, .int v6), (7, .int 1), (8, .int (a.2.1 + 1))]) [2, 3, 4, 5, 6, 7, 1, 0] rfl ?_
          exact hk
set_option maxHeartbeats 4000000 in
set_option maxRecDepth 100000 in
theorem c_CaseLayoutModel_isSeen (l : Launch) (a1 : Int32) (a2 : Int32) (x : gx_S) (o : Int32 × gx_S) (hf : f_CaseLayoutModel_isSeen a1 a2 x = some o) : gx_Mi false l y_Mod_isSeen prog_10_method_27_code 13 (some .boolean) rm_CaseLayoutModel_isSeen (fun E => [.ref (gx_ad E 29), .int a1, .int a2]) x o.1 o.2 := by
  refine gx_meti (own := "CaseLayoutModel") (by decide) rfl (fun E => Nat.le_of_ble_eq_true rfl) (fun K E hl0 hR hr hlk hk C => ?_)
  subst hl0
  unfold f_CaseLayoutModel_isSeen at hf
  show gx_G K E _ 0 0 x 0 [(0, .ref (gx_ad E 29)), (1, .int a1), (2, .int a2)] []
  refine gx_iconst C (v := 2) d_Mod_isSeen_0 (by decide) ?_
  refine gx_aload_n C 0 d_Mod_isSeen_1 rfl rfl ?_
  refine gx_get C iw_Mod 29 (gx_w29 E _) rfl 12 (by decide) gw_686 rfl rfl d_Mod_isSeen_2 ?_
  refine gx_iload_n C 1 d_Mod_isSeen_5 rfl rfl ?_
  obtain ⟨hi1, hf⟩ := gx_ck_some hf
  refine gx_iald C 37 0 (gx_w37 E _) rfl hi1 d_Mod_isSeen_6 ?_
  refine gx_imul C d_Mod_isSeen_7 ?_
  refine gx_iconst C (v := 1) d_Mod_isSeen_8 (by decide) ?_
  refine gx_iadd C d_Mod_isSeen_9 ?_
  refine gx_istore_n C (lv' := [(3, .int ((2 * (gx_gA x 27 (a1 : Int32).toNatClampNeg)) + 1)), (0, .ref (gx_ad E 29)), (1, .int a1), (2, .int a2)]) d_Mod_isSeen_10 rfl (by decide) rfl ?_
  refine gx_iconst C (v := 2) d_Mod_isSeen_11 (by decide) ?_
  refine gx_aload_n C 1 d_Mod_isSeen_12 rfl rfl ?_
  refine gx_get C iw_Mod 29 (gx_w29 E _) rfl 13 (by decide) gw_687 rfl rfl d_Mod_isSeen_13 ?_
  refine gx_iload_n C 2 d_Mod_isSeen_16 rfl rfl ?_
  obtain ⟨hi2, hf⟩ := gx_ck_some hf
  refine gx_iald C 38 0 (gx_w38 E _) rfl hi2 d_Mod_isSeen_17 ?_
  refine gx_imul C d_Mod_isSeen_18 ?_
  refine gx_iconst C (v := 1) d_Mod_isSeen_19 (by decide) ?_
  refine gx_iadd C d_Mod_isSeen_20 ?_
  refine gx_istore C (lv' := [(4, .int ((2 * (gx_gA x 28 (a1 : Int32).toNatClampNeg)) + 1)), (3, .int ((2 * (gx_gA x 27 (a1 : Int32).toNatClampNeg)) + 1)), (0, .ref (gx_ad E 29)), (1, .int a1), (2, .int a2)]) d_Mod_isSeen_21 (by decide) rfl ?_
  refine gx_iconst C (v := 2) d_Mod_isSeen_23 (by decide) ?_
  refine gx_aload_n C 2 d_Mod_isSeen_24 rfl rfl ?_
  refine gx_get C iw_Mod 29 (gx_w29 E _) rfl 19 (by decide) gw_693 rfl rfl d_Mod_isSeen_25 ?_
  refine gx_iload_n C 4 d_Mod_isSeen_28 rfl rfl ?_
  obtain ⟨hi3, hf⟩ := gx_ck_some hf
  refine gx_iald C 42 0 (gx_w42 E _) rfl hi3 d_Mod_isSeen_29 ?_
  refine gx_imul C d_Mod_isSeen_30 ?_
  refine gx_iconst C (v := 1) d_Mod_isSeen_31 (by decide) ?_
  refine gx_iadd C d_Mod_isSeen_32 ?_
  refine gx_istore C (lv' := [(5, .int ((2 * (gx_gA x 32 (a2 : Int32).toNatClampNeg)) + 1)), (4, .int ((2 * (gx_gA x 28 (a1 : Int32).toNatClampNeg)) + 1)), (3, .int ((2 * (gx_gA x 27 (a1 : Int32).toNatClampNeg)) + 1)), (0, .ref (gx_ad E 29)), (1, .int a1), (2, .int a2)]) d_Mod_isSeen_33 (by decide) rfl ?_
  refine gx_iconst C (v := 2) d_Mod_isSeen_35 (by decide) ?_
  refine gx_aload_n C 3 d_Mod_isSeen_36 rfl rfl ?_
  refine gx_get C iw_Mod 29 (gx_w29 E _) rfl 20 (by decide) gw_694 rfl rfl d_Mod_isSeen_37 ?_
  refine gx_iload_n C 5 d_Mod_isSeen_40 rfl rfl ?_
  obtain ⟨hi4, hf⟩ := gx_ck_some hf
  refine gx_iald C 43 0 (gx_w43 E _) rfl hi4 d_Mod_isSeen_41 ?_
  refine gx_imul C d_Mod_isSeen_42 ?_
  refine gx_iconst C (v := 1) d_Mod_isSeen_43 (by decide) ?_
  refine gx_iadd C d_Mod_isSeen_44 ?_
  refine gx_istore C (lv' := [(6, .int ((2 * (gx_gA x 33 (a2 : Int32).toNatClampNeg)) + 1)), (5, .int ((2 * (gx_gA x 32 (a2 : Int32).toNatClampNeg)) + 1)), (4, .int ((2 * (gx_gA x 28 (a1 : Int32).toNatClampNeg)) + 1)), (3, .int ((2 * (gx_gA x 27 (a1 : Int32).toNatClampNeg)) + 1)), (0, .ref (gx_ad E 29)), (1, .int a1), (2, .int a2)]) d_Mod_isSeen_45 (by decide) rfl ?_
  refine gx_iconst C (v := 1) d_Mod_isSeen_47 (by decide) ?_
  refine gx_istore C (lv' := [(7, .int 1), (6, .int ((2 * (gx_gA x 33 (a2 : Int32).toNatClampNeg)) + 1)), (5, .int ((2 * (gx_gA x 32 (a2 : Int32).toNatClampNeg)) + 1)), (4, .int ((2 * (gx_gA x 28 (a1 : Int32).toNatClampNeg)) + 1)), (3, .int ((2 * (gx_gA x 27 (a1 : Int32).toNatClampNeg)) + 1)), (0, .ref (gx_ad E 29)), (1, .int a1), (2, .int a2)]) d_Mod_isSeen_48 (by decide) rfl ?_
  refine gx_iconst C (v := 0) d_Mod_isSeen_50 (by decide) ?_
  refine gx_istore C (lv' := [(8, .int 0), (7, .int 1), (6, .int ((2 * (gx_gA x 33 (a2 : Int32).toNatClampNeg)) + 1)), (5, .int ((2 * (gx_gA x 32 (a2 : Int32).toNatClampNeg)) + 1)), (4, .int ((2 * (gx_gA x 28 (a1 : Int32).toNatClampNeg)) + 1)), (3, .int ((2 * (gx_gA x 27 (a1 : Int32).toNatClampNeg)) + 1)), (0, .ref (gx_ad E 29)), (1, .int a1), (2, .int a2)]) d_Mod_isSeen_51 (by decide) rfl ?_
  refine gx_lv (lv' := [(0, .ref (gx_ad E 29)), (2, .int a2), (3, .int ((2 * (gx_gA x 27 (a1 : Int32).toNatClampNeg)) + 1)), (4, .int ((2 * (gx_gA x 28 (a1 : Int32).toNatClampNeg)) + 1)), (5, .int ((2 * (gx_gA x 32 (a2 : Int32).toNatClampNeg)) + 1)), (6, .int ((2 * (gx_gA x 33 (a2 : Int32).toNatClampNeg)) + 1)), (7, .int 1), (8, .int 0)]) [6, 8, 5, 4, 3, 2, 1, 0] rfl ?_
  obtain ⟨e19, he19, hf⟩ := gx_bl_some hf
  refine (gx_loop (P := pp_CaseLayoutModel_isSeen_53 K E a2 ((2 * (gx_gA x 27 (a1 : Int32).toNatClampNeg)) + 1) ((2 * (gx_gA x 28 (a1 : Int32).toNatClampNeg)) + 1) ((2 * (gx_gA x 32 (a2 : Int32).toNatClampNeg)) + 1) ((2 * (gx_gA x 33 (a2 : Int32).toNatClampNeg)) + 1)) (Q := pq_CaseLayoutModel_isSeen_53 K E a2 ((2 * (gx_gA x 27 (a1 : Int32).toNatClampNeg)) + 1) ((2 * (gx_gA x 28 (a1 : Int32).toNatClampNeg)) + 1) ((2 * (gx_gA x 32 (a2 : Int32).toNatClampNeg)) + 1) ((2 * (gx_gA x 33 (a2 : Int32).toNatClampNeg)) + 1)) (fun a9 o9 h1 h2 => sc_CaseLayoutModel_isSeen_53 C hR hr hlk a2 ((2 * (gx_gA x 27 (a1 : Int32).toNatClampNeg)) + 1) ((2 * (gx_gA x 28 (a1 : Int32).toNatClampNeg)) + 1) ((2 * (gx_gA x 32 (a2 : Int32).toNatClampNeg)) + 1) ((2 * (gx_gA x 33 (a2 : Int32).toNatClampNeg)) + 1) a9 o9 h1 h2) gx_fuel (1, 0, x) e19 he19 ?_ : pp_CaseLayoutModel_isSeen_53 K E a2 ((2 * (gx_gA x 27 (a1 : Int32).toNatClampNeg)) + 1) ((2 * (gx_gA x 28 (a1 : Int32).toNatClampNeg)) + 1) ((2 * (gx_gA x 32 (a2 : Int32).toNatClampNeg)) + 1) ((2 * (gx_gA x 33 (a2 : Int32).toNatClampNeg)) + 1) (1, 0, x))
  unfold pq_CaseLayoutModel_isSeen_53
  refine gx_iload C 0 d_Mod_isSeen_189 rfl ?_
  obtain ⟨hn20, hf⟩ := gx_nb_some hf
  cases hf
  exact gx_zret C hr hlk hk hn20 d_Mod_isSeen_191

def s_CaseLayoutModel_isFree_32 (v1 : Int32) (v2 : Int32) (a : Int32 × Int32 × gx_S) : Option ((Int32 × Int32 × gx_S) ⊕ (Nat × Int32 × Int32 × gx_S)) :=
  if (gx_gI a.2.2 14) ≤ a.2.1 then (some (.inr (0, a.1, a.2.1, a.2.2))) else (if a.1 = 0 then (some (.inl (0, a.2.1 + 1, a.2.2))) else (gx_bd (f_CaseLayoutModel_covers a.2.1 v1 v2 a.2.2) (fun r5 x5 => if r5 = 0 then (some (.inl (1, a.2.1 + 1, x5))) else (some (.inl (0, a.2.1 + 1, x5))))))
def j_CaseLayoutModel_isFree_28 (v1 : Int32) (v2 : Int32) (w0 : Int32) (x : gx_S) : Option (Int32 × gx_S) :=
  gx_bl (gx_it (s_CaseLayoutModel_isFree_32 v1 v2) gx_fuel (w0, 0, x)) (fun e7 => gx_nb e7.2.1 (some (e7.2.1, e7.2.2.2)))
def j_CaseLayoutModel_isFree_27 (v1 : Int32) (v2 : Int32) (x : gx_S) : Option (Int32 × gx_S) :=
  j_CaseLayoutModel_isFree_28 v1 v2 0 x
def f_CaseLayoutModel_isFree (a1 : Int32) (a2 : Int32) (x : gx_S) : Option (Int32 × gx_S) :=
  gx_bd (f_CaseLayoutModel_isCell a1 a2 x) (fun r1 x1 => if r1 = 0 then (j_CaseLayoutModel_isFree_27 a1 a2  x1) else (gx_ck ((9 * a2) + a1) 81 (if (gx_gA x1 20 ((9 * a2) + a1 : Int32).toNatClampNeg) = 0 then (j_CaseLayoutModel_isFree_28 a1 a2 1 x1) else (j_CaseLayoutModel_isFree_27 a1 a2  x1))))
abbrev rm_CaseLayoutModel_isFree : Room := { frames := 2, cells := 0, slots := 0, locals := 45 }
def pp_CaseLayoutModel_isFree_32 (K : gx_K) (E : gx_E) (v1 : Int32) (v2 : Int32) (a : Int32 × Int32 × gx_S) : Prop := gx_G K E (gx_AB false E K.s.heap.size) 0 0 (a.2.2) 32 [(0, .ref (gx_ad E 29)), (1, .int v1), (2, .int v2), (3, .int a.1), (4, .int a.2.1)] []
def pq_CaseLayoutModel_isFree_32 (K : gx_K) (E : gx_E) (v1 : Int32) (v2 : Int32) (b : Nat × Int32 × Int32 × gx_S) : Prop := gx_G K E (gx_AB false E K.s.heap.size) 0 0 (b.2.2.2) 68 [(3, .int b.2.1)] []
set_option maxHeartbeats 4000000 in
set_option maxRecDepth 100000 in
theorem sc_CaseLayoutModel_isFree_32 {K : gx_K} {E : gx_E} (C : gx_C K E "CaseLayoutModel" prog_10_method_28_code 5) (hR : K.R = rm_CaseLayoutModel_isFree) (hr : K.meth.sig.returnType = (some .boolean)) (hlk : K.meth.locks = false) (v1 : Int32) (v2 : Int32) (a : Int32 × Int32 × gx_S) (o : (Int32 × Int32 × gx_S) ⊕ (Nat × Int32 × Int32 × gx_S)) (hf : s_CaseLayoutModel_isFree_32 v1 v2 a = some o) (hk : gx_or (pp_CaseLayoutModel_isFree_32 K E v1 v2) (pq_CaseLayoutModel_isFree_32 K E v1 v2) o) : pp_CaseLayoutModel_isFree_32 K E v1 v2 a := by
  unfold s_CaseLayoutModel_isFree_32 at hf
  unfold pp_CaseLayoutModel_isFree_32
  refine gx_iload C 4 d_Mod_isFree_32 rfl ?_
  refine gx_aload_n C 0 d_Mod_isFree_34 rfl rfl ?_
  refine gx_get C iw_Mod 29 (gx_w29 E _) rfl 5 (by decide) gw_679 rfl rfl d_Mod_isFree_35 ?_
  refine gx_icmp_ge (tgt := 68) C d_Mod_isFree_38 (by decide) (fun h3 => ?_) (fun h3 => ?_)
  · have hf := (if_pos h3).symm.trans hf
    cases hf
    have hk : pq_CaseLayoutModel_isFree_32 K E v1 v2 _ := hk
    unfold pq_CaseLayoutModel_isFree_32 at hk
    refine gx_lv (lv' := [(3, .int a.1)]) [3] rfl ?_
    exact hk
  · have hf := (if_neg h3).symm.trans hf
    refine gx_iload_n C 3 d_Mod_isFree_41 rfl rfl ?_
    refine gx_if_eq (tgt := 60) C d_Mod_isFree_42 (by decide) (fun h4 => ?_) (fun h4 => ?_)
    · have hf := (if_pos h4).symm.trans hf
      refine gx_iconst C (v := 0) d_Mod_isFree_60 (by decide) ?_
      refine gx_istore_n C (lv' := [(3, .int 0), (0, .ref (gx_ad E 29)), (1, .int v1), (2, .int v2), (4, .int a.2.1)]) d_Mod_isFree_61 rfl (by decide) rfl ?_
      refine gx_iinc C (v := a.2.1 + 1) (lv' := [(4, .int (a.2.1 + 1)), (3, .int 0), (0, .ref (gx_ad E 29)), (1, .int v1), (2, .int v2)]) 4 d_Mod_isFree_62 rfl rfl (by decide) rfl ?_
      refine gx_goto (tgt := 32) C d_Mod_isFree_65 (by decide) ?_
      cases hf
      refine gx_lv (lv' := [(0, .ref (gx_ad E 29)), (1, .int v1), (2, .int v2), (3, .int 0), (4, .int (a.2.1 + 1))]) [2, 3, 4, 1, 0] rfl ?_
      exact hk
    · have hf := (if_neg h4).symm.trans hf
      refine gx_aload_n C 0 d_Mod_isFree_45 rfl rfl ?_
      refine gx_iload C 4 d_Mod_isFree_46 rfl ?_
      refine gx_iload_n C 1 d_Mod_isFree_48 rfl rfl ?_
      refine gx_iload_n C 2 d_Mod_isFree_49 rfl rfl ?_
      obtain ⟨r5, x5, hc5, hf⟩ := gx_bd_some hf
      refine gx_cVi (n2 := 0) (k2 := 0) C (As := [.int a.2.1, .int v1, .int v2]) (rest := []) 29 3 (c_CaseLayoutModel_covers K.l a.2.1 v1 v2 a.2.2 _ hc5) (Or.inr rfl) rfl (gx_goodV gw_842 gw_844 gs_25 gw_10 gw_845) (by decide +kernel) (gx_w29 E _) rfl (by rw [hR]; decide) rfl rfl (Nat.le_of_ble_eq_true rfl) d_Mod_isFree_50 (by rw [hR]; decide) rfl rfl ?_
      refine gx_if_ne (tgt := 60) C d_Mod_isFree_53 (by decide) (fun h6 => ?_) (fun h6 => ?_)
      · have hf := (if_neg h6).symm.trans hf
        refine gx_iconst C (v := 0) d_Mod_isFree_60 (by decide) ?_
        refine gx_istore_n C (lv' := [(3, .int 0), (0, .ref (gx_ad E 29)), (1, .int v1), (2, .int v2), (4, .int a.2.1)]) d_Mod_isFree_61 rfl (by decide) rfl ?_
        refine gx_iinc C (v := a.2.1 + 1) (lv' := [(4, .int (a.2.1 + 1)), (3, .int 0), (0, .ref (gx_ad E 29)), (1, .int v1), (2, .int v2)]) 4 d_Mod_isFree_62 rfl rfl (by decide) rfl ?_
        refine gx_goto (tgt := 32) C d_Mod_isFree_65 (by decide) ?_
        cases hf
        refine gx_lv (lv' := [(0, .ref (gx_ad E 29)), (1, .int v1), (2, .int v2), (3, .int 0), (4, .int (a.2.1 + 1))]) [2, 3, 4, 1, 0] rfl ?_
        exact hk
      · have hf := (if_pos h6).symm.trans hf
        refine gx_iconst C (v := 1) d_Mod_isFree_56 (by decide) ?_
        refine gx_goto (tgt := 61) C d_Mod_isFree_57 (by decide) ?_
        refine gx_istore_n C (lv' := [(3, .int 1), (0, .ref (gx_ad E 29)), (1, .int v1), (2, .int v2), (4, .int a.2.1)]) d_Mod_isFree_61 rfl (by decide) rfl ?_
        refine gx_iinc C (v := a.2.1 + 1) (lv' := [(4, .int (a.2.1 + 1)), (3, .int 1), (0, .ref (gx_ad E 29)), (1, .int v1), (2, .int v2)]) 4 d_Mod_isFree_62 rfl rfl (by decide) rfl ?_
        refine gx_goto (tgt := 32) C d_Mod_isFree_65 (by decide) ?_
        cases hf
        refine gx_lv (lv' := [(0, .ref (gx_ad E 29)), (1, .int v1), (2, .int v2), (3, .int 1), (4, .int (a.2.1 + 1))]) [2, 3, 4, 1, 0] rfl ?_
        exact hk
set_option maxHeartbeats 4000000 in
set_option maxRecDepth 100000 in
theorem jc_CaseLayoutModel_isFree_28 {K : gx_K} {E : gx_E} (C : gx_C K E "CaseLayoutModel" prog_10_method_28_code 5) (hR : K.R = rm_CaseLayoutModel_isFree) (hr : K.meth.sig.returnType = (some .boolean)) (hlk : K.meth.locks = false) (v1 : Int32) (v2 : Int32) (w0 : Int32) (x : gx_S) (o : Int32 × gx_S) (hf : j_CaseLayoutModel_isFree_28 v1 v2 w0 x = some o) (hk : ∀ t, MQ K.below (gx_Qi E (gx_AB false E K.s.heap.size) o.1 o.2) K.args K.s 0 0 (gx_AB false E K.s.heap.size) t → K.Q t) : gx_G K E (gx_AB false E K.s.heap.size) 0 0 x 28 [(0, .ref (gx_ad E 29)), (1, .int v1), (2, .int v2)] [.int w0] := by
  unfold j_CaseLayoutModel_isFree_28 at hf
  refine gx_istore_n C (lv' := [(3, .int w0), (0, .ref (gx_ad E 29)), (1, .int v1), (2, .int v2)]) d_Mod_isFree_28 rfl (by decide) rfl ?_
  refine gx_iconst C (v := 0) d_Mod_isFree_29 (by decide) ?_
  refine gx_istore C (lv' := [(4, .int 0), (3, .int w0), (0, .ref (gx_ad E 29)), (1, .int v1), (2, .int v2)]) d_Mod_isFree_30 (by decide) rfl ?_
  refine gx_lv (lv' := [(0, .ref (gx_ad E 29)), (1, .int v1), (2, .int v2), (3, .int w0), (4, .int 0)]) [2, 3, 4, 1, 0] rfl ?_
  obtain ⟨e7, he7, hf⟩ := gx_bl_some hf
  refine (gx_loop (P := pp_CaseLayoutModel_isFree_32 K E v1 v2) (Q := pq_CaseLayoutModel_isFree_32 K E v1 v2) (fun a9 o9 h1 h2 => sc_CaseLayoutModel_isFree_32 C hR hr hlk v1 v2 a9 o9 h1 h2) gx_fuel (w0, 0, x) e7 he7 ?_ : pp_CaseLayoutModel_isFree_32 K E v1 v2 (w0, 0, x))
  unfold pq_CaseLayoutModel_isFree_32
  refine gx_iload_n C 0 d_Mod_isFree_68 rfl rfl ?_
  obtain ⟨hn8, hf⟩ := gx_nb_some hf
  cases hf
  exact gx_zret C hr hlk hk hn8 d_Mod_isFree_69
set_option maxHeartbeats 4000000 in
set_option maxRecDepth 100000 in
theorem jc_CaseLayoutModel_isFree_27 {K : gx_K} {E : gx_E} (C : gx_C K E "CaseLayoutModel" prog_10_method_28_code 5) (hR : K.R = rm_CaseLayoutModel_isFree) (hr : K.meth.sig.returnType = (some .boolean)) (hlk : K.meth.locks = false) (v1 : Int32) (v2 : Int32) (x : gx_S) (o : Int32 × gx_S) (hf : j_CaseLayoutModel_isFree_27 v1 v2 x = some o) (hk : ∀ t, MQ K.below (gx_Qi E (gx_AB false E K.s.heap.size) o.1 o.2) K.args K.s 0 0 (gx_AB false E K.s.heap.size) t → K.Q t) : gx_G K E (gx_AB false E K.s.heap.size) 0 0 x 27 [(0, .ref (gx_ad E 29)), (1, .int v1), (2, .int v2)] [] := by
  unfold j_CaseLayoutModel_isFree_27 at hf
  refine gx_iconst C (v := 0) d_Mod_isFree_27 (by decide) ?_
  exact jc_CaseLayoutModel_isFree_28 C hR hr hlk v1 v2 0 x _ hf hk
set_option maxHeartbeats 4000000 in
set_option maxRecDepth 100000 in
theorem c_CaseLayoutModel_isFree (l : Launch) (a1 : Int32) (a2 : Int32) (x : gx_S) (o : Int32 × gx_S) (hf : f_CaseLayoutModel_isFree a1 a2 x = some o) : gx_Mi false l y_Mod_isFree prog_10_method_28_code 5 (some .boolean) rm_CaseLayoutModel_isFree (fun E => [.ref (gx_ad E 29), .int a1, .int a2]) x o.1 o.2 := by
  refine gx_meti (own := "CaseLayoutModel") (by decide) rfl (fun E => Nat.le_of_ble_eq_true rfl) (fun K E hl0 hR hr hlk hk C => ?_)
  subst hl0
  unfold f_CaseLayoutModel_isFree at hf
  show gx_G K E _ 0 0 x 0 [(0, .ref (gx_ad E 29)), (1, .int a1), (2, .int a2)] []
  refine gx_aload_n C 0 d_Mod_isFree_0 rfl rfl ?_
  refine gx_iload_n C 1 d_Mod_isFree_1 rfl rfl ?_
  refine gx_iload_n C 2 d_Mod_isFree_2 rfl rfl ?_
  obtain ⟨r1, x1, hc1, hf⟩ := gx_bd_some hf
  refine gx_cVi (n2 := 0) (k2 := 0) C (As := [.int a1, .int a2]) (rest := []) 29 2 (c_CaseLayoutModel_isCell K.l a1 a2 x _ hc1) (Or.inr rfl) rfl (gx_goodV gw_767 gw_769 gs_16 gw_10 gw_770) (by decide +kernel) (gx_w29 E _) rfl (by rw [hR]; decide) rfl rfl (Nat.le_of_ble_eq_true rfl) d_Mod_isFree_3 (by rw [hR]; decide) rfl rfl ?_
  refine gx_if_eq (tgt := 27) C d_Mod_isFree_6 (by decide) (fun h2 => ?_) (fun h2 => ?_)
  · have hf := (if_pos h2).symm.trans hf
    exact jc_CaseLayoutModel_isFree_27 C hR hr hlk a1 a2  x1 _ hf hk
  · have hf := (if_neg h2).symm.trans hf
    refine gx_aload_n C 0 d_Mod_isFree_9 rfl rfl ?_
    refine gx_get C iw_Mod 29 (gx_w29 E _) rfl 3 (by decide) gw_677 rfl rfl d_Mod_isFree_10 ?_
    refine gx_bipush C (v := 9) d_Mod_isFree_13 (by decide) ?_
    refine gx_iload_n C 2 d_Mod_isFree_15 rfl rfl ?_
    refine gx_imul C d_Mod_isFree_16 ?_
    refine gx_iload_n C 1 d_Mod_isFree_17 rfl rfl ?_
    refine gx_iadd C d_Mod_isFree_18 ?_
    obtain ⟨hi9, hf⟩ := gx_ck_some hf
    refine gx_zald C 30 1 (gx_w30 E _) rfl hi9 d_Mod_isFree_19 ?_
    refine gx_if_ne (tgt := 27) C d_Mod_isFree_20 (by decide) (fun h10 => ?_) (fun h10 => ?_)
    · have hf := (if_neg h10).symm.trans hf
      exact jc_CaseLayoutModel_isFree_27 C hR hr hlk a1 a2  x1 _ hf hk
    · have hf := (if_pos h10).symm.trans hf
      refine gx_iconst C (v := 1) d_Mod_isFree_23 (by decide) ?_
      refine gx_goto (tgt := 28) C d_Mod_isFree_24 (by decide) ?_
      exact jc_CaseLayoutModel_isFree_28 C hR hr hlk a1 a2 1 x1 _ hf hk

def f_CaseLayoutModel_stepsFrom (a1 : Int32) (a2 : Int32) (x : gx_S) : Option (Int32 × gx_S) :=
  gx_bd (f_CaseLayoutModel_isCell a1 a2 x) (fun r1 x1 => if r1 = 0 then (some (1000, x1)) else (gx_ck ((9 * a2) + a1) 81 (some (gx_gA x1 37 ((9 * a2) + a1 : Int32).toNatClampNeg, x1))))
abbrev rm_CaseLayoutModel_stepsFrom : Room := { frames := 2, cells := 0, slots := 0, locals := 44 }
set_option maxHeartbeats 4000000 in
set_option maxRecDepth 100000 in
theorem c_CaseLayoutModel_stepsFrom (l : Launch) (a1 : Int32) (a2 : Int32) (x : gx_S) (o : Int32 × gx_S) (hf : f_CaseLayoutModel_stepsFrom a1 a2 x = some o) : gx_Mi false l y_Mod_stepsFrom prog_10_method_29_code 3 (some .int) rm_CaseLayoutModel_stepsFrom (fun E => [.ref (gx_ad E 29), .int a1, .int a2]) x o.1 o.2 := by
  refine gx_meti (own := "CaseLayoutModel") (by decide) rfl (fun E => Nat.le_of_ble_eq_true rfl) (fun K E hl0 hR hr hlk hk C => ?_)
  subst hl0
  unfold f_CaseLayoutModel_stepsFrom at hf
  show gx_G K E _ 0 0 x 0 [(0, .ref (gx_ad E 29)), (1, .int a1), (2, .int a2)] []
  refine gx_aload_n C 0 d_Mod_stepsFrom_0 rfl rfl ?_
  refine gx_iload_n C 1 d_Mod_stepsFrom_1 rfl rfl ?_
  refine gx_iload_n C 2 d_Mod_stepsFrom_2 rfl rfl ?_
  obtain ⟨r1, x1, hc1, hf⟩ := gx_bd_some hf
  refine gx_cVi (n2 := 0) (k2 := 0) C (As := [.int a1, .int a2]) (rest := []) 29 2 (c_CaseLayoutModel_isCell K.l a1 a2 x _ hc1) (Or.inr rfl) rfl (gx_goodV gw_767 gw_769 gs_16 gw_10 gw_770) (by decide +kernel) (gx_w29 E _) rfl (by rw [hR]; decide) rfl rfl (Nat.le_of_ble_eq_true rfl) d_Mod_stepsFrom_3 (by rw [hR]; decide) rfl rfl ?_
  refine gx_if_eq (tgt := 23) C d_Mod_stepsFrom_6 (by decide) (fun h2 => ?_) (fun h2 => ?_)
  · have hf := (if_pos h2).symm.trans hf
    refine gx_sipush C (v := 1000) d_Mod_stepsFrom_23 (by decide) ?_
    cases hf
    exact gx_iret C hr hlk hk d_Mod_stepsFrom_26
  · have hf := (if_neg h2).symm.trans hf
    refine gx_aload_n C 0 d_Mod_stepsFrom_9 rfl rfl ?_
    refine gx_get C iw_Mod 29 (gx_w29 E _) rfl 27 (by decide) gw_701 rfl rfl d_Mod_stepsFrom_10 ?_
    refine gx_bipush C (v := 9) d_Mod_stepsFrom_13 (by decide) ?_
    refine gx_iload_n C 2 d_Mod_stepsFrom_15 rfl rfl ?_
    refine gx_imul C d_Mod_stepsFrom_16 ?_
    refine gx_iload_n C 1 d_Mod_stepsFrom_17 rfl rfl ?_
    refine gx_iadd C d_Mod_stepsFrom_18 ?_
    obtain ⟨hi3, hf⟩ := gx_ck_some hf
    refine gx_iald C 47 0 (gx_w47 E _) rfl hi3 d_Mod_stepsFrom_19 ?_
    refine gx_goto (tgt := 26) C d_Mod_stepsFrom_20 (by decide) ?_
    cases hf
    exact gx_iret C hr hlk hk d_Mod_stepsFrom_26

def s_CaseLayoutModel_measure_2  (a : Int32 × gx_S) : Option ((Int32 × gx_S) ⊕ (Nat × Int32 × gx_S)) :=
  if 81 ≤ a.1 then (some (.inr (0, a.1, a.2))) else (gx_ck a.1 81 (some (.inl (a.1 + 1, gx_sA a.2 37 (a.1 : Int32).toNatClampNeg 1000))))
def s_CaseLayoutModel_measure_25  (a : Int32 × gx_S) : Option ((Int32 × gx_S) ⊕ (Nat × Int32 × gx_S)) :=
  if (gx_gI a.2 16) ≤ a.1 then (some (.inr (0, a.1, a.2))) else (gx_ck a.1 6 (gx_ck a.1 6 (gx_bd (f_CaseLayoutModel_isFree (gx_gA a.2 30 (a.1 : Int32).toNatClampNeg) (gx_gA a.2 31 (a.1 : Int32).toNatClampNeg) a.2) (fun r7 x7 => if r7 = 0 then (some (.inl (a.1 + 1, x7))) else (gx_ck a.1 6 (gx_ck a.1 6 (gx_ck ((9 * (gx_gA x7 31 (a.1 : Int32).toNatClampNeg)) + (gx_gA x7 30 (a.1 : Int32).toNatClampNeg)) 81 (some (.inl (a.1 + 1, gx_sA x7 37 ((9 * (gx_gA x7 31 (a.1 : Int32).toNatClampNeg)) + (gx_gA x7 30 (a.1 : Int32).toNatClampNeg) : Int32).toNatClampNeg 0))))))))))
def j_CaseLayoutModel_measure_261L90 (v1 : Int32) (v2 : Int32) (v3 : Int32) (v4 : Int32) (w0 : Int32) (x : gx_S) : Option ((Int32 × Int32 × gx_S) ⊕ (Nat × Int32 × Int32 × gx_S)) :=
  gx_bd (f_CaseLayoutModel_stepsFrom v3 v4 x) (fun r26 x26 => if w0 = r26 then (some (.inl (v1, v2 + 1, x26))) else (gx_bd (f_CaseLayoutModel_isFree v3 v4 x26) (fun r28 x28 => if r28 = 0 then (some (.inl (v1, v2 + 1, x28))) else (gx_ck ((9 * v4) + v3) 81 (some (.inl (1, v2 + 1, gx_sA x28 37 ((9 * v4) + v3 : Int32).toNatClampNeg w0)))))))
def j_CaseLayoutModel_measure_227L90 (v1 : Int32) (v2 : Int32) (v3 : Int32) (v4 : Int32) (w0 : Int32) (x : gx_S) : Option ((Int32 × Int32 × gx_S) ⊕ (Nat × Int32 × Int32 × gx_S)) :=
  gx_bd (f_CaseLayoutModel_stepsFrom v3 (v4 + 1) x) (fun r24 x24 => if w0 ≤ (r24 + 1) then (j_CaseLayoutModel_measure_261L90 v1 v2 v3 v4 w0 x24) else (gx_bd (f_CaseLayoutModel_stepsFrom v3 (v4 + 1) x24) (fun r31 x31 => j_CaseLayoutModel_measure_261L90 v1 v2 v3 v4 (r31 + 1) x31)))
def j_CaseLayoutModel_measure_193L90 (v1 : Int32) (v2 : Int32) (v3 : Int32) (v4 : Int32) (w0 : Int32) (x : gx_S) : Option ((Int32 × Int32 × gx_S) ⊕ (Nat × Int32 × Int32 × gx_S)) :=
  gx_bd (f_CaseLayoutModel_stepsFrom v3 (v4 - 1) x) (fun r22 x22 => if w0 ≤ (r22 + 1) then (j_CaseLayoutModel_measure_227L90 v1 v2 v3 v4 w0 x22) else (gx_bd (f_CaseLayoutModel_stepsFrom v3 (v4 - 1) x22) (fun r32 x32 => j_CaseLayoutModel_measure_227L90 v1 v2 v3 v4 (r32 + 1) x32)))
def j_CaseLayoutModel_measure_159L90 (v1 : Int32) (v2 : Int32) (v3 : Int32) (v4 : Int32) (w0 : Int32) (x : gx_S) : Option ((Int32 × Int32 × gx_S) ⊕ (Nat × Int32 × Int32 × gx_S)) :=
  gx_bd (f_CaseLayoutModel_stepsFrom (v3 + 1) v4 x) (fun r20 x20 => if w0 ≤ (r20 + 1) then (j_CaseLayoutModel_measure_193L90 v1 v2 v3 v4 w0 x20) else (gx_bd (f_CaseLayoutModel_stepsFrom (v3 + 1) v4 x20) (fun r33 x33 => j_CaseLayoutModel_measure_193L90 v1 v2 v3 v4 (r33 + 1) x33)))
def s_CaseLayoutModel_measure_90  (a : Int32 × Int32 × gx_S) : Option ((Int32 × Int32 × gx_S) ⊕ (Nat × Int32 × Int32 × gx_S)) :=
  if ((gx_gI a.2.2 12) * (gx_gI a.2.2 13)) ≤ a.2.1 then (some (.inr (0, a.1, a.2.1, a.2.2))) else (gx_nz (gx_gI a.2.2 12) (gx_nz (gx_gI a.2.2 12) (gx_bd (f_CaseLayoutModel_stepsFrom (a.2.1 - a.2.1 / (gx_gI a.2.2 12) * (gx_gI a.2.2 12)) (a.2.1 / (gx_gI a.2.2 12)) a.2.2) (fun r17 x17 => gx_bd (f_CaseLayoutModel_stepsFrom ((a.2.1 - a.2.1 / (gx_gI a.2.2 12) * (gx_gI a.2.2 12)) - 1) (a.2.1 / (gx_gI a.2.2 12)) x17) (fun r18 x18 => if r17 ≤ (r18 + 1) then (j_CaseLayoutModel_measure_159L90 a.1 a.2.1 (a.2.1 - a.2.1 / (gx_gI a.2.2 12) * (gx_gI a.2.2 12)) (a.2.1 / (gx_gI a.2.2 12)) r17 x18) else (gx_bd (f_CaseLayoutModel_stepsFrom ((a.2.1 - a.2.1 / (gx_gI a.2.2 12) * (gx_gI a.2.2 12)) - 1) (a.2.1 / (gx_gI a.2.2 12)) x18) (fun r34 x34 => j_CaseLayoutModel_measure_159L90 a.1 a.2.1 (a.2.1 - a.2.1 / (gx_gI a.2.2 12) * (gx_gI a.2.2 12)) (a.2.1 / (gx_gI a.2.2 12)) (r34 + 1) x34)))))))
def s_CaseLayoutModel_measure_82  (a : Int32 × gx_S) : Option ((Int32 × gx_S) ⊕ (Nat × Int32 × gx_S)) :=
  if a.1 = 0 then (some (.inr (0, a.1, a.2))) else (gx_bl (gx_it (s_CaseLayoutModel_measure_90 ) gx_fuel (0, 0, a.2)) (fun e35 => some (.inl (e35.2.1, e35.2.2.2))))
def f_CaseLayoutModel_measure  (x : gx_S) : Option (Int32 × gx_S) :=
  gx_bl (gx_it (s_CaseLayoutModel_measure_2 ) gx_fuel (0, x)) (fun e3 => gx_bl (gx_it (s_CaseLayoutModel_measure_25 ) gx_fuel (0, e3.2.2)) (fun e12 => gx_bl (gx_it (s_CaseLayoutModel_measure_82 ) gx_fuel (1, e12.2.2)) (fun e36 => some (0, e36.2.2))))
abbrev rm_CaseLayoutModel_measure : Room := { frames := 3, cells := 0, slots := 0, locals := 69 }
def pp_CaseLayoutModel_measure_2 (K : gx_K) (E : gx_E)  (a : Int32 × gx_S) : Prop := gx_G K E (gx_AB true E K.s.heap.size) 0 0 (a.2) 2 [(0, .ref (gx_ad E 29)), (1, .int a.1)] []
def pq_CaseLayoutModel_measure_2 (K : gx_K) (E : gx_E)  (b : Nat × Int32 × gx_S) : Prop := gx_G K E (gx_AB true E K.s.heap.size) 0 0 (b.2.2) 23 [(0, .ref (gx_ad E 29))] []
def pp_CaseLayoutModel_measure_25 (K : gx_K) (E : gx_E)  (a : Int32 × gx_S) : Prop := gx_G K E (gx_AB true E K.s.heap.size) 0 0 (a.2) 25 [(0, .ref (gx_ad E 29)), (1, .int a.1)] []
def pq_CaseLayoutModel_measure_25 (K : gx_K) (E : gx_E)  (b : Nat × Int32 × gx_S) : Prop := gx_G K E (gx_AB true E K.s.heap.size) 0 0 (b.2.2) 80 [(0, .ref (gx_ad E 29))] []
def pp_CaseLayoutModel_measure_90 (K : gx_K) (E : gx_E)  (a : Int32 × Int32 × gx_S) : Prop := gx_G K E (gx_AB true E K.s.heap.size) 0 0 (a.2.2) 90 [(0, .ref (gx_ad E 29)), (1, .int a.1), (2, .int a.2.1)] []
def pq_CaseLayoutModel_measure_90 (K : gx_K) (E : gx_E)  (b : Nat × Int32 × Int32 × gx_S) : Prop := gx_G K E (gx_AB true E K.s.heap.size) 0 0 (b.2.2.2) 310 [(0, .ref (gx_ad E 29)), (1, .int b.2.1)] []
def pp_CaseLayoutModel_measure_82 (K : gx_K) (E : gx_E)  (a : Int32 × gx_S) : Prop := gx_G K E (gx_AB true E K.s.heap.size) 0 0 (a.2) 82 [(0, .ref (gx_ad E 29)), (1, .int a.1)] []
def pq_CaseLayoutModel_measure_82 (K : gx_K) (E : gx_E)  (b : Nat × Int32 × gx_S) : Prop := gx_G K E (gx_AB true E K.s.heap.size) 0 0 (b.2.2) 313 [] []
set_option maxHeartbeats 4000000 in
set_option maxRecDepth 100000 in
theorem sc_CaseLayoutModel_measure_2 {K : gx_K} {E : gx_E} (C : gx_C K E "CaseLayoutModel" prog_10_method_30_code 6) (hR : K.R = rm_CaseLayoutModel_measure) (hr : K.meth.sig.returnType = none) (hlk : K.meth.locks = false)  (a : Int32 × gx_S) (o : (Int32 × gx_S) ⊕ (Nat × Int32 × gx_S)) (hf : s_CaseLayoutModel_measure_2  a = some o) (hk : gx_or (pp_CaseLayoutModel_measure_2 K E ) (pq_CaseLayoutModel_measure_2 K E ) o) : pp_CaseLayoutModel_measure_2 K E  a := by
  unfold s_CaseLayoutModel_measure_2 at hf
  unfold pp_CaseLayoutModel_measure_2
  refine gx_iload_n C 1 d_Mod_measure_2 rfl rfl ?_
  refine gx_bipush C (v := 81) d_Mod_measure_3 (by decide) ?_
  refine gx_icmp_ge (tgt := 23) C d_Mod_measure_5 (by decide) (fun h1 => ?_) (fun h1 => ?_)
  · have hf := (if_pos h1).symm.trans hf
    cases hf
    have hk : pq_CaseLayoutModel_measure_2 K E  _ := hk
    unfold pq_CaseLayoutModel_measure_2 at hk
    refine gx_lv (lv' := [(0, .ref (gx_ad E 29))]) [0] rfl ?_
    exact hk
  · have hf := (if_neg h1).symm.trans hf
    refine gx_aload_n C 0 d_Mod_measure_8 rfl rfl ?_
    refine gx_get C iw_Mod 29 (gx_w29 E _) rfl 27 (by decide) gw_701 rfl rfl d_Mod_measure_9 ?_
    refine gx_iload_n C 1 d_Mod_measure_12 rfl rfl ?_
    refine gx_sipush C (v := 1000) d_Mod_measure_13 (by decide) ?_
    obtain ⟨hi2, hf⟩ := gx_ck_some hf
    refine gx_iast C (x' := gx_sA a.2 37 (a.1 : Int32).toNatClampNeg 1000) 47 0 (gx_w47 E _) rfl hi2 (gx_q47 E _ _ _) d_Mod_measure_16 ?_
    refine gx_iinc C (v := a.1 + 1) (lv' := [(1, .int (a.1 + 1)), (0, .ref (gx_ad E 29))]) 1 d_Mod_measure_17 rfl rfl (by decide) rfl ?_
    refine gx_goto (tgt := 2) C d_Mod_measure_20 (by decide) ?_
    cases hf
    refine gx_lv (lv' := [(0, .ref (gx_ad E 29)), (1, .int (a.1 + 1))]) [1, 0] rfl ?_
    exact hk
set_option maxHeartbeats 4000000 in
set_option maxRecDepth 100000 in
theorem sc_CaseLayoutModel_measure_25 {K : gx_K} {E : gx_E} (C : gx_C K E "CaseLayoutModel" prog_10_method_30_code 6) (hR : K.R = rm_CaseLayoutModel_measure) (hr : K.meth.sig.returnType = none) (hlk : K.meth.locks = false)  (a : Int32 × gx_S) (o : (Int32 × gx_S) ⊕ (Nat × Int32 × gx_S)) (hf : s_CaseLayoutModel_measure_25  a = some o) (hk : gx_or (pp_CaseLayoutModel_measure_25 K E ) (pq_CaseLayoutModel_measure_25 K E ) o) : pp_CaseLayoutModel_measure_25 K E  a := by
  unfold s_CaseLayoutModel_measure_25 at hf
  unfold pp_CaseLayoutModel_measure_25
  refine gx_iload_n C 1 d_Mod_measure_25 rfl rfl ?_
  refine gx_aload_n C 0 d_Mod_measure_26 rfl rfl ?_
  refine gx_get C iw_Mod 29 (gx_w29 E _) rfl 15 (by decide) gw_689 rfl rfl d_Mod_measure_27 ?_
  refine gx_icmp_ge (tgt := 80) C d_Mod_measure_30 (by decide) (fun h4 => ?_) (fun h4 => ?_)
  · have hf := (if_pos h4).symm.trans hf
    cases hf
    have hk : pq_CaseLayoutModel_measure_25 K E  _ := hk
    unfold pq_CaseLayoutModel_measure_25 at hk
    refine gx_lv (lv' := [(0, .ref (gx_ad E 29))]) [0] rfl ?_
    exact hk
  · have hf := (if_neg h4).symm.trans hf
    refine gx_aload_n C 0 d_Mod_measure_33 rfl rfl ?_
    refine gx_aload_n C 0 d_Mod_measure_34 rfl rfl ?_
    refine gx_get C iw_Mod 29 (gx_w29 E _) rfl 16 (by decide) gw_690 rfl rfl d_Mod_measure_35 ?_
    refine gx_iload_n C 1 d_Mod_measure_38 rfl rfl ?_
    obtain ⟨hi5, hf⟩ := gx_ck_some hf
    refine gx_iald C 40 0 (gx_w40 E _) rfl hi5 d_Mod_measure_39 ?_
    refine gx_aload_n C 0 d_Mod_measure_40 rfl rfl ?_
    refine gx_get C iw_Mod 29 (gx_w29 E _) rfl 17 (by decide) gw_691 rfl rfl d_Mod_measure_41 ?_
    refine gx_iload_n C 1 d_Mod_measure_44 rfl rfl ?_
    obtain ⟨hi6, hf⟩ := gx_ck_some hf
    refine gx_iald C 41 0 (gx_w41 E _) rfl hi6 d_Mod_measure_45 ?_
    obtain ⟨r7, x7, hc7, hf⟩ := gx_bd_some hf
    refine gx_cVi (n2 := 0) (k2 := 0) C (As := [.int (gx_gA a.2 30 (a.1 : Int32).toNatClampNeg), .int (gx_gA a.2 31 (a.1 : Int32).toNatClampNeg)]) (rest := []) 29 2 (c_CaseLayoutModel_isFree K.l (gx_gA a.2 30 (a.1 : Int32).toNatClampNeg) (gx_gA a.2 31 (a.1 : Int32).toNatClampNeg) a.2 _ hc7) (Or.inl rfl) rfl (gx_goodV gw_856 gw_858 gs_27 gw_10 gw_859) (by decide +kernel) (gx_w29 E _) rfl (by rw [hR]; decide) rfl rfl (Nat.le_of_ble_eq_true rfl) d_Mod_measure_46 (by rw [hR]; decide) rfl rfl ?_
    refine gx_if_eq (tgt := 74) C d_Mod_measure_49 (by decide) (fun h8 => ?_) (fun h8 => ?_)
    · have hf := (if_pos h8).symm.trans hf
      refine gx_iinc C (v := a.1 + 1) (lv' := [(1, .int (a.1 + 1)), (0, .ref (gx_ad E 29))]) 1 d_Mod_measure_74 rfl rfl (by decide) rfl ?_
      refine gx_goto (tgt := 25) C d_Mod_measure_77 (by decide) ?_
      cases hf
      refine gx_lv (lv' := [(0, .ref (gx_ad E 29)), (1, .int (a.1 + 1))]) [1, 0] rfl ?_
      exact hk
    · have hf := (if_neg h8).symm.trans hf
      refine gx_aload_n C 0 d_Mod_measure_52 rfl rfl ?_
      refine gx_get C iw_Mod 29 (gx_w29 E _) rfl 27 (by decide) gw_701 rfl rfl d_Mod_measure_53 ?_
      refine gx_bipush C (v := 9) d_Mod_measure_56 (by decide) ?_
      refine gx_aload_n C 0 d_Mod_measure_58 rfl rfl ?_
      refine gx_get C iw_Mod 29 (gx_w29 E _) rfl 17 (by decide) gw_691 rfl rfl d_Mod_measure_59 ?_
      refine gx_iload_n C 1 d_Mod_measure_62 rfl rfl ?_
      obtain ⟨hi9, hf⟩ := gx_ck_some hf
      refine gx_iald C 41 0 (gx_w41 E _) rfl hi9 d_Mod_measure_63 ?_
      refine gx_imul C d_Mod_measure_64 ?_
      refine gx_aload_n C 0 d_Mod_measure_65 rfl rfl ?_
      refine gx_get C iw_Mod 29 (gx_w29 E _) rfl 16 (by decide) gw_690 rfl rfl d_Mod_measure_66 ?_
      refine gx_iload_n C 1 d_Mod_measure_69 rfl rfl ?_
      obtain ⟨hi10, hf⟩ := gx_ck_some hf
      refine gx_iald C 40 0 (gx_w40 E _) rfl hi10 d_Mod_measure_70 ?_
      refine gx_iadd C d_Mod_measure_71 ?_
      refine gx_iconst C (v := 0) d_Mod_measure_72 (by decide) ?_
      obtain ⟨hi11, hf⟩ := gx_ck_some hf
      refine gx_iast C (x' := gx_sA x7 37 ((9 * (gx_gA x7 31 (a.1 : Int32).toNatClampNeg)) + (gx_gA x7 30 (a.1 : Int32).toNatClampNeg) : Int32).toNatClampNeg 0) 47 0 (gx_w47 E _) rfl hi11 (gx_q47 E _ _ _) d_Mod_measure_73 ?_
      refine gx_iinc C (v := a.1 + 1) (lv' := [(1, .int (a.1 + 1)), (0, .ref (gx_ad E 29))]) 1 d_Mod_measure_74 rfl rfl (by decide) rfl ?_
      refine gx_goto (tgt := 25) C d_Mod_measure_77 (by decide) ?_
      cases hf
      refine gx_lv (lv' := [(0, .ref (gx_ad E 29)), (1, .int (a.1 + 1))]) [1, 0] rfl ?_
      exact hk
set_option maxHeartbeats 4000000 in
set_option maxRecDepth 100000 in
theorem jc_CaseLayoutModel_measure_261L90 {K : gx_K} {E : gx_E} (C : gx_C K E "CaseLayoutModel" prog_10_method_30_code 6) (hR : K.R = rm_CaseLayoutModel_measure) (hr : K.meth.sig.returnType = none) (hlk : K.meth.locks = false) (v1 : Int32) (v2 : Int32) (v3 : Int32) (v4 : Int32) (w0 : Int32) (x : gx_S) (o : (Int32 × Int32 × gx_S) ⊕ (Nat × Int32 × Int32 × gx_S)) (hf : j_CaseLayoutModel_measure_261L90 v1 v2 v3 v4 w0 x = some o) (hk : gx_or (pp_CaseLayoutModel_measure_90 K E ) (pq_CaseLayoutModel_measure_90 K E ) o) : gx_G K E (gx_AB true E K.s.heap.size) 0 0 x 261 [(0, .ref (gx_ad E 29)), (1, .int v1), (2, .int v2), (3, .int v3), (4, .int v4)] [.int w0] := by
  unfold j_CaseLayoutModel_measure_261L90 at hf
  refine gx_istore C (lv' := [(5, .int w0), (0, .ref (gx_ad E 29)), (1, .int v1), (2, .int v2), (3, .int v3), (4, .int v4)]) d_Mod_measure_261 (by decide) rfl ?_
  refine gx_iload C 0 d_Mod_measure_263 rfl ?_
  refine gx_aload_n C 1 d_Mod_measure_265 rfl rfl ?_
  refine gx_iload_n C 4 d_Mod_measure_266 rfl rfl ?_
  refine gx_iload C 5 d_Mod_measure_267 rfl ?_
  obtain ⟨r26, x26, hc26, hf⟩ := gx_bd_some hf
  refine gx_cVi (n2 := 0) (k2 := 0) C (As := [.int v3, .int v4]) (rest := [.int w0]) 29 2 (c_CaseLayoutModel_stepsFrom K.l v3 v4 x _ hc26) (Or.inl rfl) rfl (gx_goodV gw_860 gw_862 gs_28 gw_10 gw_863) (by decide +kernel) (gx_w29 E _) rfl (by rw [hR]; decide) rfl rfl (Nat.le_of_ble_eq_true rfl) d_Mod_measure_269 (by rw [hR]; decide) rfl rfl ?_
  refine gx_icmp_eq (tgt := 304) C d_Mod_measure_272 (by decide) (fun h27 => ?_) (fun h27 => ?_)
  · have hf := (if_pos h27).symm.trans hf
    refine gx_iinc C (v := v2 + 1) (lv' := [(2, .int (v2 + 1)), (5, .int w0), (0, .ref (gx_ad E 29)), (1, .int v1), (3, .int v3), (4, .int v4)]) 3 d_Mod_measure_304 rfl rfl (by decide) rfl ?_
    refine gx_goto (tgt := 90) C d_Mod_measure_307 (by decide) ?_
    cases hf
    refine gx_lv (lv' := [(0, .ref (gx_ad E 29)), (1, .int v1), (2, .int (v2 + 1))]) [2, 3, 0] rfl ?_
    exact hk
  · have hf := (if_neg h27).symm.trans hf
    refine gx_aload_n C 1 d_Mod_measure_275 rfl rfl ?_
    refine gx_iload_n C 4 d_Mod_measure_276 rfl rfl ?_
    refine gx_iload C 5 d_Mod_measure_277 rfl ?_
    obtain ⟨r28, x28, hc28, hf⟩ := gx_bd_some hf
    refine gx_cVi (n2 := 0) (k2 := 0) C (As := [.int v3, .int v4]) (rest := []) 29 2 (c_CaseLayoutModel_isFree K.l v3 v4 x26 _ hc28) (Or.inl rfl) rfl (gx_goodV gw_856 gw_858 gs_27 gw_10 gw_859) (by decide +kernel) (gx_w29 E _) rfl (by rw [hR]; decide) rfl rfl (Nat.le_of_ble_eq_true rfl) d_Mod_measure_279 (by rw [hR]; decide) rfl rfl ?_
    refine gx_if_ne (tgt := 288) C d_Mod_measure_282 (by decide) (fun h29 => ?_) (fun h29 => ?_)
    · have hf := (if_neg h29).symm.trans hf
      refine gx_aload_n C 1 d_Mod_measure_288 rfl rfl ?_
      refine gx_get C iw_Mod 29 (gx_w29 E _) rfl 27 (by decide) gw_701 rfl rfl d_Mod_measure_289 ?_
      refine gx_bipush C (v := 9) d_Mod_measure_292 (by decide) ?_
      refine gx_iload C 5 d_Mod_measure_294 rfl ?_
      refine gx_imul C d_Mod_measure_296 ?_
      refine gx_iload_n C 4 d_Mod_measure_297 rfl rfl ?_
      refine gx_iadd C d_Mod_measure_298 ?_
      refine gx_iload C 0 d_Mod_measure_299 rfl ?_
      obtain ⟨hi30, hf⟩ := gx_ck_some hf
      refine gx_iast C (x' := gx_sA x28 37 ((9 * v4) + v3 : Int32).toNatClampNeg w0) 47 0 (gx_w47 E _) rfl hi30 (gx_q47 E _ _ _) d_Mod_measure_301 ?_
      refine gx_iconst C (v := 1) d_Mod_measure_302 (by decide) ?_
      refine gx_istore_n C (lv' := [(1, .int 1), (5, .int w0), (0, .ref (gx_ad E 29)), (2, .int v2), (3, .int v3), (4, .int v4)]) d_Mod_measure_303 rfl (by decide) rfl ?_
      refine gx_iinc C (v := v2 + 1) (lv' := [(2, .int (v2 + 1)), (1, .int 1), (5, .int w0), (0, .ref (gx_ad E 29)), (3, .int v3), (4, .int v4)]) 3 d_Mod_measure_304 rfl rfl (by decide) rfl ?_
      refine gx_goto (tgt := 90) C d_Mod_measure_307 (by decide) ?_
      cases hf
      refine gx_lv (lv' := [(0, .ref (gx_ad E 29)), (1, .int 1), (2, .int (v2 + 1))]) [3, 1, 0] rfl ?_
      exact hk
    · have hf := (if_pos h29).symm.trans hf
      refine gx_goto (tgt := 304) C d_Mod_measure_285 (by decide) ?_
      refine gx_iinc C (v := v2 + 1) (lv' := [(2, .int (v2 + 1)), (5, .int w0), (0, .ref (gx_ad E 29)), (1, .int v1), (3, .int v3), (4, .int v4)]) 3 d_Mod_measure_304 rfl rfl (by decide) rfl ?_
      refine gx_goto (tgt := 90) C d_Mod_measure_307 (by decide) ?_
      cases hf
      refine gx_lv (lv' := [(0, .ref (gx_ad E 29)), (1, .int v1), (2, .int (v2 + 1))]) [2, 3, 0] rfl ?_
      exact hk
set_option maxHeartbeats 4000000 in
set_option maxRecDepth 100000 in
theorem jc_CaseLayoutModel_measure_227L90 {K : gx_K} {E : gx_E} (C : gx_C K E "CaseLayoutModel" prog_10_method_30_code 6) (hR : K.R = rm_CaseLayoutModel_measure) (hr : K.meth.sig.returnType = none) (hlk : K.meth.locks = false) (v1 : Int32) (v2 : Int32) (v3 : Int32) (v4 : Int32) (w0 : Int32) (x : gx_S) (o : (Int32 × Int32 × gx_S) ⊕ (Nat × Int32 × Int32 × gx_S)) (hf : j_CaseLayoutModel_measure_227L90 v1 v2 v3 v4 w0 x = some o) (hk : gx_or (pp_CaseLayoutModel_measure_90 K E ) (pq_CaseLayoutModel_measure_90 K E ) o) : gx_G K E (gx_AB true E K.s.heap.size) 0 0 x 227 [(0, .ref (gx_ad E 29)), (1, .int v1), (2, .int v2), (3, .int v3), (4, .int v4)] [.int w0] := by
  unfold j_CaseLayoutModel_measure_227L90 at hf
  refine gx_istore C (lv' := [(5, .int w0), (0, .ref (gx_ad E 29)), (1, .int v1), (2, .int v2), (3, .int v3), (4, .int v4)]) d_Mod_measure_227 (by decide) rfl ?_
  refine gx_aload_n C 1 d_Mod_measure_229 rfl rfl ?_
  refine gx_iload_n C 4 d_Mod_measure_230 rfl rfl ?_
  refine gx_iload C 5 d_Mod_measure_231 rfl ?_
  refine gx_iconst C (v := 1) d_Mod_measure_233 (by decide) ?_
  refine gx_iadd C d_Mod_measure_234 ?_
  obtain ⟨r24, x24, hc24, hf⟩ := gx_bd_some hf
  refine gx_cVi (n2 := 0) (k2 := 0) C (As := [.int v3, .int (v4 + 1)]) (rest := []) 29 2 (c_CaseLayoutModel_stepsFrom K.l v3 (v4 + 1) x _ hc24) (Or.inl rfl) rfl (gx_goodV gw_860 gw_862 gs_28 gw_10 gw_863) (by decide +kernel) (gx_w29 E _) rfl (by rw [hR]; decide) rfl rfl (Nat.le_of_ble_eq_true rfl) d_Mod_measure_235 (by rw [hR]; decide) rfl rfl ?_
  refine gx_iconst C (v := 1) d_Mod_measure_238 (by decide) ?_
  refine gx_iadd C d_Mod_measure_239 ?_
  refine gx_iload C 0 d_Mod_measure_240 rfl ?_
  refine gx_icmp_ge (tgt := 259) C d_Mod_measure_242 (by decide) (fun h25 => ?_) (fun h25 => ?_)
  · have hf := (if_pos h25).symm.trans hf
    refine gx_iload C 0 d_Mod_measure_259 rfl ?_
    refine gx_lv (lv' := [(0, .ref (gx_ad E 29)), (1, .int v1), (2, .int v2), (3, .int v3), (4, .int v4)]) [1, 2, 3, 4, 5] rfl ?_
    exact jc_CaseLayoutModel_measure_261L90 C hR hr hlk v1 v2 v3 v4 w0 x24 _ hf hk
  · have hf := (if_neg h25).symm.trans hf
    refine gx_aload_n C 1 d_Mod_measure_245 rfl rfl ?_
    refine gx_iload_n C 4 d_Mod_measure_246 rfl rfl ?_
    refine gx_iload C 5 d_Mod_measure_247 rfl ?_
    refine gx_iconst C (v := 1) d_Mod_measure_249 (by decide) ?_
    refine gx_iadd C d_Mod_measure_250 ?_
    obtain ⟨r31, x31, hc31, hf⟩ := gx_bd_some hf
    refine gx_cVi (n2 := 0) (k2 := 0) C (As := [.int v3, .int (v4 + 1)]) (rest := []) 29 2 (c_CaseLayoutModel_stepsFrom K.l v3 (v4 + 1) x24 _ hc31) (Or.inl rfl) rfl (gx_goodV gw_860 gw_862 gs_28 gw_10 gw_863) (by decide +kernel) (gx_w29 E _) rfl (by rw [hR]; decide) rfl rfl (Nat.le_of_ble_eq_true rfl) d_Mod_measure_251 (by rw [hR]; decide) rfl rfl ?_
    refine gx_iconst C (v := 1) d_Mod_measure_254 (by decide) ?_
    refine gx_iadd C d_Mod_measure_255 ?_
    refine gx_goto (tgt := 261) C d_Mod_measure_256 (by decide) ?_
    refine gx_lv (lv' := [(0, .ref (gx_ad E 29)), (1, .int v1), (2, .int v2), (3, .int v3), (4, .int v4)]) [1, 2, 3, 4, 5] rfl ?_
    exact jc_CaseLayoutModel_measure_261L90 C hR hr hlk v1 v2 v3 v4 (r31 + 1) x31 _ hf hk
set_option maxHeartbeats 4000000 in
set_option maxRecDepth 100000 in
theorem jc_CaseLayoutModel_measure_193L90 {K : gx_K} {E : gx_E} (C : gx_C K E "CaseLayoutModel" prog_10_method_30_code 6) (hR : K.R = rm_CaseLayoutModel_measure) (hr : K.meth.sig.returnType = none) (hlk : K.meth.locks = false) (v1 : Int32) (v2 : Int32) (v3 : Int32) (v4 : Int32) (w0 : Int32) (x : gx_S) (o : (Int32 × Int32 × gx_S) ⊕ (Nat × Int32 × Int32 × gx_S)) (hf : j_CaseLayoutModel_measure_193L90 v1 v2 v3 v4 w0 x = some o) (hk : gx_or (pp_CaseLayoutModel_measure_90 K E ) (pq_CaseLayoutModel_measure_90 K E ) o) : gx_G K E (gx_AB true E K.s.heap.size) 0 0 x 193 [(0, .ref (gx_ad E 29)), (1, .int v1), (2, .int v2), (3, .int v3), (4, .int v4)] [.int w0] := by
  unfold j_CaseLayoutModel_measure_193L90 at hf
  refine gx_istore C (lv' := [(5, .int w0), (0, .ref (gx_ad E 29)), (1, .int v1), (2, .int v2), (3, .int v3), (4, .int v4)]) d_Mod_measure_193 (by decide) rfl ?_
  refine gx_aload_n C 1 d_Mod_measure_195 rfl rfl ?_
  refine gx_iload_n C 4 d_Mod_measure_196 rfl rfl ?_
  refine gx_iload C 5 d_Mod_measure_197 rfl ?_
  refine gx_iconst C (v := 1) d_Mod_measure_199 (by decide) ?_
  refine gx_isub C d_Mod_measure_200 ?_
  obtain ⟨r22, x22, hc22, hf⟩ := gx_bd_some hf
  refine gx_cVi (n2 := 0) (k2 := 0) C (As := [.int v3, .int (v4 - 1)]) (rest := []) 29 2 (c_CaseLayoutModel_stepsFrom K.l v3 (v4 - 1) x _ hc22) (Or.inl rfl) rfl (gx_goodV gw_860 gw_862 gs_28 gw_10 gw_863) (by decide +kernel) (gx_w29 E _) rfl (by rw [hR]; decide) rfl rfl (Nat.le_of_ble_eq_true rfl) d_Mod_measure_201 (by rw [hR]; decide) rfl rfl ?_
  refine gx_iconst C (v := 1) d_Mod_measure_204 (by decide) ?_
  refine gx_iadd C d_Mod_measure_205 ?_
  refine gx_iload C 0 d_Mod_measure_206 rfl ?_
  refine gx_icmp_ge (tgt := 225) C d_Mod_measure_208 (by decide) (fun h23 => ?_) (fun h23 => ?_)
  · have hf := (if_pos h23).symm.trans hf
    refine gx_iload C 0 d_Mod_measure_225 rfl ?_
    refine gx_lv (lv' := [(0, .ref (gx_ad E 29)), (1, .int v1), (2, .int v2), (3, .int v3), (4, .int v4)]) [1, 2, 3, 4, 5] rfl ?_
    exact jc_CaseLayoutModel_measure_227L90 C hR hr hlk v1 v2 v3 v4 w0 x22 _ hf hk
  · have hf := (if_neg h23).symm.trans hf
    refine gx_aload_n C 1 d_Mod_measure_211 rfl rfl ?_
    refine gx_iload_n C 4 d_Mod_measure_212 rfl rfl ?_
    refine gx_iload C 5 d_Mod_measure_213 rfl ?_
    refine gx_iconst C (v := 1) d_Mod_measure_215 (by decide) ?_
    refine gx_isub C d_Mod_measure_216 ?_
    obtain ⟨r32, x32, hc32, hf⟩ := gx_bd_some hf
    refine gx_cVi (n2 := 0) (k2 := 0) C (As := [.int v3, .int (v4 - 1)]) (rest := []) 29 2 (c_CaseLayoutModel_stepsFrom K.l v3 (v4 - 1) x22 _ hc32) (Or.inl rfl) rfl (gx_goodV gw_860 gw_862 gs_28 gw_10 gw_863) (by decide +kernel) (gx_w29 E _) rfl (by rw [hR]; decide) rfl rfl (Nat.le_of_ble_eq_true rfl) d_Mod_measure_217 (by rw [hR]; decide) rfl rfl ?_
    refine gx_iconst C (v := 1) d_Mod_measure_220 (by decide) ?_
    refine gx_iadd C d_Mod_measure_221 ?_
    refine gx_goto (tgt := 227) C d_Mod_measure_222 (by decide) ?_
    refine gx_lv (lv' := [(0, .ref (gx_ad E 29)), (1, .int v1), (2, .int v2), (3, .int v3), (4, .int v4)]) [1, 2, 3, 4, 5] rfl ?_
    exact jc_CaseLayoutModel_measure_227L90 C hR hr hlk v1 v2 v3 v4 (r32 + 1) x32 _ hf hk
set_option maxHeartbeats 4000000 in
set_option maxRecDepth 100000 in
theorem jc_CaseLayoutModel_measure_159L90 {K : gx_K} {E : gx_E} (C : gx_C K E "CaseLayoutModel" prog_10_method_30_code 6) (hR : K.R = rm_CaseLayoutModel_measure) (hr : K.meth.sig.returnType = none) (hlk : K.meth.locks = false) (v1 : Int32) (v2 : Int32) (v3 : Int32) (v4 : Int32) (w0 : Int32) (x : gx_S) (o : (Int32 × Int32 × gx_S) ⊕ (Nat × Int32 × Int32 × gx_S)) (hf : j_CaseLayoutModel_measure_159L90 v1 v2 v3 v4 w0 x = some o) (hk : gx_or (pp_CaseLayoutModel_measure_90 K E ) (pq_CaseLayoutModel_measure_90 K E ) o) : gx_G K E (gx_AB true E K.s.heap.size) 0 0 x 159 [(0, .ref (gx_ad E 29)), (1, .int v1), (2, .int v2), (3, .int v3), (4, .int v4)] [.int w0] := by
  unfold j_CaseLayoutModel_measure_159L90 at hf
  refine gx_istore C (lv' := [(5, .int w0), (0, .ref (gx_ad E 29)), (1, .int v1), (2, .int v2), (3, .int v3), (4, .int v4)]) d_Mod_measure_159 (by decide) rfl ?_
  refine gx_aload_n C 1 d_Mod_measure_161 rfl rfl ?_
  refine gx_iload_n C 4 d_Mod_measure_162 rfl rfl ?_
  refine gx_iconst C (v := 1) d_Mod_measure_163 (by decide) ?_
  refine gx_iadd C d_Mod_measure_164 ?_
  refine gx_iload C 5 d_Mod_measure_165 rfl ?_
  obtain ⟨r20, x20, hc20, hf⟩ := gx_bd_some hf
  refine gx_cVi (n2 := 0) (k2 := 0) C (As := [.int (v3 + 1), .int v4]) (rest := []) 29 2 (c_CaseLayoutModel_stepsFrom K.l (v3 + 1) v4 x _ hc20) (Or.inl rfl) rfl (gx_goodV gw_860 gw_862 gs_28 gw_10 gw_863) (by decide +kernel) (gx_w29 E _) rfl (by rw [hR]; decide) rfl rfl (Nat.le_of_ble_eq_true rfl) d_Mod_measure_167 (by rw [hR]; decide) rfl rfl ?_
  refine gx_iconst C (v := 1) d_Mod_measure_170 (by decide) ?_
  refine gx_iadd C d_Mod_measure_171 ?_
  refine gx_iload C 0 d_Mod_measure_172 rfl ?_
  refine gx_icmp_ge (tgt := 191) C d_Mod_measure_174 (by decide) (fun h21 => ?_) (fun h21 => ?_)
  · have hf := (if_pos h21).symm.trans hf
    refine gx_iload C 0 d_Mod_measure_191 rfl ?_
    refine gx_lv (lv' := [(0, .ref (gx_ad E 29)), (1, .int v1), (2, .int v2), (3, .int v3), (4, .int v4)]) [1, 2, 3, 4, 5] rfl ?_
    exact jc_CaseLayoutModel_measure_193L90 C hR hr hlk v1 v2 v3 v4 w0 x20 _ hf hk
  · have hf := (if_neg h21).symm.trans hf
    refine gx_aload_n C 1 d_Mod_measure_177 rfl rfl ?_
    refine gx_iload_n C 4 d_Mod_measure_178 rfl rfl ?_
    refine gx_iconst C (v := 1) d_Mod_measure_179 (by decide) ?_
    refine gx_iadd C d_Mod_measure_180 ?_
    refine gx_iload C 5 d_Mod_measure_181 rfl ?_
    obtain ⟨r33, x33, hc33, hf⟩ := gx_bd_some hf
    refine gx_cVi (n2 := 0) (k2 := 0) C (As := [.int (v3 + 1), .int v4]) (rest := []) 29 2 (c_CaseLayoutModel_stepsFrom K.l (v3 + 1) v4 x20 _ hc33) (Or.inl rfl) rfl (gx_goodV gw_860 gw_862 gs_28 gw_10 gw_863) (by decide +kernel) (gx_w29 E _) rfl (by rw [hR]; decide) rfl rfl (Nat.le_of_ble_eq_true rfl) d_Mod_measure_183 (by rw [hR]; decide) rfl rfl ?_
    refine gx_iconst C (v := 1) d_Mod_measure_186 (by decide) ?_
    refine gx_iadd C d_Mod_measure_187 ?_
    refine gx_goto (tgt := 193) C d_Mod_measure_188 (by decide) ?_
    refine gx_lv (lv' := [(0, .ref (gx_ad E 29)), (1, .int v1), (2, .int v2), (3, .int v3), (4, .int v4)]) [1, 2, 3, 4, 5] rfl ?_
    exact jc_CaseLayoutModel_measure_193L90 C hR hr hlk v1 v2 v3 v4 (r33 + 1) x33 _ hf hk
set_option maxHeartbeats 4000000 in
set_option maxRecDepth 100000 in
theorem sc_CaseLayoutModel_measure_90 {K : gx_K} {E : gx_E} (C : gx_C K E "CaseLayoutModel" prog_10_method_30_code 6) (hR : K.R = rm_CaseLayoutModel_measure) (hr : K.meth.sig.returnType = none) (hlk : K.meth.locks = false)  (a : Int32 × Int32 × gx_S) (o : (Int32 × Int32 × gx_S) ⊕ (Nat × Int32 × Int32 × gx_S)) (hf : s_CaseLayoutModel_measure_90  a = some o) (hk : gx_or (pp_CaseLayoutModel_measure_90 K E ) (pq_CaseLayoutModel_measure_90 K E ) o) : pp_CaseLayoutModel_measure_90 K E  a := by
  unfold s_CaseLayoutModel_measure_90 at hf
  unfold pp_CaseLayoutModel_measure_90
  refine gx_iload_n C 2 d_Mod_measure_90 rfl rfl ?_
  refine gx_aload_n C 0 d_Mod_measure_91 rfl rfl ?_
  refine gx_get C iw_Mod 29 (gx_w29 E _) rfl 1 (by decide) gw_675 rfl rfl d_Mod_measure_92 ?_
  refine gx_aload_n C 0 d_Mod_measure_95 rfl rfl ?_
  refine gx_get C iw_Mod 29 (gx_w29 E _) rfl 2 (by decide) gw_676 rfl rfl d_Mod_measure_96 ?_
  refine gx_imul C d_Mod_measure_99 ?_
  refine gx_icmp_ge (tgt := 310) C d_Mod_measure_100 (by decide) (fun h14 => ?_) (fun h14 => ?_)
  · have hf := (if_pos h14).symm.trans hf
    cases hf
    have hk : pq_CaseLayoutModel_measure_90 K E  _ := hk
    unfold pq_CaseLayoutModel_measure_90 at hk
    refine gx_lv (lv' := [(0, .ref (gx_ad E 29)), (1, .int a.1)]) [0, 1] rfl ?_
    exact hk
  · have hf := (if_neg h14).symm.trans hf
    refine gx_iload_n C 2 d_Mod_measure_103 rfl rfl ?_
    refine gx_aload_n C 0 d_Mod_measure_104 rfl rfl ?_
    refine gx_get C iw_Mod 29 (gx_w29 E _) rfl 1 (by decide) gw_675 rfl rfl d_Mod_measure_105 ?_
    obtain ⟨hz15, hf⟩ := gx_nz_some hf
    refine gx_irem C d_Mod_measure_108 hz15 ?_
    refine gx_istore_n C (lv' := [(3, .int (a.2.1 - a.2.1 / (gx_gI a.2.2 12) * (gx_gI a.2.2 12))), (0, .ref (gx_ad E 29)), (1, .int a.1), (2, .int a.2.1)]) d_Mod_measure_109 rfl (by decide) rfl ?_
    refine gx_iload_n C 3 d_Mod_measure_110 rfl rfl ?_
    refine gx_aload_n C 1 d_Mod_measure_111 rfl rfl ?_
    refine gx_get C iw_Mod 29 (gx_w29 E _) rfl 1 (by decide) gw_675 rfl rfl d_Mod_measure_112 ?_
    obtain ⟨hz16, hf⟩ := gx_nz_some hf
    refine gx_idiv C d_Mod_measure_115 hz16 ?_
    refine gx_istore C (lv' := [(4, .int (a.2.1 / (gx_gI a.2.2 12))), (3, .int (a.2.1 - a.2.1 / (gx_gI a.2.2 12) * (gx_gI a.2.2 12))), (0, .ref (gx_ad E 29)), (1, .int a.1), (2, .int a.2.1)]) d_Mod_measure_116 (by decide) rfl ?_
    refine gx_aload_n C 2 d_Mod_measure_118 rfl rfl ?_
    refine gx_iload_n C 1 d_Mod_measure_119 rfl rfl ?_
    refine gx_iload C 0 d_Mod_measure_120 rfl ?_
    obtain ⟨r17, x17, hc17, hf⟩ := gx_bd_some hf
    refine gx_cVi (n2 := 0) (k2 := 0) C (As := [.int (a.2.1 - a.2.1 / (gx_gI a.2.2 12) * (gx_gI a.2.2 12)), .int (a.2.1 / (gx_gI a.2.2 12))]) (rest := []) 29 2 (c_CaseLayoutModel_stepsFrom K.l (a.2.1 - a.2.1 / (gx_gI a.2.2 12) * (gx_gI a.2.2 12)) (a.2.1 / (gx_gI a.2.2 12)) a.2.2 _ hc17) (Or.inl rfl) rfl (gx_goodV gw_860 gw_862 gs_28 gw_10 gw_863) (by decide +kernel) (gx_w29 E _) rfl (by rw [hR]; decide) rfl rfl (Nat.le_of_ble_eq_true rfl) d_Mod_measure_122 (by rw [hR]; decide) rfl rfl ?_
    refine gx_istore C (lv' := [(5, .int r17), (4, .int (a.2.1 / (gx_gI a.2.2 12))), (3, .int (a.2.1 - a.2.1 / (gx_gI a.2.2 12) * (gx_gI a.2.2 12))), (0, .ref (gx_ad E 29)), (1, .int a.1), (2, .int a.2.1)]) d_Mod_measure_125 (by decide) rfl ?_
    refine gx_aload_n C 3 d_Mod_measure_127 rfl rfl ?_
    refine gx_iload_n C 2 d_Mod_measure_128 rfl rfl ?_
    refine gx_iconst C (v := 1) d_Mod_measure_129 (by decide) ?_
    refine gx_isub C d_Mod_measure_130 ?_
    refine gx_iload C 1 d_Mod_measure_131 rfl ?_
    obtain ⟨r18, x18, hc18, hf⟩ := gx_bd_some hf
    refine gx_cVi (n2 := 0) (k2 := 0) C (As := [.int ((a.2.1 - a.2.1 / (gx_gI a.2.2 12) * (gx_gI a.2.2 12)) - 1), .int (a.2.1 / (gx_gI a.2.2 12))]) (rest := []) 29 2 (c_CaseLayoutModel_stepsFrom K.l ((a.2.1 - a.2.1 / (gx_gI a.2.2 12) * (gx_gI a.2.2 12)) - 1) (a.2.1 / (gx_gI a.2.2 12)) x17 _ hc18) (Or.inl rfl) rfl (gx_goodV gw_860 gw_862 gs_28 gw_10 gw_863) (by decide +kernel) (gx_w29 E _) rfl (by rw [hR]; decide) rfl rfl (Nat.le_of_ble_eq_true rfl) d_Mod_measure_133 (by rw [hR]; decide) rfl rfl ?_
    refine gx_iconst C (v := 1) d_Mod_measure_136 (by decide) ?_
    refine gx_iadd C d_Mod_measure_137 ?_
    refine gx_iload C 0 d_Mod_measure_138 rfl ?_
    refine gx_icmp_ge (tgt := 157) C d_Mod_measure_140 (by decide) (fun h19 => ?_) (fun h19 => ?_)
    · have hf := (if_pos h19).symm.trans hf
      refine gx_iload C 0 d_Mod_measure_157 rfl ?_
      refine gx_lv (lv' := [(0, .ref (gx_ad E 29)), (1, .int a.1), (2, .int a.2.1), (3, .int (a.2.1 - a.2.1 / (gx_gI a.2.2 12) * (gx_gI a.2.2 12))), (4, .int (a.2.1 / (gx_gI a.2.2 12)))]) [3, 4, 5, 2, 1] rfl ?_
      exact jc_CaseLayoutModel_measure_159L90 C hR hr hlk a.1 a.2.1 (a.2.1 - a.2.1 / (gx_gI a.2.2 12) * (gx_gI a.2.2 12)) (a.2.1 / (gx_gI a.2.2 12)) r17 x18 _ hf hk
    · have hf := (if_neg h19).symm.trans hf
      refine gx_aload_n C 3 d_Mod_measure_143 rfl rfl ?_
      refine gx_iload_n C 2 d_Mod_measure_144 rfl rfl ?_
      refine gx_iconst C (v := 1) d_Mod_measure_145 (by decide) ?_
      refine gx_isub C d_Mod_measure_146 ?_
      refine gx_iload C 1 d_Mod_measure_147 rfl ?_
      obtain ⟨r34, x34, hc34, hf⟩ := gx_bd_some hf
      refine gx_cVi (n2 := 0) (k2 := 0) C (As := [.int ((a.2.1 - a.2.1 / (gx_gI a.2.2 12) * (gx_gI a.2.2 12)) - 1), .int (a.2.1 / (gx_gI a.2.2 12))]) (rest := []) 29 2 (c_CaseLayoutModel_stepsFrom K.l ((a.2.1 - a.2.1 / (gx_gI a.2.2 12) * (gx_gI a.2.2 12)) - 1) (a.2.1 / (gx_gI a.2.2 12)) x18 _ hc34) (Or.inl rfl) rfl (gx_goodV gw_860 gw_862 gs_28 gw_10 gw_863) (by decide +kernel) (gx_w29 E _) rfl (by rw [hR]; decide) rfl rfl (Nat.le_of_ble_eq_true rfl) d_Mod_measure_149 (by rw [hR]; decide) rfl rfl ?_
      refine gx_iconst C (v := 1) d_Mod_measure_152 (by decide) ?_
      refine gx_iadd C d_Mod_measure_153 ?_
      refine gx_goto (tgt := 159) C d_Mod_measure_154 (by decide) ?_
      refine gx_lv (lv' := [(0, .ref (gx_ad E 29)), (1, .int a.1), (2, .int a.2.1), (3, .int (a.2.1 - a.2.1 / (gx_gI a.2.2 12) * (gx_gI a.2.2 12))), (4, .int (a.2.1 / (gx_gI a.2.2 12)))]) [3, 4, 5, 2, 1] rfl ?_
      exact jc_CaseLayoutModel_measure_159L90 C hR hr hlk a.1 a.2.1 (a.2.1 - a.2.1 / (gx_gI a.2.2 12) * (gx_gI a.2.2 12)) (a.2.1 / (gx_gI a.2.2 12)) (r34 + 1) x34 _ hf hk
set_option maxHeartbeats 4000000 in
set_option maxRecDepth 100000 in
theorem sc_CaseLayoutModel_measure_82 {K : gx_K} {E : gx_E} (C : gx_C K E "CaseLayoutModel" prog_10_method_30_code 6) (hR : K.R = rm_CaseLayoutModel_measure) (hr : K.meth.sig.returnType = none) (hlk : K.meth.locks = false)  (a : Int32 × gx_S) (o : (Int32 × gx_S) ⊕ (Nat × Int32 × gx_S)) (hf : s_CaseLayoutModel_measure_82  a = some o) (hk : gx_or (pp_CaseLayoutModel_measure_82 K E ) (pq_CaseLayoutModel_measure_82 K E ) o) : pp_CaseLayoutModel_measure_82 K E  a := by
  unfold s_CaseLayoutModel_measure_82 at hf
  unfold pp_CaseLayoutModel_measure_82
  refine gx_iload_n C 1 d_Mod_measure_82 rfl rfl ?_
  refine gx_if_eq (tgt := 313) C d_Mod_measure_83 (by decide) (fun h13 => ?_) (fun h13 => ?_)
  · have hf := (if_pos h13).symm.trans hf
    cases hf
    have hk : pq_CaseLayoutModel_measure_82 K E  _ := hk
    unfold pq_CaseLayoutModel_measure_82 at hk
    refine gx_lv (lv' := []) [] rfl ?_
    exact hk
  · have hf := (if_neg h13).symm.trans hf
    refine gx_iconst C (v := 0) d_Mod_measure_86 (by decide) ?_
    refine gx_istore_n C (lv' := [(1, .int 0), (0, .ref (gx_ad E 29))]) d_Mod_measure_87 rfl (by decide) rfl ?_
    refine gx_iconst C (v := 0) d_Mod_measure_88 (by decide) ?_
    refine gx_istore_n C (lv' := [(2, .int 0), (1, .int 0), (0, .ref (gx_ad E 29))]) d_Mod_measure_89 rfl (by decide) rfl ?_
    refine gx_lv (lv' := [(0, .ref (gx_ad E 29)), (1, .int 0), (2, .int 0)]) [2, 1, 0] rfl ?_
    obtain ⟨e35, he35, hf⟩ := gx_bl_some hf
    refine (gx_loop (P := pp_CaseLayoutModel_measure_90 K E ) (Q := pq_CaseLayoutModel_measure_90 K E ) (fun a9 o9 h1 h2 => sc_CaseLayoutModel_measure_90 C hR hr hlk  a9 o9 h1 h2) gx_fuel (0, 0, a.2) e35 he35 ?_ : pp_CaseLayoutModel_measure_90 K E  (0, 0, a.2))
    unfold pq_CaseLayoutModel_measure_90
    refine gx_goto (tgt := 82) C d_Mod_measure_310 (by decide) ?_
    cases hf
    exact hk
set_option maxHeartbeats 4000000 in
set_option maxRecDepth 100000 in
theorem c_CaseLayoutModel_measure (l : Launch)  (x : gx_S) (o : Int32 × gx_S) (hf : f_CaseLayoutModel_measure  x = some o) : gx_Mv true l y_Mod_measure prog_10_method_30_code 6 rm_CaseLayoutModel_measure (fun E => [.ref (gx_ad E 29)]) x o.2 := by
  refine gx_metv (own := "CaseLayoutModel") (by decide) rfl (fun E => Nat.le_of_ble_eq_true rfl) (fun K E hl0 hR hr hlk hk C => ?_)
  subst hl0
  unfold f_CaseLayoutModel_measure at hf
  show gx_G K E _ 0 0 x 0 [(0, .ref (gx_ad E 29))] []
  refine gx_iconst C (v := 0) d_Mod_measure_0 (by decide) ?_
  refine gx_istore_n C (lv' := [(1, .int 0), (0, .ref (gx_ad E 29))]) d_Mod_measure_1 rfl (by decide) rfl ?_
  refine gx_lv (lv' := [(0, .ref (gx_ad E 29)), (1, .int 0)]) [1, 0] rfl ?_
  obtain ⟨e3, he3, hf⟩ := gx_bl_some hf
  refine (gx_loop (P := pp_CaseLayoutModel_measure_2 K E ) (Q := pq_CaseLayoutModel_measure_2 K E ) (fun a9 o9 h1 h2 => sc_CaseLayoutModel_measure_2 C hR hr hlk  a9 o9 h1 h2) gx_fuel (0, x) e3 he3 ?_ : pp_CaseLayoutModel_measure_2 K E  (0, x))
  unfold pq_CaseLayoutModel_measure_2
  refine gx_iconst C (v := 0) d_Mod_measure_23 (by decide) ?_
  refine gx_istore_n C (lv' := [(1, .int 0), (0, .ref (gx_ad E 29))]) d_Mod_measure_24 rfl (by decide) rfl ?_
  refine gx_lv (lv' := [(0, .ref (gx_ad E 29)), (1, .int 0)]) [1, 0] rfl ?_
  obtain ⟨e12, he12, hf⟩ := gx_bl_some hf
  refine (gx_loop (P := pp_CaseLayoutModel_measure_25 K E ) (Q := pq_CaseLayoutModel_measure_25 K E ) (fun a9 o9 h1 h2 => sc_CaseLayoutModel_measure_25 C hR hr hlk  a9 o9 h1 h2) gx_fuel (0, e3.2.2) e12 he12 ?_ : pp_CaseLayoutModel_measure_25 K E  (0, e3.2.2))
  unfold pq_CaseLayoutModel_measure_25
  refine gx_iconst C (v := 1) d_Mod_measure_80 (by decide) ?_
  refine gx_istore_n C (lv' := [(1, .int 1), (0, .ref (gx_ad E 29))]) d_Mod_measure_81 rfl (by decide) rfl ?_
  refine gx_lv (lv' := [(0, .ref (gx_ad E 29)), (1, .int 1)]) [1, 0] rfl ?_
  obtain ⟨e36, he36, hf⟩ := gx_bl_some hf
  refine (gx_loop (P := pp_CaseLayoutModel_measure_82 K E ) (Q := pq_CaseLayoutModel_measure_82 K E ) (fun a9 o9 h1 h2 => sc_CaseLayoutModel_measure_82 C hR hr hlk  a9 o9 h1 h2) gx_fuel (1, e12.2.2) e36 he36 ?_ : pp_CaseLayoutModel_measure_82 K E  (1, e12.2.2))
  unfold pq_CaseLayoutModel_measure_82
  cases hf
  exact gx_vret C hr hlk hk d_Mod_measure_313
