def s_CaseLayoutModel_escapes_4 (v1 : Int32) (a : Int32 × Int32 × gx_S) : Option ((Int32 × Int32 × gx_S) ⊕ (Nat × Int32 × Int32 × gx_S)) :=
  gx_ck v1 7 (if (gx_gA a.2.2 22 (v1 : Int32).toNatClampNeg) ≤ a.2.1 then (some (.inr (0, a.1, a.2.1, a.2.2))) else (if a.1 = 0 then (gx_ck v1 7 (gx_ck v1 7 (gx_bd (f_CaseLayoutModel_stepsFrom ((gx_gA a.2.2 32 (v1 : Int32).toNatClampNeg) + a.2.1) ((gx_gA a.2.2 33 (v1 : Int32).toNatClampNeg) - 1) a.2.2) (fun r6 x6 => if r6 ≤ (gx_gI x6 17) then (some (.inl (1, a.2.1 + 1, x6))) else (gx_ck v1 7 (gx_ck v1 7 (gx_ck v1 7 (gx_bd (f_CaseLayoutModel_stepsFrom ((gx_gA x6 32 (v1 : Int32).toNatClampNeg) + a.2.1) ((gx_gA x6 33 (v1 : Int32).toNatClampNeg) + (gx_gA x6 23 (v1 : Int32).toNatClampNeg)) x6) (fun r11 x11 => if (gx_gI x11 17) < r11 then (some (.inl (0, a.2.1 + 1, x11))) else (some (.inl (1, a.2.1 + 1, x11)))))))))))) else (some (.inl (1, a.2.1 + 1, a.2.2)))))
def s_CaseLayoutModel_escapes_91 (v1 : Int32) (a : Int32 × Int32 × gx_S) : Option ((Int32 × Int32 × gx_S) ⊕ (Nat × Int32 × Int32 × gx_S)) :=
  gx_ck v1 7 (if (gx_gA a.2.2 23 (v1 : Int32).toNatClampNeg) ≤ a.2.1 then (some (.inr (0, a.1, a.2.1, a.2.2))) else (if a.1 = 0 then (gx_ck v1 7 (gx_ck v1 7 (gx_bd (f_CaseLayoutModel_stepsFrom ((gx_gA a.2.2 32 (v1 : Int32).toNatClampNeg) - 1) ((gx_gA a.2.2 33 (v1 : Int32).toNatClampNeg) + a.2.1) a.2.2) (fun r19 x19 => if r19 ≤ (gx_gI x19 17) then (some (.inl (1, a.2.1 + 1, x19))) else (gx_ck v1 7 (gx_ck v1 7 (gx_ck v1 7 (gx_bd (f_CaseLayoutModel_stepsFrom ((gx_gA x19 32 (v1 : Int32).toNatClampNeg) + (gx_gA x19 22 (v1 : Int32).toNatClampNeg)) ((gx_gA x19 33 (v1 : Int32).toNatClampNeg) + a.2.1) x19) (fun r24 x24 => if (gx_gI x24 17) < r24 then (some (.inl (0, a.2.1 + 1, x24))) else (some (.inl (1, a.2.1 + 1, x24)))))))))))) else (some (.inl (1, a.2.1 + 1, a.2.2)))))
def f_CaseLayoutModel_escapes (a1 : Int32) (x : gx_S) : Option (Int32 × gx_S) :=
  gx_bl (gx_it (s_CaseLayoutModel_escapes_4 a1) gx_fuel (0, 0, x)) (fun e13 => gx_bl (gx_it (s_CaseLayoutModel_escapes_91 a1) gx_fuel (e13.2.1, 0, e13.2.2.2)) (fun e26 => gx_nb e26.2.1 (some (e26.2.1, e26.2.2.2))))
abbrev rm_CaseLayoutModel_escapes : Room := { frames := 3, cells := 0, slots := 0, locals := 66 }
def pp_CaseLayoutModel_escapes_4 (K : gx_K) (E : gx_E) (v1 : Int32) (a : Int32 × Int32 × gx_S) : Prop := gx_G K E (gx_AB false E K.s.heap.size) 0 0 (a.2.2) 4 [(0, .ref (gx_ad E 29)), (1, .int v1), (2, .int a.1), (3, .int a.2.1)] []
def pq_CaseLayoutModel_escapes_4 (K : gx_K) (E : gx_E) (v1 : Int32) (b : Nat × Int32 × Int32 × gx_S) : Prop := gx_G K E (gx_AB false E K.s.heap.size) 0 0 (b.2.2.2) 89 [(0, .ref (gx_ad E 29)), (1, .int v1), (2, .int b.2.1)] []
def pp_CaseLayoutModel_escapes_91 (K : gx_K) (E : gx_E) (v1 : Int32) (a : Int32 × Int32 × gx_S) : Prop := gx_G K E (gx_AB false E K.s.heap.size) 0 0 (a.2.2) 91 [(0, .ref (gx_ad E 29)), (1, .int v1), (2, .int a.1), (3, .int a.2.1)] []
def pq_CaseLayoutModel_escapes_91 (K : gx_K) (E : gx_E) (v1 : Int32) (b : Nat × Int32 × Int32 × gx_S) : Prop := gx_G K E (gx_AB false E K.s.heap.size) 0 0 (b.2.2.2) 176 [(2, .int b.2.1)] []
set_option maxHeartbeats 4000000 in
set_option maxRecDepth 100000 in
theorem sc_CaseLayoutModel_escapes_4 {K : gx_K} {E : gx_E} (C : gx_C K E "CaseLayoutModel" prog_10_method_31_code 4) (hR : K.R = rm_CaseLayoutModel_escapes) (hr : K.meth.sig.returnType = (some .boolean)) (hlk : K.meth.locks = false) (v1 : Int32) (a : Int32 × Int32 × gx_S) (o : (Int32 × Int32 × gx_S) ⊕ (Nat × Int32 × Int32 × gx_S)) (hf : s_CaseLayoutModel_escapes_4 v1 a = some o) (hk : gx_or (pp_CaseLayoutModel_escapes_4 K E v1) (pq_CaseLayoutModel_escapes_4 K E v1) o) : pp_CaseLayoutModel_escapes_4 K E v1 a := by
  unfold s_CaseLayoutModel_escapes_4 at hf
  unfold pp_CaseLayoutModel_escapes_4
  refine gx_iload_n C 3 d_Mod_escapes_4 rfl rfl ?_
  refine gx_aload_n C 0 d_Mod_escapes_5 rfl rfl ?_
  refine gx_get C iw_Mod 29 (gx_w29 E _) rfl 6 (by decide) gw_680 rfl rfl d_Mod_escapes_6 ?_
  refine gx_iload_n C 1 d_Mod_escapes_9 rfl rfl ?_
  obtain ⟨hi1, hf⟩ := gx_ck_some hf
  refine gx_iald C 32 0 (gx_w32 E _) rfl hi1 d_Mod_escapes_10 ?_
  refine gx_icmp_ge (tgt := 89) C d_Mod_escapes_11 (by decide) (fun h2 => ?_) (fun h2 => ?_)
  · have hf := (if_pos h2).symm.trans hf
    cases hf
    have hk : pq_CaseLayoutModel_escapes_4 K E v1 _ := hk
    unfold pq_CaseLayoutModel_escapes_4 at hk
    refine gx_lv (lv' := [(0, .ref (gx_ad E 29)), (1, .int v1), (2, .int a.1)]) [0, 1, 2] rfl ?_
    exact hk
  · have hf := (if_neg h2).symm.trans hf
    refine gx_iload_n C 2 d_Mod_escapes_14 rfl rfl ?_
    refine gx_if_ne (tgt := 77) C d_Mod_escapes_15 (by decide) (fun h3 => ?_) (fun h3 => ?_)
    · have hf := (if_neg h3).symm.trans hf
      refine gx_iconst C (v := 1) d_Mod_escapes_77 (by decide) ?_
      refine gx_goto (tgt := 82) C d_Mod_escapes_78 (by decide) ?_
      refine gx_istore_n C (lv' := [(2, .int 1), (0, .ref (gx_ad E 29)), (1, .int v1), (3, .int a.2.1)]) d_Mod_escapes_82 rfl (by decide) rfl ?_
      refine gx_iinc C (v := a.2.1 + 1) (lv' := [(3, .int (a.2.1 + 1)), (2, .int 1), (0, .ref (gx_ad E 29)), (1, .int v1)]) 3 d_Mod_escapes_83 rfl rfl (by decide) rfl ?_
      refine gx_goto (tgt := 4) C d_Mod_escapes_86 (by decide) ?_
      cases hf
      refine gx_lv (lv' := [(0, .ref (gx_ad E 29)), (1, .int v1), (2, .int 1), (3, .int (a.2.1 + 1))]) [2, 3, 1, 0] rfl ?_
      exact hk
    · have hf := (if_pos h3).symm.trans hf
      refine gx_aload_n C 0 d_Mod_escapes_18 rfl rfl ?_
      refine gx_aload_n C 0 d_Mod_escapes_19 rfl rfl ?_
      refine gx_get C iw_Mod 29 (gx_w29 E _) rfl 19 (by decide) gw_693 rfl rfl d_Mod_escapes_20 ?_
      refine gx_iload_n C 1 d_Mod_escapes_23 rfl rfl ?_
      obtain ⟨hi4, hf⟩ := gx_ck_some hf
      refine gx_iald C 42 0 (gx_w42 E _) rfl hi4 d_Mod_escapes_24 ?_
      refine gx_iload_n C 3 d_Mod_escapes_25 rfl rfl ?_
      refine gx_iadd C d_Mod_escapes_26 ?_
      refine gx_aload_n C 0 d_Mod_escapes_27 rfl rfl ?_
      refine gx_get C iw_Mod 29 (gx_w29 E _) rfl 20 (by decide) gw_694 rfl rfl d_Mod_escapes_28 ?_
      refine gx_iload_n C 1 d_Mod_escapes_31 rfl rfl ?_
      obtain ⟨hi5, hf⟩ := gx_ck_some hf
      refine gx_iald C 43 0 (gx_w43 E _) rfl hi5 d_Mod_escapes_32 ?_
      refine gx_iconst C (v := 1) d_Mod_escapes_33 (by decide) ?_
      refine gx_isub C d_Mod_escapes_34 ?_
      obtain ⟨r6, x6, hc6, hf⟩ := gx_bd_some hf
      refine gx_cVi (n2 := 0) (k2 := 0) C (As := [.int ((gx_gA a.2.2 32 (v1 : Int32).toNatClampNeg) + a.2.1), .int ((gx_gA a.2.2 33 (v1 : Int32).toNatClampNeg) - 1)]) (rest := []) 29 2 (c_CaseLayoutModel_stepsFrom K.l ((gx_gA a.2.2 32 (v1 : Int32).toNatClampNeg) + a.2.1) ((gx_gA a.2.2 33 (v1 : Int32).toNatClampNeg) - 1) a.2.2 _ hc6) (Or.inr rfl) rfl (gx_goodV gw_860 gw_862 gs_28 gw_10 gw_863) (by decide +kernel) (gx_w29 E _) rfl (by rw [hR]; decide) rfl rfl (Nat.le_of_ble_eq_true rfl) d_Mod_escapes_35 (by rw [hR]; decide) rfl rfl ?_
      refine gx_aload_n C 0 d_Mod_escapes_38 rfl rfl ?_
      refine gx_get C iw_Mod 29 (gx_w29 E _) rfl 18 (by decide) gw_692 rfl rfl d_Mod_escapes_39 ?_
      refine gx_icmp_le (tgt := 77) C d_Mod_escapes_42 (by decide) (fun h7 => ?_) (fun h7 => ?_)
      · have hf := (if_pos h7).symm.trans hf
        refine gx_iconst C (v := 1) d_Mod_escapes_77 (by decide) ?_
        refine gx_goto (tgt := 82) C d_Mod_escapes_78 (by decide) ?_
        refine gx_istore_n C (lv' := [(2, .int 1), (0, .ref (gx_ad E 29)), (1, .int v1), (3, .int a.2.1)]) d_Mod_escapes_82 rfl (by decide) rfl ?_
        refine gx_iinc C (v := a.2.1 + 1) (lv' := [(3, .int (a.2.1 + 1)), (2, .int 1), (0, .ref (gx_ad E 29)), (1, .int v1)]) 3 d_Mod_escapes_83 rfl rfl (by decide) rfl ?_
        refine gx_goto (tgt := 4) C d_Mod_escapes_86 (by decide) ?_
        cases hf
        refine gx_lv (lv' := [(0, .ref (gx_ad E 29)), (1, .int v1), (2, .int 1), (3, .int (a.2.1 + 1))]) [2, 3, 1, 0] rfl ?_
        exact hk
      · have hf := (if_neg h7).symm.trans hf
        refine gx_aload_n C 0 d_Mod_escapes_45 rfl rfl ?_
        refine gx_aload_n C 0 d_Mod_escapes_46 rfl rfl ?_
        refine gx_get C iw_Mod 29 (gx_w29 E _) rfl 19 (by decide) gw_693 rfl rfl d_Mod_escapes_47 ?_
        refine gx_iload_n C 1 d_Mod_escapes_50 rfl rfl ?_
        obtain ⟨hi8, hf⟩ := gx_ck_some hf
        refine gx_iald C 42 0 (gx_w42 E _) rfl hi8 d_Mod_escapes_51 ?_
        refine gx_iload_n C 3 d_Mod_escapes_52 rfl rfl ?_
        refine gx_iadd C d_Mod_escapes_53 ?_
        refine gx_aload_n C 0 d_Mod_escapes_54 rfl rfl ?_
        refine gx_get C iw_Mod 29 (gx_w29 E _) rfl 20 (by decide) gw_694 rfl rfl d_Mod_escapes_55 ?_
        refine gx_iload_n C 1 d_Mod_escapes_58 rfl rfl ?_
        obtain ⟨hi9, hf⟩ := gx_ck_some hf
        refine gx_iald C 43 0 (gx_w43 E _) rfl hi9 d_Mod_escapes_59 ?_
        refine gx_aload_n C 0 d_Mod_escapes_60 rfl rfl ?_
        refine gx_get C iw_Mod 29 (gx_w29 E _) rfl 7 (by decide) gw_681 rfl rfl d_Mod_escapes_61 ?_
        refine gx_iload_n C 1 d_Mod_escapes_64 rfl rfl ?_
        obtain ⟨hi10, hf⟩ := gx_ck_some hf
        refine gx_iald C 33 0 (gx_w33 E _) rfl hi10 d_Mod_escapes_65 ?_
        refine gx_iadd C d_Mod_escapes_66 ?_
        obtain ⟨r11, x11, hc11, hf⟩ := gx_bd_some hf
        refine gx_cVi (n2 := 0) (k2 := 0) C (As := [.int ((gx_gA x6 32 (v1 : Int32).toNatClampNeg) + a.2.1), .int ((gx_gA x6 33 (v1 : Int32).toNatClampNeg) + (gx_gA x6 23 (v1 : Int32).toNatClampNeg))]) (rest := []) 29 2 (c_CaseLayoutModel_stepsFrom K.l ((gx_gA x6 32 (v1 : Int32).toNatClampNeg) + a.2.1) ((gx_gA x6 33 (v1 : Int32).toNatClampNeg) + (gx_gA x6 23 (v1 : Int32).toNatClampNeg)) x6 _ hc11) (Or.inr rfl) rfl (gx_goodV gw_860 gw_862 gs_28 gw_10 gw_863) (by decide +kernel) (gx_w29 E _) rfl (by rw [hR]; decide) rfl rfl (Nat.le_of_ble_eq_true rfl) d_Mod_escapes_67 (by rw [hR]; decide) rfl rfl ?_
        refine gx_aload_n C 0 d_Mod_escapes_70 rfl rfl ?_
        refine gx_get C iw_Mod 29 (gx_w29 E _) rfl 18 (by decide) gw_692 rfl rfl d_Mod_escapes_71 ?_
        refine gx_icmp_gt (tgt := 81) C d_Mod_escapes_74 (by decide) (fun h12 => ?_) (fun h12 => ?_)
        · have hf := (if_pos h12).symm.trans hf
          refine gx_iconst C (v := 0) d_Mod_escapes_81 (by decide) ?_
          refine gx_istore_n C (lv' := [(2, .int 0), (0, .ref (gx_ad E 29)), (1, .int v1), (3, .int a.2.1)]) d_Mod_escapes_82 rfl (by decide) rfl ?_
          refine gx_iinc C (v := a.2.1 + 1) (lv' := [(3, .int (a.2.1 + 1)), (2, .int 0), (0, .ref (gx_ad E 29)), (1, .int v1)]) 3 d_Mod_escapes_83 rfl rfl (by decide) rfl ?_
          refine gx_goto (tgt := 4) C d_Mod_escapes_86 (by decide) ?_
          cases hf
          refine gx_lv (lv' := [(0, .ref (gx_ad E 29)), (1, .int v1), (2, .int 0), (3, .int (a.2.1 + 1))]) [2, 3, 1, 0] rfl ?_
          exact hk
        · have hf := (if_neg h12).symm.trans hf
          refine gx_iconst C (v := 1) d_Mod_escapes_77 (by decide) ?_
          refine gx_goto (tgt := 82) C d_Mod_escapes_78 (by decide) ?_
          refine gx_istore_n C (lv' := [(2, .int 1), (0, .ref (gx_ad E 29)), (1, .int v1), (3, .int a.2.1)]) d_Mod_escapes_82 rfl (by decide) rfl ?_
          refine gx_iinc C (v := a.2.1 + 1) (lv' := [(3, .int (a.2.1 + 1)), (2, .int 1), (0, .ref (gx_ad E 29)), (1, .int v1)]) 3 d_Mod_escapes_83 rfl rfl (by decide) rfl ?_
          refine gx_goto (tgt := 4) C d_Mod_escapes_86 (by decide) ?_
          cases hf
          refine gx_lv (lv' := [(0, .ref (gx_ad E 29)), (1, .int v1), (2, .int 1), (3, .int (a.2.1 + 1))]) [2, 3, 1, 0] rfl ?_
          exact hk
set_option maxHeartbeats 4000000 in
set_option maxRecDepth 100000 in
theorem sc_CaseLayoutModel_escapes_91 {K : gx_K} {E : gx_E} (C : gx_C K E "CaseLayoutModel" prog_10_method_31_code 4) (hR : K.R = rm_CaseLayoutModel_escapes) (hr : K.meth.sig.returnType = (some .boolean)) (hlk : K.meth.locks = false) (v1 : Int32) (a : Int32 × Int32 × gx_S) (o : (Int32 × Int32 × gx_S) ⊕ (Nat × Int32 × Int32 × gx_S)) (hf : s_CaseLayoutModel_escapes_91 v1 a = some o) (hk : gx_or (pp_CaseLayoutModel_escapes_91 K E v1) (pq_CaseLayoutModel_escapes_91 K E v1) o) : pp_CaseLayoutModel_escapes_91 K E v1 a := by
  unfold s_CaseLayoutModel_escapes_91 at hf
  unfold pp_CaseLayoutModel_escapes_91
  refine gx_iload_n C 3 d_Mod_escapes_91 rfl rfl ?_
  refine gx_aload_n C 0 d_Mod_escapes_92 rfl rfl ?_
  refine gx_get C iw_Mod 29 (gx_w29 E _) rfl 7 (by decide) gw_681 rfl rfl d_Mod_escapes_93 ?_
  refine gx_iload_n C 1 d_Mod_escapes_96 rfl rfl ?_
  obtain ⟨hi14, hf⟩ := gx_ck_some hf
  refine gx_iald C 33 0 (gx_w33 E _) rfl hi14 d_Mod_escapes_97 ?_
  refine gx_icmp_ge (tgt := 176) C d_Mod_escapes_98 (by decide) (fun h15 => ?_) (fun h15 => ?_)
  · have hf := (if_pos h15).symm.trans hf
    cases hf
    have hk : pq_CaseLayoutModel_escapes_91 K E v1 _ := hk
    unfold pq_CaseLayoutModel_escapes_91 at hk
    refine gx_lv (lv' := [(2, .int a.1)]) [2] rfl ?_
    exact hk
  · have hf := (if_neg h15).symm.trans hf
    refine gx_iload_n C 2 d_Mod_escapes_101 rfl rfl ?_
    refine gx_if_ne (tgt := 164) C d_Mod_escapes_102 (by decide) (fun h16 => ?_) (fun h16 => ?_)
    · have hf := (if_neg h16).symm.trans hf
      refine gx_iconst C (v := 1) d_Mod_escapes_164 (by decide) ?_
      refine gx_goto (tgt := 169) C d_Mod_escapes_165 (by decide) ?_
      refine gx_istore_n C (lv' := [(2, .int 1), (0, .ref (gx_ad E 29)), (1, .int v1), (3, .int a.2.1)]) d_Mod_escapes_169 rfl (by decide) rfl ?_
      refine gx_iinc C (v := a.2.1 + 1) (lv' := [(3, .int (a.2.1 + 1)), (2, .int 1), (0, .ref (gx_ad E 29)), (1, .int v1)]) 3 d_Mod_escapes_170 rfl rfl (by decide) rfl ?_
      refine gx_goto (tgt := 91) C d_Mod_escapes_173 (by decide) ?_
      cases hf
      refine gx_lv (lv' := [(0, .ref (gx_ad E 29)), (1, .int v1), (2, .int 1), (3, .int (a.2.1 + 1))]) [2, 3, 1, 0] rfl ?_
      exact hk
    · have hf := (if_pos h16).symm.trans hf
      refine gx_aload_n C 0 d_Mod_escapes_105 rfl rfl ?_
      refine gx_aload_n C 0 d_Mod_escapes_106 rfl rfl ?_
      refine gx_get C iw_Mod 29 (gx_w29 E _) rfl 19 (by decide) gw_693 rfl rfl d_Mod_escapes_107 ?_
      refine gx_iload_n C 1 d_Mod_escapes_110 rfl rfl ?_
      obtain ⟨hi17, hf⟩ := gx_ck_some hf
      refine gx_iald C 42 0 (gx_w42 E _) rfl hi17 d_Mod_escapes_111 ?_
      refine gx_iconst C (v := 1) d_Mod_escapes_112 (by decide) ?_
      refine gx_isub C d_Mod_escapes_113 ?_
      refine gx_aload_n C 0 d_Mod_escapes_114 rfl rfl ?_
      refine gx_get C iw_Mod 29 (gx_w29 E _) rfl 20 (by decide) gw_694 rfl rfl d_Mod_escapes_115 ?_
      refine gx_iload_n C 1 d_Mod_escapes_118 rfl rfl ?_
      obtain ⟨hi18, hf⟩ := gx_ck_some hf
      refine gx_iald C 43 0 (gx_w43 E _) rfl hi18 d_Mod_escapes_119 ?_
      refine gx_iload_n C 3 d_Mod_escapes_120 rfl rfl ?_
      refine gx_iadd C d_Mod_escapes_121 ?_
      obtain ⟨r19, x19, hc19, hf⟩ := gx_bd_some hf
      refine gx_cVi (n2 := 0) (k2 := 0) C (As := [.int ((gx_gA a.2.2 32 (v1 : Int32).toNatClampNeg) - 1), .int ((gx_gA a.2.2 33 (v1 : Int32).toNatClampNeg) + a.2.1)]) (rest := []) 29 2 (c_CaseLayoutModel_stepsFrom K.l ((gx_gA a.2.2 32 (v1 : Int32).toNatClampNeg) - 1) ((gx_gA a.2.2 33 (v1 : Int32).toNatClampNeg) + a.2.1) a.2.2 _ hc19) (Or.inr rfl) rfl (gx_goodV gw_860 gw_862 gs_28 gw_10 gw_863) (by decide +kernel) (gx_w29 E _) rfl (by rw [hR]; decide) rfl rfl (Nat.le_of_ble_eq_true rfl) d_Mod_escapes_122 (by rw [hR]; decide) rfl rfl ?_
      refine gx_aload_n C 0 d_Mod_escapes_125 rfl rfl ?_
      refine gx_get C iw_Mod 29 (gx_w29 E _) rfl 18 (by decide) gw_692 rfl rfl d_Mod_escapes_126 ?_
      refine gx_icmp_le (tgt := 164) C d_Mod_escapes_129 (by decide) (fun h20 => ?_) (fun h20 => ?_)
      · have hf := (if_pos h20).symm.trans hf
        refine gx_iconst C (v := 1) d_Mod_escapes_164 (by decide) ?_
        refine gx_goto (tgt := 169) C d_Mod_escapes_165 (by decide) ?_
        refine gx_istore_n C (lv' := [(2, .int 1), (0, .ref (gx_ad E 29)), (1, .int v1), (3, .int a.2.1)]) d_Mod_escapes_169 rfl (by decide) rfl ?_
        refine gx_iinc C (v := a.2.1 + 1) (lv' := [(3, .int (a.2.1 + 1)), (2, .int 1), (0, .ref (gx_ad E 29)), (1, .int v1)]) 3 d_Mod_escapes_170 rfl rfl (by decide) rfl ?_
        refine gx_goto (tgt := 91) C d_Mod_escapes_173 (by decide) ?_
        cases hf
        refine gx_lv (lv' := [(0, .ref (gx_ad E 29)), (1, .int v1), (2, .int 1), (3, .int (a.2.1 + 1))]) [2, 3, 1, 0] rfl ?_
        exact hk
      · have hf := (if_neg h20).symm.trans hf
        refine gx_aload_n C 0 d_Mod_escapes_132 rfl rfl ?_
        refine gx_aload_n C 0 d_Mod_escapes_133 rfl rfl ?_
        refine gx_get C iw_Mod 29 (gx_w29 E _) rfl 19 (by decide) gw_693 rfl rfl d_Mod_escapes_134 ?_
        refine gx_iload_n C 1 d_Mod_escapes_137 rfl rfl ?_
        obtain ⟨hi21, hf⟩ := gx_ck_some hf
        refine gx_iald C 42 0 (gx_w42 E _) rfl hi21 d_Mod_escapes_138 ?_
        refine gx_aload_n C 0 d_Mod_escapes_139 rfl rfl ?_
        refine gx_get C iw_Mod 29 (gx_w29 E _) rfl 6 (by decide) gw_680 rfl rfl d_Mod_escapes_140 ?_
        refine gx_iload_n C 1 d_Mod_escapes_143 rfl rfl ?_
        obtain ⟨hi22, hf⟩ := gx_ck_some hf
        refine gx_iald C 32 0 (gx_w32 E _) rfl hi22 d_Mod_escapes_144 ?_
        refine gx_iadd C d_Mod_escapes_145 ?_
        refine gx_aload_n C 0 d_Mod_escapes_146 rfl rfl ?_
        refine gx_get C iw_Mod 29 (gx_w29 E _) rfl 20 (by decide) gw_694 rfl rfl d_Mod_escapes_147 ?_
        refine gx_iload_n C 1 d_Mod_escapes_150 rfl rfl ?_
        obtain ⟨hi23, hf⟩ := gx_ck_some hf
        refine gx_iald C 43 0 (gx_w43 E _) rfl hi23 d_Mod_escapes_151 ?_
        refine gx_iload_n C 3 d_Mod_escapes_152 rfl rfl ?_
        refine gx_iadd C d_Mod_escapes_153 ?_
        obtain ⟨r24, x24, hc24, hf⟩ := gx_bd_some hf
        refine gx_cVi (n2 := 0) (k2 := 0) C (As := [.int ((gx_gA x19 32 (v1 : Int32).toNatClampNeg) + (gx_gA x19 22 (v1 : Int32).toNatClampNeg)), .int ((gx_gA x19 33 (v1 : Int32).toNatClampNeg) + a.2.1)]) (rest := []) 29 2 (c_CaseLayoutModel_stepsFrom K.l ((gx_gA x19 32 (v1 : Int32).toNatClampNeg) + (gx_gA x19 22 (v1 : Int32).toNatClampNeg)) ((gx_gA x19 33 (v1 : Int32).toNatClampNeg) + a.2.1) x19 _ hc24) (Or.inr rfl) rfl (gx_goodV gw_860 gw_862 gs_28 gw_10 gw_863) (by decide +kernel) (gx_w29 E _) rfl (by rw [hR]; decide) rfl rfl (Nat.le_of_ble_eq_true rfl) d_Mod_escapes_154 (by rw [hR]; decide) rfl rfl ?_
        refine gx_aload_n C 0 d_Mod_escapes_157 rfl rfl ?_
        refine gx_get C iw_Mod 29 (gx_w29 E _) rfl 18 (by decide) gw_692 rfl rfl d_Mod_escapes_158 ?_
        refine gx_icmp_gt (tgt := 168) C d_Mod_escapes_161 (by decide) (fun h25 => ?_) (fun h25 => ?_)
        · have hf := (if_pos h25).symm.trans hf
          refine gx_iconst C (v := 0) d_Mod_escapes_168 (by decide) ?_
          refine gx_istore_n C (lv' := [(2, .int 0), (0, .ref (gx_ad E 29)), (1, .int v1), (3, .int a.2.1)]) d_Mod_escapes_169 rfl (by decide) rfl ?_
          refine gx_iinc C (v := a.2.1 + 1) (lv' := [(3, .int (a.2.1 + 1)), (2, .int 0), (0, .ref (gx_ad E 29)), (1, .int v1)]) 3 d_Mod_escapes_170 rfl rfl (by decide) rfl ?_
          refine gx_goto (tgt := 91) C d_Mod_escapes_173 (by decide) ?_
          cases hf
          refine gx_lv (lv' := [(0, .ref (gx_ad E 29)), (1, .int v1), (2, .int 0), (3, .int (a.2.1 + 1))]) [2, 3, 1, 0] rfl ?_
          exact hk
        · have hf := (if_neg h25).symm.trans hf
          refine gx_iconst C (v := 1) d_Mod_escapes_164 (by decide) ?_
          refine gx_goto (tgt := 169) C d_Mod_escapes_165 (by decide) ?_
          refine gx_istore_n C (lv' := [(2, .int 1), (0, .ref (gx_ad E 29)), (1, .int v1), (3, .int a.2.1)]) d_Mod_escapes_169 rfl (by decide) rfl ?_
          refine gx_iinc C (v := a.2.1 + 1) (lv' := [(3, .int (a.2.1 + 1)), (2, .int 1), (0, .ref (gx_ad E 29)), (1, .int v1)]) 3 d_Mod_escapes_170 rfl rfl (by decide) rfl ?_
          refine gx_goto (tgt := 91) C d_Mod_escapes_173 (by decide) ?_
          cases hf
          refine gx_lv (lv' := [(0, .ref (gx_ad E 29)), (1, .int v1), (2, .int 1), (3, .int (a.2.1 + 1))]) [2, 3, 1, 0] rfl ?_
          exact hk
set_option maxHeartbeats 4000000 in
set_option maxRecDepth 100000 in
theorem c_CaseLayoutModel_escapes (l : Launch) (a1 : Int32) (x : gx_S) (o : Int32 × gx_S) (hf : f_CaseLayoutModel_escapes a1 x = some o) : gx_Mi false l y_Mod_escapes prog_10_method_31_code 4 (some .boolean) rm_CaseLayoutModel_escapes (fun E => [.ref (gx_ad E 29), .int a1]) x o.1 o.2 := by
  refine gx_meti (own := "CaseLayoutModel") (by decide) rfl (fun E => Nat.le_of_ble_eq_true rfl) (fun K E hl0 hR hr hlk hk C => ?_)
  subst hl0
  unfold f_CaseLayoutModel_escapes at hf
  show gx_G K E _ 0 0 x 0 [(0, .ref (gx_ad E 29)), (1, .int a1)] []
  refine gx_iconst C (v := 0) d_Mod_escapes_0 (by decide) ?_
  refine gx_istore_n C (lv' := [(2, .int 0), (0, .ref (gx_ad E 29)), (1, .int a1)]) d_Mod_escapes_1 rfl (by decide) rfl ?_
  refine gx_iconst C (v := 0) d_Mod_escapes_2 (by decide) ?_
  refine gx_istore_n C (lv' := [(3, .int 0), (2, .int 0), (0, .ref (gx_ad E 29)), (1, .int a1)]) d_Mod_escapes_3 rfl (by decide) rfl ?_
  refine gx_lv (lv' := [(0, .ref (gx_ad E 29)), (1, .int a1), (2, .int 0), (3, .int 0)]) [2, 3, 1, 0] rfl ?_
  obtain ⟨e13, he13, hf⟩ := gx_bl_some hf
  refine (gx_loop (P := pp_CaseLayoutModel_escapes_4 K E a1) (Q := pq_CaseLayoutModel_escapes_4 K E a1) (fun a9 o9 h1 h2 => sc_CaseLayoutModel_escapes_4 C hR hr hlk a1 a9 o9 h1 h2) gx_fuel (0, 0, x) e13 he13 ?_ : pp_CaseLayoutModel_escapes_4 K E a1 (0, 0, x))
  unfold pq_CaseLayoutModel_escapes_4
  refine gx_iconst C (v := 0) d_Mod_escapes_89 (by decide) ?_
  refine gx_istore_n C (lv' := [(3, .int 0), (0, .ref (gx_ad E 29)), (1, .int a1), (2, .int e13.2.1)]) d_Mod_escapes_90 rfl (by decide) rfl ?_
  refine gx_lv (lv' := [(0, .ref (gx_ad E 29)), (1, .int a1), (2, .int e13.2.1), (3, .int 0)]) [1, 2, 3, 0] rfl ?_
  obtain ⟨e26, he26, hf⟩ := gx_bl_some hf
  refine (gx_loop (P := pp_CaseLayoutModel_escapes_91 K E a1) (Q := pq_CaseLayoutModel_escapes_91 K E a1) (fun a9 o9 h1 h2 => sc_CaseLayoutModel_escapes_91 C hR hr hlk a1 a9 o9 h1 h2) gx_fuel (e13.2.1, 0, e13.2.2.2) e26 he26 ?_ : pp_CaseLayoutModel_escapes_91 K E a1 (e13.2.1, 0, e13.2.2.2))
  unfold pq_CaseLayoutModel_escapes_91
  refine gx_iload_n C 0 d_Mod_escapes_176 rfl rfl ?_
  obtain ⟨hn27, hf⟩ := gx_nb_some hf
  cases hf
  exact gx_zret C hr hlk hk hn27 d_Mod_escapes_177

def s_CaseLayoutModel_isLayout_4  (a : Int32 × Int32 × gx_S) : Option ((Int32 × Int32 × gx_S) ⊕ (Nat × Int32 × Int32 × gx_S)) :=
  if (7 * (gx_gI a.2.2 15)) ≤ a.2.1 then (some (.inr (0, a.1, a.2.1, a.2.2))) else (if a.1 = 0 then (some (.inr (0, a.1, a.2.1, a.2.2))) else (gx_ck a.2.1 56 (if (gx_gA a.2.2 29 (a.2.1 : Int32).toNatClampNeg) = 0 then (some (.inl (1, a.2.1 + 1, a.2.2))) else (gx_bd (f_CaseLayoutModel_isSeen (a.2.1 / 7) (a.2.1 - a.2.1 / 7 * 7) a.2.2) (fun r5 x5 => if r5 = 0 then (some (.inl (0, a.2.1 + 1, x5))) else (some (.inl (1, a.2.1 + 1, x5))))))))
def s_CaseLayoutModel_isLayout_74  (a : Int32 × Int32 × gx_S) : Option ((Int32 × Int32 × gx_S) ⊕ (Nat × Int32 × Int32 × gx_S)) :=
  if (gx_gI a.2.2 14) ≤ a.2.1 then (some (.inr (0, a.1, a.2.1, a.2.2))) else (if a.1 = 0 then (some (.inl (0, a.2.1 + 1, a.2.2))) else (gx_bd (f_CaseLayoutModel_escapes a.2.1 a.2.2) (fun r14 x14 => if r14 = 0 then (some (.inl (0, a.2.1 + 1, x14))) else (some (.inl (1, a.2.1 + 1, x14))))))
def j_CaseLayoutModel_isLayout_55 (v1 : Int32) (x : gx_S) : Option (Int32 × gx_S) :=
  if v1 = 0 then (gx_nb v1 (some (v1, x))) else (if (gx_gI x 16) = 0 then (gx_nb v1 (some (v1, x))) else (gx_bd (f_CaseLayoutModel_measure  x) (fun r11 x11 => gx_bl (gx_it (s_CaseLayoutModel_isLayout_74 ) gx_fuel (v1, 0, x11)) (fun e16 => gx_nb e16.2.1 (some (e16.2.1, e16.2.2.2))))))
def f_CaseLayoutModel_isLayout  (x : gx_S) : Option (Int32 × gx_S) :=
  gx_bl (gx_it (s_CaseLayoutModel_isLayout_4 ) gx_fuel (1, 0, x)) (fun e7 => j_CaseLayoutModel_isLayout_55 e7.2.1  e7.2.2.2)
abbrev rm_CaseLayoutModel_isLayout : Room := { frames := 4, cells := 0, slots := 0, locals := 94 }
def pp_CaseLayoutModel_isLayout_4 (K : gx_K) (E : gx_E)  (a : Int32 × Int32 × gx_S) : Prop := gx_G K E (gx_AB true E K.s.heap.size) 0 0 (a.2.2) 4 [(0, .ref (gx_ad E 29)), (1, .int a.1), (2, .int a.2.1)] []
def pq_CaseLayoutModel_isLayout_4 (K : gx_K) (E : gx_E)  (b : Nat × Int32 × Int32 × gx_S) : Prop := gx_G K E (gx_AB true E K.s.heap.size) 0 0 (b.2.2.2) 55 [(0, .ref (gx_ad E 29)), (1, .int b.2.1)] []
def pp_CaseLayoutModel_isLayout_74 (K : gx_K) (E : gx_E)  (a : Int32 × Int32 × gx_S) : Prop := gx_G K E (gx_AB true E K.s.heap.size) 0 0 (a.2.2) 74 [(0, .ref (gx_ad E 29)), (1, .int a.1), (2, .int a.2.1)] []
def pq_CaseLayoutModel_isLayout_74 (K : gx_K) (E : gx_E)  (b : Nat × Int32 × Int32 × gx_S) : Prop := gx_G K E (gx_AB true E K.s.heap.size) 0 0 (b.2.2.2) 106 [(1, .int b.2.1)] []
set_option maxHeartbeats 4000000 in
set_option maxRecDepth 100000 in
theorem sc_CaseLayoutModel_isLayout_4 {K : gx_K} {E : gx_E} (C : gx_C K E "CaseLayoutModel" prog_10_method_32_code 3) (hR : K.R = rm_CaseLayoutModel_isLayout) (hr : K.meth.sig.returnType = (some .boolean)) (hlk : K.meth.locks = false)  (a : Int32 × Int32 × gx_S) (o : (Int32 × Int32 × gx_S) ⊕ (Nat × Int32 × Int32 × gx_S)) (hf : s_CaseLayoutModel_isLayout_4  a = some o) (hk : gx_or (pp_CaseLayoutModel_isLayout_4 K E ) (pq_CaseLayoutModel_isLayout_4 K E ) o) : pp_CaseLayoutModel_isLayout_4 K E  a := by
  unfold s_CaseLayoutModel_isLayout_4 at hf
  unfold pp_CaseLayoutModel_isLayout_4
  refine gx_iload_n C 2 d_Mod_isLayout_4 rfl rfl ?_
  refine gx_bipush C (v := 7) d_Mod_isLayout_5 (by decide) ?_
  refine gx_aload_n C 0 d_Mod_isLayout_7 rfl rfl ?_
  refine gx_get C iw_Mod 29 (gx_w29 E _) rfl 11 (by decide) gw_685 rfl rfl d_Mod_isLayout_8 ?_
  refine gx_imul C d_Mod_isLayout_11 ?_
  refine gx_icmp_ge (tgt := 55) C d_Mod_isLayout_12 (by decide) (fun h1 => ?_) (fun h1 => ?_)
  · have hf := (if_pos h1).symm.trans hf
    cases hf
    have hk : pq_CaseLayoutModel_isLayout_4 K E  _ := hk
    unfold pq_CaseLayoutModel_isLayout_4 at hk
    refine gx_lv (lv' := [(0, .ref (gx_ad E 29)), (1, .int a.1)]) [0, 1] rfl ?_
    exact hk
  · have hf := (if_neg h1).symm.trans hf
    refine gx_iload_n C 1 d_Mod_isLayout_15 rfl rfl ?_
    refine gx_if_eq (tgt := 55) C d_Mod_isLayout_16 (by decide) (fun h2 => ?_) (fun h2 => ?_)
    · have hf := (if_pos h2).symm.trans hf
      cases hf
      have hk : pq_CaseLayoutModel_isLayout_4 K E  _ := hk
      unfold pq_CaseLayoutModel_isLayout_4 at hk
      refine gx_lv (lv' := [(0, .ref (gx_ad E 29)), (1, .int a.1)]) [0, 1] rfl ?_
      exact hk
    · have hf := (if_neg h2).symm.trans hf
      refine gx_aload_n C 0 d_Mod_isLayout_19 rfl rfl ?_
      refine gx_get C iw_Mod 29 (gx_w29 E _) rfl 14 (by decide) gw_688 rfl rfl d_Mod_isLayout_20 ?_
      refine gx_iload_n C 2 d_Mod_isLayout_23 rfl rfl ?_
      obtain ⟨hi3, hf⟩ := gx_ck_some hf
      refine gx_zald C 39 1 (gx_w39 E _) rfl hi3 d_Mod_isLayout_24 ?_
      refine gx_if_eq (tgt := 43) C d_Mod_isLayout_25 (by decide) (fun h4 => ?_) (fun h4 => ?_)
      · have hf := (if_pos h4).symm.trans hf
        refine gx_iconst C (v := 1) d_Mod_isLayout_43 (by decide) ?_
        refine gx_goto (tgt := 48) C d_Mod_isLayout_44 (by decide) ?_
        refine gx_istore_n C (lv' := [(1, .int 1), (0, .ref (gx_ad E 29)), (2, .int a.2.1)]) d_Mod_isLayout_48 rfl (by decide) rfl ?_
        refine gx_iinc C (v := a.2.1 + 1) (lv' := [(2, .int (a.2.1 + 1)), (1, .int 1), (0, .ref (gx_ad E 29))]) 2 d_Mod_isLayout_49 rfl rfl (by decide) rfl ?_
        refine gx_goto (tgt := 4) C d_Mod_isLayout_52 (by decide) ?_
        cases hf
        refine gx_lv (lv' := [(0, .ref (gx_ad E 29)), (1, .int 1), (2, .int (a.2.1 + 1))]) [2, 1, 0] rfl ?_
        exact hk
      · have hf := (if_neg h4).symm.trans hf
        refine gx_aload_n C 0 d_Mod_isLayout_28 rfl rfl ?_
        refine gx_iload_n C 2 d_Mod_isLayout_29 rfl rfl ?_
        refine gx_bipush C (v := 7) d_Mod_isLayout_30 (by decide) ?_
        refine gx_idiv C d_Mod_isLayout_32 (by decide) ?_
        refine gx_iload_n C 2 d_Mod_isLayout_33 rfl rfl ?_
        refine gx_bipush C (v := 7) d_Mod_isLayout_34 (by decide) ?_
        refine gx_irem C d_Mod_isLayout_36 (by decide) ?_
        obtain ⟨r5, x5, hc5, hf⟩ := gx_bd_some hf
        refine gx_cVi (n2 := 0) (k2 := 0) C (As := [.int (a.2.1 / 7), .int (a.2.1 - a.2.1 / 7 * 7)]) (rest := []) 29 2 (c_CaseLayoutModel_isSeen K.l (a.2.1 / 7) (a.2.1 - a.2.1 / 7 * 7) a.2.2 _ hc5) (Or.inl rfl) rfl (gx_goodV gw_838 gw_840 gs_24 gw_10 gw_841) (by decide +kernel) (gx_w29 E _) rfl (by rw [hR]; decide) rfl rfl (Nat.le_of_ble_eq_true rfl) d_Mod_isLayout_37 (by rw [hR]; decide) rfl rfl ?_
        refine gx_if_eq (tgt := 47) C d_Mod_isLayout_40 (by decide) (fun h6 => ?_) (fun h6 => ?_)
        · have hf := (if_pos h6).symm.trans hf
          refine gx_iconst C (v := 0) d_Mod_isLayout_47 (by decide) ?_
          refine gx_istore_n C (lv' := [(1, .int 0), (0, .ref (gx_ad E 29)), (2, .int a.2.1)]) d_Mod_isLayout_48 rfl (by decide) rfl ?_
          refine gx_iinc C (v := a.2.1 + 1) (lv' := [(2, .int (a.2.1 + 1)), (1, .int 0), (0, .ref (gx_ad E 29))]) 2 d_Mod_isLayout_49 rfl rfl (by decide) rfl ?_
          refine gx_goto (tgt := 4) C d_Mod_isLayout_52 (by decide) ?_
          cases hf
          refine gx_lv (lv' := [(0, .ref (gx_ad E 29)), (1, .int 0), (2, .int (a.2.1 + 1))]) [2, 1, 0] rfl ?_
          exact hk
        · have hf := (if_neg h6).symm.trans hf
          refine gx_iconst C (v := 1) d_Mod_isLayout_43 (by decide) ?_
          refine gx_goto (tgt := 48) C d_Mod_isLayout_44 (by decide) ?_
          refine gx_istore_n C (lv' := [(1, .int 1), (0, .ref (gx_ad E 29)), (2, .int a.2.1)]) d_Mod_isLayout_48 rfl (by decide) rfl ?_
          refine gx_iinc C (v := a.2.1 + 1) (lv' := [(2, .int (a.2.1 + 1)), (1, .int 1), (0, .ref (gx_ad E 29))]) 2 d_Mod_isLayout_49 rfl rfl (by decide) rfl ?_
          refine gx_goto (tgt := 4) C d_Mod_isLayout_52 (by decide) ?_
          cases hf
          refine gx_lv (lv' := [(0, .ref (gx_ad E 29)), (1, .int 1), (2, .int (a.2.1 + 1))]) [2, 1, 0] rfl ?_
          exact hk
set_option maxHeartbeats 4000000 in
set_option maxRecDepth 100000 in
theorem sc_CaseLayoutModel_isLayout_74 {K : gx_K} {E : gx_E} (C : gx_C K E "CaseLayoutModel" prog_10_method_32_code 3) (hR : K.R = rm_CaseLayoutModel_isLayout) (hr : K.meth.sig.returnType = (some .boolean)) (hlk : K.meth.locks = false)  (a : Int32 × Int32 × gx_S) (o : (Int32 × Int32 × gx_S) ⊕ (Nat × Int32 × Int32 × gx_S)) (hf : s_CaseLayoutModel_isLayout_74  a = some o) (hk : gx_or (pp_CaseLayoutModel_isLayout_74 K E ) (pq_CaseLayoutModel_isLayout_74 K E ) o) : pp_CaseLayoutModel_isLayout_74 K E  a := by
  unfold s_CaseLayoutModel_isLayout_74 at hf
  unfold pp_CaseLayoutModel_isLayout_74
  refine gx_iload_n C 2 d_Mod_isLayout_74 rfl rfl ?_
  refine gx_aload_n C 0 d_Mod_isLayout_75 rfl rfl ?_
  refine gx_get C iw_Mod 29 (gx_w29 E _) rfl 5 (by decide) gw_679 rfl rfl d_Mod_isLayout_76 ?_
  refine gx_icmp_ge (tgt := 106) C d_Mod_isLayout_79 (by decide) (fun h12 => ?_) (fun h12 => ?_)
  · have hf := (if_pos h12).symm.trans hf
    cases hf
    have hk : pq_CaseLayoutModel_isLayout_74 K E  _ := hk
    unfold pq_CaseLayoutModel_isLayout_74 at hk
    refine gx_lv (lv' := [(1, .int a.1)]) [1] rfl ?_
    exact hk
  · have hf := (if_neg h12).symm.trans hf
    refine gx_iload_n C 1 d_Mod_isLayout_82 rfl rfl ?_
    refine gx_if_eq (tgt := 98) C d_Mod_isLayout_83 (by decide) (fun h13 => ?_) (fun h13 => ?_)
    · have hf := (if_pos h13).symm.trans hf
      refine gx_iconst C (v := 0) d_Mod_isLayout_98 (by decide) ?_
      refine gx_istore_n C (lv' := [(1, .int 0), (0, .ref (gx_ad E 29)), (2, .int a.2.1)]) d_Mod_isLayout_99 rfl (by decide) rfl ?_
      refine gx_iinc C (v := a.2.1 + 1) (lv' := [(2, .int (a.2.1 + 1)), (1, .int 0), (0, .ref (gx_ad E 29))]) 2 d_Mod_isLayout_100 rfl rfl (by decide) rfl ?_
      refine gx_goto (tgt := 74) C d_Mod_isLayout_103 (by decide) ?_
      cases hf
      refine gx_lv (lv' := [(0, .ref (gx_ad E 29)), (1, .int 0), (2, .int (a.2.1 + 1))]) [2, 1, 0] rfl ?_
      exact hk
    · have hf := (if_neg h13).symm.trans hf
      refine gx_aload_n C 0 d_Mod_isLayout_86 rfl rfl ?_
      refine gx_iload_n C 2 d_Mod_isLayout_87 rfl rfl ?_
      obtain ⟨r14, x14, hc14, hf⟩ := gx_bd_some hf
      refine gx_cVi (n2 := 0) (k2 := 0) C (As := [.int a.2.1]) (rest := []) 29 1 (c_CaseLayoutModel_escapes K.l a.2.1 a.2.2 _ hc14) (Or.inl rfl) rfl (gx_goodV gw_864 gw_866 gs_29 gw_10 gw_867) (by decide +kernel) (gx_w29 E _) rfl (by rw [hR]; decide) rfl rfl (Nat.le_of_ble_eq_true rfl) d_Mod_isLayout_88 (by rw [hR]; decide) rfl rfl ?_
      refine gx_if_eq (tgt := 98) C d_Mod_isLayout_91 (by decide) (fun h15 => ?_) (fun h15 => ?_)
      · have hf := (if_pos h15).symm.trans hf
        refine gx_iconst C (v := 0) d_Mod_isLayout_98 (by decide) ?_
        refine gx_istore_n C (lv' := [(1, .int 0), (0, .ref (gx_ad E 29)), (2, .int a.2.1)]) d_Mod_isLayout_99 rfl (by decide) rfl ?_
        refine gx_iinc C (v := a.2.1 + 1) (lv' := [(2, .int (a.2.1 + 1)), (1, .int 0), (0, .ref (gx_ad E 29))]) 2 d_Mod_isLayout_100 rfl rfl (by decide) rfl ?_
        refine gx_goto (tgt := 74) C d_Mod_isLayout_103 (by decide) ?_
        cases hf
        refine gx_lv (lv' := [(0, .ref (gx_ad E 29)), (1, .int 0), (2, .int (a.2.1 + 1))]) [2, 1, 0] rfl ?_
        exact hk
      · have hf := (if_neg h15).symm.trans hf
        refine gx_iconst C (v := 1) d_Mod_isLayout_94 (by decide) ?_
        refine gx_goto (tgt := 99) C d_Mod_isLayout_95 (by decide) ?_
        refine gx_istore_n C (lv' := [(1, .int 1), (0, .ref (gx_ad E 29)), (2, .int a.2.1)]) d_Mod_isLayout_99 rfl (by decide) rfl ?_
        refine gx_iinc C (v := a.2.1 + 1) (lv' := [(2, .int (a.2.1 + 1)), (1, .int 1), (0, .ref (gx_ad E 29))]) 2 d_Mod_isLayout_100 rfl rfl (by decide) rfl ?_
        refine gx_goto (tgt := 74) C d_Mod_isLayout_103 (by decide) ?_
        cases hf
        refine gx_lv (lv' := [(0, .ref (gx_ad E 29)), (1, .int 1), (2, .int (a.2.1 + 1))]) [2, 1, 0] rfl ?_
        exact hk
set_option maxHeartbeats 4000000 in
set_option maxRecDepth 100000 in
theorem jc_CaseLayoutModel_isLayout_55 {K : gx_K} {E : gx_E} (C : gx_C K E "CaseLayoutModel" prog_10_method_32_code 3) (hR : K.R = rm_CaseLayoutModel_isLayout) (hr : K.meth.sig.returnType = (some .boolean)) (hlk : K.meth.locks = false) (v1 : Int32) (x : gx_S) (o : Int32 × gx_S) (hf : j_CaseLayoutModel_isLayout_55 v1 x = some o) (hk : ∀ t, MQ K.below (gx_Qi E (gx_AB true E K.s.heap.size) o.1 o.2) K.args K.s 0 0 (gx_AB true E K.s.heap.size) t → K.Q t) : gx_G K E (gx_AB true E K.s.heap.size) 0 0 x 55 [(0, .ref (gx_ad E 29)), (1, .int v1)] [] := by
  unfold j_CaseLayoutModel_isLayout_55 at hf
  refine gx_iload_n C 1 d_Mod_isLayout_55 rfl rfl ?_
  refine gx_if_eq (tgt := 66) C d_Mod_isLayout_56 (by decide) (fun h8 => ?_) (fun h8 => ?_)
  · have hf := (if_pos h8).symm.trans hf
    refine gx_iload_n C 1 d_Mod_isLayout_66 rfl rfl ?_
    obtain ⟨hn9, hf⟩ := gx_nb_some hf
    cases hf
    exact gx_zret C hr hlk hk hn9 d_Mod_isLayout_67
  · have hf := (if_neg h8).symm.trans hf
    refine gx_aload_n C 0 d_Mod_isLayout_59 rfl rfl ?_
    refine gx_get C iw_Mod 29 (gx_w29 E _) rfl 15 (by decide) gw_689 rfl rfl d_Mod_isLayout_60 ?_
    refine gx_if_ne (tgt := 68) C d_Mod_isLayout_63 (by decide) (fun h10 => ?_) (fun h10 => ?_)
    · have hf := (if_neg h10).symm.trans hf
      refine gx_aload_n C 0 d_Mod_isLayout_68 rfl rfl ?_
      obtain ⟨r11, x11, hc11, hf⟩ := gx_bd_some hf
      refine gx_cVv (n2 := 0) (k2 := 0) C (As := []) (rest := []) 29 0 (c_CaseLayoutModel_measure K.l  x _ hc11) (Or.inl rfl) rfl (gx_goodV gw_852 gw_854 gs_26 gw_10 gw_855) (by decide +kernel) (gx_w29 E _) rfl (by rw [hR]; decide) rfl rfl (Nat.le_of_ble_eq_true rfl) d_Mod_isLayout_69 (by rw [hR]; decide) rfl rfl ?_
      refine gx_iconst C (v := 0) d_Mod_isLayout_72 (by decide) ?_
      refine gx_istore_n C (lv' := [(2, .int 0), (0, .ref (gx_ad E 29)), (1, .int v1)]) d_Mod_isLayout_73 rfl (by decide) rfl ?_
      refine gx_lv (lv' := [(0, .ref (gx_ad E 29)), (1, .int v1), (2, .int 0)]) [1, 2, 0] rfl ?_
      obtain ⟨e16, he16, hf⟩ := gx_bl_some hf
      refine (gx_loop (P := pp_CaseLayoutModel_isLayout_74 K E ) (Q := pq_CaseLayoutModel_isLayout_74 K E ) (fun a9 o9 h1 h2 => sc_CaseLayoutModel_isLayout_74 C hR hr hlk  a9 o9 h1 h2) gx_fuel (v1, 0, x11) e16 he16 ?_ : pp_CaseLayoutModel_isLayout_74 K E  (v1, 0, x11))
      unfold pq_CaseLayoutModel_isLayout_74
      refine gx_iload_n C 0 d_Mod_isLayout_106 rfl rfl ?_
      obtain ⟨hn17, hf⟩ := gx_nb_some hf
      cases hf
      exact gx_zret C hr hlk hk hn17 d_Mod_isLayout_107
    · have hf := (if_pos h10).symm.trans hf
      refine gx_iload_n C 1 d_Mod_isLayout_66 rfl rfl ?_
      obtain ⟨hn18, hf⟩ := gx_nb_some hf
      cases hf
      exact gx_zret C hr hlk hk hn18 d_Mod_isLayout_67
set_option maxHeartbeats 4000000 in
set_option maxRecDepth 100000 in
theorem c_CaseLayoutModel_isLayout (l : Launch)  (x : gx_S) (o : Int32 × gx_S) (hf : f_CaseLayoutModel_isLayout  x = some o) : gx_Mi true l y_Mod_isLayout prog_10_method_32_code 3 (some .boolean) rm_CaseLayoutModel_isLayout (fun E => [.ref (gx_ad E 29)]) x o.1 o.2 := by
  refine gx_meti (own := "CaseLayoutModel") (by decide) rfl (fun E => Nat.le_of_ble_eq_true rfl) (fun K E hl0 hR hr hlk hk C => ?_)
  subst hl0
  unfold f_CaseLayoutModel_isLayout at hf
  show gx_G K E _ 0 0 x 0 [(0, .ref (gx_ad E 29))] []
  refine gx_iconst C (v := 1) d_Mod_isLayout_0 (by decide) ?_
  refine gx_istore_n C (lv' := [(1, .int 1), (0, .ref (gx_ad E 29))]) d_Mod_isLayout_1 rfl (by decide) rfl ?_
  refine gx_iconst C (v := 0) d_Mod_isLayout_2 (by decide) ?_
  refine gx_istore_n C (lv' := [(2, .int 0), (1, .int 1), (0, .ref (gx_ad E 29))]) d_Mod_isLayout_3 rfl (by decide) rfl ?_
  refine gx_lv (lv' := [(0, .ref (gx_ad E 29)), (1, .int 1), (2, .int 0)]) [2, 1, 0] rfl ?_
  obtain ⟨e7, he7, hf⟩ := gx_bl_some hf
  refine (gx_loop (P := pp_CaseLayoutModel_isLayout_4 K E ) (Q := pq_CaseLayoutModel_isLayout_4 K E ) (fun a9 o9 h1 h2 => sc_CaseLayoutModel_isLayout_4 C hR hr hlk  a9 o9 h1 h2) gx_fuel (1, 0, x) e7 he7 ?_ : pp_CaseLayoutModel_isLayout_4 K E  (1, 0, x))
  unfold pq_CaseLayoutModel_isLayout_4
  exact jc_CaseLayoutModel_isLayout_55 C hR hr hlk e7.2.1  e7.2.2.2 _ hf hk

def s_CaseLayoutModel_worthNow_14 (v2 : Int32) (a : Int32 × Int32 × gx_S) : Option ((Int32 × Int32 × gx_S) ⊕ (Nat × Int32 × Int32 × gx_S)) :=
  if v2 ≤ a.2.1 then (some (.inr (0, a.1, a.2.1, a.2.2))) else (gx_bd (f_CaseLayoutModel_gap v2 a.2.1 a.2.2) (fun r3 x3 => if r3 = 0 then (gx_ck ((7 * v2) + a.2.1) 49 (some (.inl (a.1 + (gx_gA x3 26 ((7 * v2) + a.2.1 : Int32).toNatClampNeg), a.2.1 + 1, x3)))) else (some (.inl (a.1 + 0, a.2.1 + 1, x3)))))
def s_CaseLayoutModel_worthNow_4  (a : Int32 × Int32 × gx_S) : Option ((Int32 × Int32 × gx_S) ⊕ (Nat × Int32 × Int32 × gx_S)) :=
  if (gx_gI a.2.2 14) ≤ a.2.1 then (some (.inr (0, a.1, a.2.1, a.2.2))) else (gx_bl (gx_it (s_CaseLayoutModel_worthNow_14 a.2.1) gx_fuel (a.1, 0, a.2.2)) (fun e6 => some (.inl (e6.2.1, a.2.1 + 1, e6.2.2.2))))
def f_CaseLayoutModel_worthNow  (x : gx_S) : Option (Int32 × gx_S) :=
  gx_bl (gx_it (s_CaseLayoutModel_worthNow_4 ) gx_fuel (0, 0, x)) (fun e7 => some (e7.2.1, e7.2.2.2))
abbrev rm_CaseLayoutModel_worthNow : Room := { frames := 2, cells := 0, slots := 0, locals := 47 }
def pp_CaseLayoutModel_worthNow_14 (K : gx_K) (E : gx_E) (v2 : Int32) (a : Int32 × Int32 × gx_S) : Prop := gx_G K E (gx_AB false E K.s.heap.size) 0 0 (a.2.2) 14 [(0, .ref (gx_ad E 29)), (1, .int a.1), (2, .int v2), (3, .int a.2.1)] []
def pq_CaseLayoutModel_worthNow_14 (K : gx_K) (E : gx_E) (v2 : Int32) (b : Nat × Int32 × Int32 × gx_S) : Prop := gx_G K E (gx_AB false E K.s.heap.size) 0 0 (b.2.2.2) 52 [(0, .ref (gx_ad E 29)), (1, .int b.2.1), (2, .int v2)] []
def pp_CaseLayoutModel_worthNow_4 (K : gx_K) (E : gx_E)  (a : Int32 × Int32 × gx_S) : Prop := gx_G K E (gx_AB false E K.s.heap.size) 0 0 (a.2.2) 4 [(0, .ref (gx_ad E 29)), (1, .int a.1), (2, .int a.2.1)] []
def pq_CaseLayoutModel_worthNow_4 (K : gx_K) (E : gx_E)  (b : Nat × Int32 × Int32 × gx_S) : Prop := gx_G K E (gx_AB false E K.s.heap.size) 0 0 (b.2.2.2) 58 [(1, .int b.2.1)] []
set_option maxHeartbeats 4000000 in
set_option maxRecDepth 100000 in
theorem sc_CaseLayoutModel_worthNow_14 {K : gx_K} {E : gx_E} (C : gx_C K E "CaseLayoutModel" prog_10_method_33_code 4) (hR : K.R = rm_CaseLayoutModel_worthNow) (hr : K.meth.sig.returnType = (some .int)) (hlk : K.meth.locks = false) (v2 : Int32) (a : Int32 × Int32 × gx_S) (o : (Int32 × Int32 × gx_S) ⊕ (Nat × Int32 × Int32 × gx_S)) (hf : s_CaseLayoutModel_worthNow_14 v2 a = some o) (hk : gx_or (pp_CaseLayoutModel_worthNow_14 K E v2) (pq_CaseLayoutModel_worthNow_14 K E v2) o) : pp_CaseLayoutModel_worthNow_14 K E v2 a := by
  unfold s_CaseLayoutModel_worthNow_14 at hf
  unfold pp_CaseLayoutModel_worthNow_14
  refine gx_iload_n C 3 d_Mod_worthNow_14 rfl rfl ?_
  refine gx_iload_n C 2 d_Mod_worthNow_15 rfl rfl ?_
  refine gx_icmp_ge (tgt := 52) C d_Mod_worthNow_16 (by decide) (fun h2 => ?_) (fun h2 => ?_)
  · have hf := (if_pos h2).symm.trans hf
    cases hf
    have hk : pq_CaseLayoutModel_worthNow_14 K E v2 _ := hk
    unfold pq_CaseLayoutModel_worthNow_14 at hk
    refine gx_lv (lv' := [(0, .ref (gx_ad E 29)), (1, .int a.1), (2, .int v2)]) [0, 1, 2] rfl ?_
    exact hk
  · have hf := (if_neg h2).symm.trans hf
    refine gx_iload_n C 1 d_Mod_worthNow_19 rfl rfl ?_
    refine gx_aload_n C 0 d_Mod_worthNow_20 rfl rfl ?_
    refine gx_iload_n C 2 d_Mod_worthNow_21 rfl rfl ?_
    refine gx_iload_n C 3 d_Mod_worthNow_22 rfl rfl ?_
    obtain ⟨r3, x3, hc3, hf⟩ := gx_bd_some hf
    refine gx_cVi (n2 := 0) (k2 := 0) C (As := [.int v2, .int a.2.1]) (rest := [.int a.1]) 29 2 (c_CaseLayoutModel_gap K.l v2 a.2.1 a.2.2 _ hc3) (Or.inr rfl) rfl (gx_goodV gw_876 gw_878 gs_32 gw_10 gw_879) (by decide +kernel) (gx_w29 E _) rfl (by rw [hR]; decide) rfl rfl (Nat.le_of_ble_eq_true rfl) d_Mod_worthNow_23 (by rw [hR]; decide) rfl rfl ?_
    refine gx_if_ne (tgt := 43) C d_Mod_worthNow_26 (by decide) (fun h4 => ?_) (fun h4 => ?_)
    · have hf := (if_neg h4).symm.trans hf
      refine gx_iconst C (v := 0) d_Mod_worthNow_43 (by decide) ?_
      refine gx_iadd C d_Mod_worthNow_44 ?_
      refine gx_istore_n C (lv' := [(1, .int (a.1 + 0)), (0, .ref (gx_ad E 29)), (2, .int v2), (3, .int a.2.1)]) d_Mod_worthNow_45 rfl (by decide) rfl ?_
      refine gx_iinc C (v := a.2.1 + 1) (lv' := [(3, .int (a.2.1 + 1)), (1, .int (a.1 + 0)), (0, .ref (gx_ad E 29)), (2, .int v2)]) 3 d_Mod_worthNow_46 rfl rfl (by decide) rfl ?_
      refine gx_goto (tgt := 14) C d_Mod_worthNow_49 (by decide) ?_
      cases hf
      refine gx_lv (lv' := [(0, .ref (gx_ad E 29)), (1, .int (a.1 + 0)), (2, .int v2), (3, .int (a.2.1 + 1))]) [2, 1, 3, 0] rfl ?_
      exact hk
    · have hf := (if_pos h4).symm.trans hf
      refine gx_aload_n C 0 d_Mod_worthNow_29 rfl rfl ?_
      refine gx_get C iw_Mod 29 (gx_w29 E _) rfl 10 (by decide) gw_684 rfl rfl d_Mod_worthNow_30 ?_
      refine gx_bipush C (v := 7) d_Mod_worthNow_33 (by decide) ?_
      refine gx_iload_n C 2 d_Mod_worthNow_35 rfl rfl ?_
      refine gx_imul C d_Mod_worthNow_36 ?_
      refine gx_iload_n C 3 d_Mod_worthNow_37 rfl rfl ?_
      refine gx_iadd C d_Mod_worthNow_38 ?_
      obtain ⟨hi5, hf⟩ := gx_ck_some hf
      refine gx_iald C 36 0 (gx_w36 E _) rfl hi5 d_Mod_worthNow_39 ?_
      refine gx_goto (tgt := 44) C d_Mod_worthNow_40 (by decide) ?_
      refine gx_iadd C d_Mod_worthNow_44 ?_
      refine gx_istore_n C (lv' := [(1, .int (a.1 + (gx_gA x3 26 ((7 * v2) + a.2.1 : Int32).toNatClampNeg))), (0, .ref (gx_ad E 29)), (2, .int v2), (3, .int a.2.1)]) d_Mod_worthNow_45 rfl (by decide) rfl ?_
      refine gx_iinc C (v := a.2.1 + 1) (lv' := [(3, .int (a.2.1 + 1)), (1, .int (a.1 + (gx_gA x3 26 ((7 * v2) + a.2.1 : Int32).toNatClampNeg))), (0, .ref (gx_ad E 29)), (2, .int v2)]) 3 d_Mod_worthNow_46 rfl rfl (by decide) rfl ?_
      refine gx_goto (tgt := 14) C d_Mod_worthNow_49 (by decide) ?_
      cases hf
      refine gx_lv (lv' := [(0, .ref (gx_ad E 29)), (1, .int (a.1 + (gx_gA x3 26 ((7 * v2) + a.2.1 : Int32).toNatClampNeg))), (2, .int v2), (3, .int (a.2.1 + 1))]) [2, 1, 3, 0] rfl ?_
      exact hk
set_option maxHeartbeats 4000000 in
set_option maxRecDepth 100000 in
theorem sc_CaseLayoutModel_worthNow_4 {K : gx_K} {E : gx_E} (C : gx_C K E "CaseLayoutModel" prog_10_method_33_code 4) (hR : K.R = rm_CaseLayoutModel_worthNow) (hr : K.meth.sig.returnType = (some .int)) (hlk : K.meth.locks = false)  (a : Int32 × Int32 × gx_S) (o : (Int32 × Int32 × gx_S) ⊕ (Nat × Int32 × Int32 × gx_S)) (hf : s_CaseLayoutModel_worthNow_4  a = some o) (hk : gx_or (pp_CaseLayoutModel_worthNow_4 K E ) (pq_CaseLayoutModel_worthNow_4 K E ) o) : pp_CaseLayoutModel_worthNow_4 K E  a := by
  unfold s_CaseLayoutModel_worthNow_4 at hf
  unfold pp_CaseLayoutModel_worthNow_4
  refine gx_iload_n C 2 d_Mod_worthNow_4 rfl rfl ?_
  refine gx_aload_n C 0 d_Mod_worthNow_5 rfl rfl ?_
  refine gx_get C iw_Mod 29 (gx_w29 E _) rfl 5 (by decide) gw_679 rfl rfl d_Mod_worthNow_6 ?_
  refine gx_icmp_ge (tgt := 58) C d_Mod_worthNow_9 (by decide) (fun h1 => ?_) (fun h1 => ?_)
  · have hf := (if_pos h1).symm.trans hf
    cases hf
    have hk : pq_CaseLayoutModel_worthNow_4 K E  _ := hk
    unfold pq_CaseLayoutModel_worthNow_4 at hk
    refine gx_lv (lv' := [(1, .int a.1)]) [1] rfl ?_
    exact hk
  · have hf := (if_neg h1).symm.trans hf
    refine gx_iconst C (v := 0) d_Mod_worthNow_12 (by decide) ?_
    refine gx_istore_n C (lv' := [(3, .int 0), (0, .ref (gx_ad E 29)), (1, .int a.1), (2, .int a.2.1)]) d_Mod_worthNow_13 rfl (by decide) rfl ?_
    refine gx_lv (lv' := [(0, .ref (gx_ad E 29)), (1, .int a.1), (2, .int a.2.1), (3, .int 0)]) [1, 2, 3, 0] rfl ?_
    obtain ⟨e6, he6, hf⟩ := gx_bl_some hf
    refine (gx_loop (P := pp_CaseLayoutModel_worthNow_14 K E a.2.1) (Q := pq_CaseLayoutModel_worthNow_14 K E a.2.1) (fun a9 o9 h1 h2 => sc_CaseLayoutModel_worthNow_14 C hR hr hlk a.2.1 a9 o9 h1 h2) gx_fuel (a.1, 0, a.2.2) e6 he6 ?_ : pp_CaseLayoutModel_worthNow_14 K E a.2.1 (a.1, 0, a.2.2))
    unfold pq_CaseLayoutModel_worthNow_14
    refine gx_iinc C (v := a.2.1 + 1) (lv' := [(2, .int (a.2.1 + 1)), (0, .ref (gx_ad E 29)), (1, .int e6.2.1)]) 2 d_Mod_worthNow_52 rfl rfl (by decide) rfl ?_
    refine gx_goto (tgt := 4) C d_Mod_worthNow_55 (by decide) ?_
    cases hf
    refine gx_lv (lv' := [(0, .ref (gx_ad E 29)), (1, .int e6.2.1), (2, .int (a.2.1 + 1))]) [1, 2, 0] rfl ?_
    exact hk
set_option maxHeartbeats 4000000 in
set_option maxRecDepth 100000 in
theorem c_CaseLayoutModel_worthNow (l : Launch)  (x : gx_S) (o : Int32 × gx_S) (hf : f_CaseLayoutModel_worthNow  x = some o) : gx_Mi false l y_Mod_worthNow prog_10_method_33_code 4 (some .int) rm_CaseLayoutModel_worthNow (fun E => [.ref (gx_ad E 29)]) x o.1 o.2 := by
  refine gx_meti (own := "CaseLayoutModel") (by decide) rfl (fun E => Nat.le_of_ble_eq_true rfl) (fun K E hl0 hR hr hlk hk C => ?_)
  subst hl0
  unfold f_CaseLayoutModel_worthNow at hf
  show gx_G K E _ 0 0 x 0 [(0, .ref (gx_ad E 29))] []
  refine gx_iconst C (v := 0) d_Mod_worthNow_0 (by decide) ?_
  refine gx_istore_n C (lv' := [(1, .int 0), (0, .ref (gx_ad E 29))]) d_Mod_worthNow_1 rfl (by decide) rfl ?_
  refine gx_iconst C (v := 0) d_Mod_worthNow_2 (by decide) ?_
  refine gx_istore_n C (lv' := [(2, .int 0), (1, .int 0), (0, .ref (gx_ad E 29))]) d_Mod_worthNow_3 rfl (by decide) rfl ?_
  refine gx_lv (lv' := [(0, .ref (gx_ad E 29)), (1, .int 0), (2, .int 0)]) [2, 1, 0] rfl ?_
  obtain ⟨e7, he7, hf⟩ := gx_bl_some hf
  refine (gx_loop (P := pp_CaseLayoutModel_worthNow_4 K E ) (Q := pq_CaseLayoutModel_worthNow_4 K E ) (fun a9 o9 h1 h2 => sc_CaseLayoutModel_worthNow_4 C hR hr hlk  a9 o9 h1 h2) gx_fuel (0, 0, x) e7 he7 ?_ : pp_CaseLayoutModel_worthNow_4 K E  (0, 0, x))
  unfold pq_CaseLayoutModel_worthNow_4
  refine gx_iload_n C 0 d_Mod_worthNow_58 rfl rfl ?_
  cases hf
  exact gx_iret C hr hlk hk d_Mod_worthNow_59

def s_CaseLayoutModel_keep_33  (a : Int32 × gx_S) : Option ((Int32 × gx_S) ⊕ (Nat × Int32 × gx_S)) :=
  if (gx_gI a.2 14) ≤ a.1 then (some (.inr (0, a.1, a.2))) else (gx_ck a.1 7 (gx_ck a.1 7 (gx_ck a.1 7 (gx_ck a.1 7 (some (.inl (a.1 + 1, gx_sA (gx_sA a.2 35 (a.1 : Int32).toNatClampNeg (gx_gA a.2 32 (a.1 : Int32).toNatClampNeg)) 36 (a.1 : Int32).toNatClampNeg (gx_gA (gx_sA a.2 35 (a.1 : Int32).toNatClampNeg (gx_gA a.2 32 (a.1 : Int32).toNatClampNeg)) 33 (a.1 : Int32).toNatClampNeg))))))))
def j_CaseLayoutModel_keep_21 (v1 : Int32) (x : gx_S) : Option (Int32 × gx_S) :=
  gx_bl (gx_it (s_CaseLayoutModel_keep_33 ) gx_fuel (0, gx_sI (gx_sI x 18 1) 19 v1)) (fun e8 => some (0, e8.2.2))
def f_CaseLayoutModel_keep  (x : gx_S) : Option (Int32 × gx_S) :=
  gx_bd (f_CaseLayoutModel_worthNow  x) (fun r1 x1 => if (gx_gI x1 18) = 0 then (j_CaseLayoutModel_keep_21 r1  x1) else (if (gx_gI x1 19) < r1 then (j_CaseLayoutModel_keep_21 r1  x1) else (some (0, x1))))
abbrev rm_CaseLayoutModel_keep : Room := { frames := 3, cells := 0, slots := 0, locals := 70 }
def pp_CaseLayoutModel_keep_33 (K : gx_K) (E : gx_E)  (a : Int32 × gx_S) : Prop := gx_G K E (gx_AB true E K.s.heap.size) 0 0 (a.2) 33 [(0, .ref (gx_ad E 29)), (2, .int a.1)] []
def pq_CaseLayoutModel_keep_33 (K : gx_K) (E : gx_E)  (b : Nat × Int32 × gx_S) : Prop := gx_G K E (gx_AB true E K.s.heap.size) 0 0 (b.2.2) 71 [] []
set_option maxHeartbeats 4000000 in
set_option maxRecDepth 100000 in
theorem sc_CaseLayoutModel_keep_33 {K : gx_K} {E : gx_E} (C : gx_C K E "CaseLayoutModel" prog_10_method_34_code 3) (hR : K.R = rm_CaseLayoutModel_keep) (hr : K.meth.sig.returnType = none) (hlk : K.meth.locks = false)  (a : Int32 × gx_S) (o : (Int32 × gx_S) ⊕ (Nat × Int32 × gx_S)) (hf : s_CaseLayoutModel_keep_33  a = some o) (hk : gx_or (pp_CaseLayoutModel_keep_33 K E ) (pq_CaseLayoutModel_keep_33 K E ) o) : pp_CaseLayoutModel_keep_33 K E  a := by
  unfold s_CaseLayoutModel_keep_33 at hf
  unfold pp_CaseLayoutModel_keep_33
  refine gx_iload_n C 1 d_Mod_keep_33 rfl rfl ?_
  refine gx_aload_n C 0 d_Mod_keep_34 rfl rfl ?_
  refine gx_get C iw_Mod 29 (gx_w29 E _) rfl 5 (by decide) gw_679 rfl rfl d_Mod_keep_35 ?_
  refine gx_icmp_ge (tgt := 71) C d_Mod_keep_38 (by decide) (fun h3 => ?_) (fun h3 => ?_)
  · have hf := (if_pos h3).symm.trans hf
    cases hf
    have hk : pq_CaseLayoutModel_keep_33 K E  _ := hk
    unfold pq_CaseLayoutModel_keep_33 at hk
    refine gx_lv (lv' := []) [] rfl ?_
    exact hk
  · have hf := (if_neg h3).symm.trans hf
    refine gx_aload_n C 0 d_Mod_keep_41 rfl rfl ?_
    refine gx_get C iw_Mod 29 (gx_w29 E _) rfl 22 (by decide) gw_696 rfl rfl d_Mod_keep_42 ?_
    refine gx_iload_n C 1 d_Mod_keep_45 rfl rfl ?_
    refine gx_aload_n C 0 d_Mod_keep_46 rfl rfl ?_
    refine gx_get C iw_Mod 29 (gx_w29 E _) rfl 19 (by decide) gw_693 rfl rfl d_Mod_keep_47 ?_
    refine gx_iload_n C 1 d_Mod_keep_50 rfl rfl ?_
    obtain ⟨hi4, hf⟩ := gx_ck_some hf
    refine gx_iald C 42 0 (gx_w42 E _) rfl hi4 d_Mod_keep_51 ?_
    obtain ⟨hi5, hf⟩ := gx_ck_some hf
    refine gx_iast C (x' := gx_sA a.2 35 (a.1 : Int32).toNatClampNeg (gx_gA a.2 32 (a.1 : Int32).toNatClampNeg)) 45 0 (gx_w45 E _) rfl hi5 (gx_q45 E _ _ _) d_Mod_keep_52 ?_
    refine gx_aload_n C 0 d_Mod_keep_53 rfl rfl ?_
    refine gx_get C iw_Mod 29 (gx_w29 E _) rfl 23 (by decide) gw_697 rfl rfl d_Mod_keep_54 ?_
    refine gx_iload_n C 1 d_Mod_keep_57 rfl rfl ?_
    refine gx_aload_n C 0 d_Mod_keep_58 rfl rfl ?_
    refine gx_get C iw_Mod 29 (gx_w29 E _) rfl 20 (by decide) gw_694 rfl rfl d_Mod_keep_59 ?_
    refine gx_iload_n C 1 d_Mod_keep_62 rfl rfl ?_
    obtain ⟨hi6, hf⟩ := gx_ck_some hf
    refine gx_iald C 43 0 (gx_w43 E _) rfl hi6 d_Mod_keep_63 ?_
    obtain ⟨hi7, hf⟩ := gx_ck_some hf
    refine gx_iast C (x' := gx_sA (gx_sA a.2 35 (a.1 : Int32).toNatClampNeg (gx_gA a.2 32 (a.1 : Int32).toNatClampNeg)) 36 (a.1 : Int32).toNatClampNeg (gx_gA (gx_sA a.2 35 (a.1 : Int32).toNatClampNeg (gx_gA a.2 32 (a.1 : Int32).toNatClampNeg)) 33 (a.1 : Int32).toNatClampNeg)) 46 0 (gx_w46 E _) rfl hi7 (gx_q46 E _ _ _) d_Mod_keep_64 ?_
    refine gx_iinc C (v := a.1 + 1) (lv' := [(2, .int (a.1 + 1)), (0, .ref (gx_ad E 29))]) 1 d_Mod_keep_65 rfl rfl (by decide) rfl ?_
    refine gx_goto (tgt := 33) C d_Mod_keep_68 (by decide) ?_
    cases hf
    refine gx_lv (lv' := [(0, .ref (gx_ad E 29)), (2, .int (a.1 + 1))]) [1, 0] rfl ?_
    exact hk
set_option maxHeartbeats 4000000 in
set_option maxRecDepth 100000 in
theorem jc_CaseLayoutModel_keep_21 {K : gx_K} {E : gx_E} (C : gx_C K E "CaseLayoutModel" prog_10_method_34_code 3) (hR : K.R = rm_CaseLayoutModel_keep) (hr : K.meth.sig.returnType = none) (hlk : K.meth.locks = false) (v1 : Int32) (x : gx_S) (o : Int32 × gx_S) (hf : j_CaseLayoutModel_keep_21 v1 x = some o) (hk : ∀ t, MQ K.below (gx_Qv E (gx_AB true E K.s.heap.size) o.2) K.args K.s 0 0 (gx_AB true E K.s.heap.size) t → K.Q t) : gx_G K E (gx_AB true E K.s.heap.size) 0 0 x 21 [(0, .ref (gx_ad E 29)), (1, .int v1)] [] := by
  unfold j_CaseLayoutModel_keep_21 at hf
  refine gx_aload_n C 0 d_Mod_keep_21 rfl rfl ?_
  refine gx_iconst C (v := 1) d_Mod_keep_22 (by decide) ?_
  refine gx_put C (ty := .boolean) (x' := gx_sI x 18 1) iw_Mod ty_Mod tk_Mod tn_Mod 29 (gx_w29 E _) rfl 24 (by decide) gw_698 rfl rfl (by decide +kernel) rfl rfl (Nat.le_of_ble_eq_true rfl) (gx_p29_24 E _ _) d_Mod_keep_23 ?_
  refine gx_aload_n C 0 d_Mod_keep_26 rfl rfl ?_
  refine gx_iload_n C 1 d_Mod_keep_27 rfl rfl ?_
  refine gx_put C (ty := .int) (x' := gx_sI (gx_sI x 18 1) 19 v1) iw_Mod ty_Mod tk_Mod tn_Mod 29 (gx_w29 E _) rfl 25 (by decide) gw_699 rfl rfl (by decide +kernel) rfl rfl (Nat.le_of_ble_eq_true rfl) (gx_p29_25 E _ _) d_Mod_keep_28 ?_
  refine gx_iconst C (v := 0) d_Mod_keep_31 (by decide) ?_
  refine gx_istore_n C (lv' := [(2, .int 0), (0, .ref (gx_ad E 29)), (1, .int v1)]) d_Mod_keep_32 rfl (by decide) rfl ?_
  refine gx_lv (lv' := [(0, .ref (gx_ad E 29)), (2, .int 0)]) [1, 0] rfl ?_
  obtain ⟨e8, he8, hf⟩ := gx_bl_some hf
  refine (gx_loop (P := pp_CaseLayoutModel_keep_33 K E ) (Q := pq_CaseLayoutModel_keep_33 K E ) (fun a9 o9 h1 h2 => sc_CaseLayoutModel_keep_33 C hR hr hlk  a9 o9 h1 h2) gx_fuel (0, gx_sI (gx_sI x 18 1) 19 v1) e8 he8 ?_ : pp_CaseLayoutModel_keep_33 K E  (0, gx_sI (gx_sI x 18 1) 19 v1))
  unfold pq_CaseLayoutModel_keep_33
  cases hf
  exact gx_vret C hr hlk hk d_Mod_keep_71
set_option maxHeartbeats 4000000 in
set_option maxRecDepth 100000 in
theorem c_CaseLayoutModel_keep (l : Launch)  (x : gx_S) (o : Int32 × gx_S) (hf : f_CaseLayoutModel_keep  x = some o) : gx_Mv true l y_Mod_keep prog_10_method_34_code 3 rm_CaseLayoutModel_keep (fun E => [.ref (gx_ad E 29)]) x o.2 := by
  refine gx_metv (own := "CaseLayoutModel") (by decide) rfl (fun E => Nat.le_of_ble_eq_true rfl) (fun K E hl0 hR hr hlk hk C => ?_)
  subst hl0
  unfold f_CaseLayoutModel_keep at hf
  show gx_G K E _ 0 0 x 0 [(0, .ref (gx_ad E 29))] []
  refine gx_aload_n C 0 d_Mod_keep_0 rfl rfl ?_
  obtain ⟨r1, x1, hc1, hf⟩ := gx_bd_some hf
  refine gx_cVi (n2 := 0) (k2 := 0) C (As := []) (rest := []) 29 0 (c_CaseLayoutModel_worthNow K.l  x _ hc1) (Or.inl rfl) rfl (gx_goodV gw_872 gw_874 gs_31 gw_10 gw_875) (by decide +kernel) (gx_w29 E _) rfl (by rw [hR]; decide) rfl rfl (Nat.le_of_ble_eq_true rfl) d_Mod_keep_1 (by rw [hR]; decide) rfl rfl ?_
  refine gx_istore_n C (lv' := [(1, .int r1), (0, .ref (gx_ad E 29))]) d_Mod_keep_4 rfl (by decide) rfl ?_
  refine gx_aload_n C 1 d_Mod_keep_5 rfl rfl ?_
  refine gx_get C iw_Mod 29 (gx_w29 E _) rfl 24 (by decide) gw_698 rfl rfl d_Mod_keep_6 ?_
  refine gx_if_eq (tgt := 21) C d_Mod_keep_9 (by decide) (fun h2 => ?_) (fun h2 => ?_)
  · have hf := (if_pos h2).symm.trans hf
    refine gx_lv (lv' := [(0, .ref (gx_ad E 29)), (1, .int r1)]) [1, 0] rfl ?_
    exact jc_CaseLayoutModel_keep_21 C hR hr hlk r1  x1 _ hf hk
  · have hf := (if_neg h2).symm.trans hf
    refine gx_iload_n C 0 d_Mod_keep_12 rfl rfl ?_
    refine gx_aload_n C 1 d_Mod_keep_13 rfl rfl ?_
    refine gx_get C iw_Mod 29 (gx_w29 E _) rfl 25 (by decide) gw_699 rfl rfl d_Mod_keep_14 ?_
    refine gx_icmp_gt (tgt := 21) C d_Mod_keep_17 (by decide) (fun h9 => ?_) (fun h9 => ?_)
    · have hf := (if_pos h9).symm.trans hf
      refine gx_lv (lv' := [(0, .ref (gx_ad E 29)), (1, .int r1)]) [1, 0] rfl ?_
      exact jc_CaseLayoutModel_keep_21 C hR hr hlk r1  x1 _ hf hk
    · have hf := (if_neg h9).symm.trans hf
      cases hf
      exact gx_vret C hr hlk hk d_Mod_keep_20

def s_CaseLayoutModel_search_9 (v1 : Int32) (a : Int32 × gx_S) : Option ((Int32 × gx_S) ⊕ (Nat × Int32 × gx_S)) :=
  if a.1 < 0 then (some (.inr (1, a.1, a.2))) else (if a.1 = (gx_gI a.2 14) then (gx_bd (f_CaseLayoutModel_isLayout  a.2) (fun r18 x18 => if r18 = 0 then (some (.inl (a.1 + (-1), x18))) else (gx_bd (f_CaseLayoutModel_keep  x18) (fun r20 x20 => some (.inl (a.1 + (-1), x20)))))) else (gx_ck a.1 8 (if (gx_gA a.2 34 (a.1 : Int32).toNatClampNeg) = ((gx_gI a.2 12) * (gx_gI a.2 13)) then (some (.inl (a.1 + (-1), a.2))) else (gx_ck a.1 8 (gx_nz (gx_gI a.2 12) (gx_ck a.1 7 (gx_ck a.1 8 (gx_nz (gx_gI (gx_sA a.2 32 (a.1 : Int32).toNatClampNeg ((gx_gA a.2 34 (a.1 : Int32).toNatClampNeg) - (gx_gA a.2 34 (a.1 : Int32).toNatClampNeg) / (gx_gI a.2 12) * (gx_gI a.2 12))) 12) (gx_ck a.1 7 (gx_ck a.1 8 (gx_ck a.1 8 (gx_bd (f_CaseLayoutModel_lies a.1 (gx_sA (gx_sA (gx_sA a.2 32 (a.1 : Int32).toNatClampNeg ((gx_gA a.2 34 (a.1 : Int32).toNatClampNeg) - (gx_gA a.2 34 (a.1 : Int32).toNatClampNeg) / (gx_gI a.2 12) * (gx_gI a.2 12))) 33 (a.1 : Int32).toNatClampNeg ((gx_gA (gx_sA a.2 32 (a.1 : Int32).toNatClampNeg ((gx_gA a.2 34 (a.1 : Int32).toNatClampNeg) - (gx_gA a.2 34 (a.1 : Int32).toNatClampNeg) / (gx_gI a.2 12) * (gx_gI a.2 12))) 34 (a.1 : Int32).toNatClampNeg) / (gx_gI (gx_sA a.2 32 (a.1 : Int32).toNatClampNeg ((gx_gA a.2 34 (a.1 : Int32).toNatClampNeg) - (gx_gA a.2 34 (a.1 : Int32).toNatClampNeg) / (gx_gI a.2 12) * (gx_gI a.2 12))) 12))) 34 (a.1 : Int32).toNatClampNeg ((gx_gA (gx_sA (gx_sA a.2 32 (a.1 : Int32).toNatClampNeg ((gx_gA a.2 34 (a.1 : Int32).toNatClampNeg) - (gx_gA a.2 34 (a.1 : Int32).toNatClampNeg) / (gx_gI a.2 12) * (gx_gI a.2 12))) 33 (a.1 : Int32).toNatClampNeg ((gx_gA (gx_sA a.2 32 (a.1 : Int32).toNatClampNeg ((gx_gA a.2 34 (a.1 : Int32).toNatClampNeg) - (gx_gA a.2 34 (a.1 : Int32).toNatClampNeg) / (gx_gI a.2 12) * (gx_gI a.2 12))) 34 (a.1 : Int32).toNatClampNeg) / (gx_gI (gx_sA a.2 32 (a.1 : Int32).toNatClampNeg ((gx_gA a.2 34 (a.1 : Int32).toNatClampNeg) - (gx_gA a.2 34 (a.1 : Int32).toNatClampNeg) / (gx_gI a.2 12) * (gx_gI a.2 12))) 12))) 34 (a.1 : Int32).toNatClampNeg) + 1))) (fun r14 x14 => if r14 = 0 then (some (.inl (a.1, x14))) else (if (gx_gI x14 20) = v1 then (some (.inr (0, a.1, x14))) else (gx_ck (a.1 + 1) 8 (some (.inl (a.1 + 1, gx_sA (gx_sI x14 20 ((gx_gI x14 20) + 1)) 34 (a.1 + 1 : Int32).toNatClampNeg 0))))))))))))))))))
def f_CaseLayoutModel_search (a1 : Int32) (x : gx_S) : Option (Int32 × gx_S) :=
  gx_ck 0 8 (gx_bl (gx_it (s_CaseLayoutModel_search_9 a1) gx_fuel (0, gx_sA x 34 (0 : Int32).toNatClampNeg 0)) (fun e21 => if e21.1 = 0 then (some (0, e21.2.2)) else (some (1, e21.2.2))))
abbrev rm_CaseLayoutModel_search : Room := { frames := 5, cells := 0, slots := 0, locals := 116 }
def pp_CaseLayoutModel_search_9 (K : gx_K) (E : gx_E) (v1 : Int32) (a : Int32 × gx_S) : Prop := gx_G K E (gx_AB true E K.s.heap.size) 0 0 (a.2) 9 [(0, .ref (gx_ad E 29)), (1, .int v1), (2, .int a.1)] []
def pq_CaseLayoutModel_search_9 (K : gx_K) (E : gx_E) (v1 : Int32) (b : Nat × Int32 × gx_S) : Prop := if b.1 = 0 then gx_G K E (gx_AB true E K.s.heap.size) 0 0 (b.2.2) 125 [] [] else (gx_G K E (gx_AB true E K.s.heap.size) 0 0 (b.2.2) 150 [] [])
set_option maxHeartbeats 4000000 in
set_option maxRecDepth 100000 in
theorem sc_CaseLayoutModel_search_9 {K : gx_K} {E : gx_E} (C : gx_C K E "CaseLayoutModel" prog_10_method_35_code 3) (hR : K.R = rm_CaseLayoutModel_search) (hr : K.meth.sig.returnType = (some .boolean)) (hlk : K.meth.locks = false) (v1 : Int32) (a : Int32 × gx_S) (o : (Int32 × gx_S) ⊕ (Nat × Int32 × gx_S)) (hf : s_CaseLayoutModel_search_9 v1 a = some o) (hk : gx_or (pp_CaseLayoutModel_search_9 K E v1) (pq_CaseLayoutModel_search_9 K E v1) o) : pp_CaseLayoutModel_search_9 K E v1 a := by
  unfold s_CaseLayoutModel_search_9 at hf
  unfold pp_CaseLayoutModel_search_9
  refine gx_iload_n C 2 d_Mod_search_9 rfl rfl ?_
  refine gx_if_lt (tgt := 150) C d_Mod_search_10 (by decide) (fun h2 => ?_) (fun h2 => ?_)
  · have hf := (if_pos h2).symm.trans hf
    cases hf
    have hk : pq_CaseLayoutModel_search_9 K E v1 _ := hk
    unfold pq_CaseLayoutModel_search_9 at hk
    have hk := gx_ifn (by decide : ¬ ((1 : Nat) = 0)) hk
    refine gx_lv (lv' := []) [] rfl ?_
    exact hk
  · have hf := (if_neg h2).symm.trans hf
    refine gx_iload_n C 2 d_Mod_search_13 rfl rfl ?_
    refine gx_aload_n C 0 d_Mod_search_14 rfl rfl ?_
    refine gx_get C iw_Mod 29 (gx_w29 E _) rfl 5 (by decide) gw_679 rfl rfl d_Mod_search_15 ?_
    refine gx_icmp_ne (tgt := 38) C d_Mod_search_18 (by decide) (fun h3 => ?_) (fun h3 => ?_)
    · have hf := (if_neg h3).symm.trans hf
      refine gx_aload_n C 0 d_Mod_search_38 rfl rfl ?_
      refine gx_get C iw_Mod 29 (gx_w29 E _) rfl 21 (by decide) gw_695 rfl rfl d_Mod_search_39 ?_
      refine gx_iload_n C 2 d_Mod_search_42 rfl rfl ?_
      obtain ⟨hi4, hf⟩ := gx_ck_some hf
      refine gx_iald C 44 0 (gx_w44 E _) rfl hi4 d_Mod_search_43 ?_
      refine gx_aload_n C 0 d_Mod_search_44 rfl rfl ?_
      refine gx_get C iw_Mod 29 (gx_w29 E _) rfl 1 (by decide) gw_675 rfl rfl d_Mod_search_45 ?_
      refine gx_aload_n C 0 d_Mod_search_48 rfl rfl ?_
      refine gx_get C iw_Mod 29 (gx_w29 E _) rfl 2 (by decide) gw_676 rfl rfl d_Mod_search_49 ?_
      refine gx_imul C d_Mod_search_52 ?_
      refine gx_icmp_ne (tgt := 62) C d_Mod_search_53 (by decide) (fun h5 => ?_) (fun h5 => ?_)
      · have hf := (if_neg h5).symm.trans hf
        refine gx_aload_n C 0 d_Mod_search_62 rfl rfl ?_
        refine gx_get C iw_Mod 29 (gx_w29 E _) rfl 19 (by decide) gw_693 rfl rfl d_Mod_search_63 ?_
        refine gx_iload_n C 2 d_Mod_search_66 rfl rfl ?_
        refine gx_aload_n C 0 d_Mod_search_67 rfl rfl ?_
        refine gx_get C iw_Mod 29 (gx_w29 E _) rfl 21 (by decide) gw_695 rfl rfl d_Mod_search_68 ?_
        refine gx_iload_n C 2 d_Mod_search_71 rfl rfl ?_
        obtain ⟨hi6, hf⟩ := gx_ck_some hf
        refine gx_iald C 44 0 (gx_w44 E _) rfl hi6 d_Mod_search_72 ?_
        refine gx_aload_n C 0 d_Mod_search_73 rfl rfl ?_
        refine gx_get C iw_Mod 29 (gx_w29 E _) rfl 1 (by decide) gw_675 rfl rfl d_Mod_search_74 ?_
        obtain ⟨hz7, hf⟩ := gx_nz_some hf
        refine gx_irem C d_Mod_search_77 hz7 ?_
        obtain ⟨hi8, hf⟩ := gx_ck_some hf
        refine gx_iast C (x' := gx_sA a.2 32 (a.1 : Int32).toNatClampNeg ((gx_gA a.2 34 (a.1 : Int32).toNatClampNeg) - (gx_gA a.2 34 (a.1 : Int32).toNatClampNeg) / (gx_gI a.2 12) * (gx_gI a.2 12))) 42 0 (gx_w42 E _) rfl hi8 (gx_q42 E _ _ _) d_Mod_search_78 ?_
        refine gx_aload_n C 0 d_Mod_search_79 rfl rfl ?_
        refine gx_get C iw_Mod 29 (gx_w29 E _) rfl 20 (by decide) gw_694 rfl rfl d_Mod_search_80 ?_
        refine gx_iload_n C 2 d_Mod_search_83 rfl rfl ?_
        refine gx_aload_n C 0 d_Mod_search_84 rfl rfl ?_
        refine gx_get C iw_Mod 29 (gx_w29 E _) rfl 21 (by decide) gw_695 rfl rfl d_Mod_search_85 ?_
        refine gx_iload_n C 2 d_Mod_search_88 rfl rfl ?_
        obtain ⟨hi9, hf⟩ := gx_ck_some hf
        refine gx_iald C 44 0 (gx_w44 E _) rfl hi9 d_Mod_search_89 ?_
        refine gx_aload_n C 0 d_Mod_search_90 rfl rfl ?_
        refine gx_get C iw_Mod 29 (gx_w29 E _) rfl 1 (by decide) gw_675 rfl rfl d_Mod_search_91 ?_
        obtain ⟨hz10, hf⟩ := gx_nz_some hf
        refine gx_idiv C d_Mod_search_94 hz10 ?_
        obtain ⟨hi11, hf⟩ := gx_ck_some hf
        refine gx_iast C (x' := gx_sA (gx_sA a.2 32 (a.1 : Int32).toNatClampNeg ((gx_gA a.2 34 (a.1 : Int32).toNatClampNeg) - (gx_gA a.2 34 (a.1 : Int32).toNatClampNeg) / (gx_gI a.2 12) * (gx_gI a.2 12))) 33 (a.1 : Int32).toNatClampNeg ((gx_gA (gx_sA a.2 32 (a.1 : Int32).toNatClampNeg ((gx_gA a.2 34 (a.1 : Int32).toNatClampNeg) - (gx_gA a.2 34 (a.1 : Int32).toNatClampNeg) / (gx_gI a.2 12) * (gx_gI a.2 12))) 34 (a.1 : Int32).toNatClampNeg) / (gx_gI (gx_sA a.2 32 (a.1 : Int32).toNatClampNeg ((gx_gA a.2 34 (a.1 : Int32).toNatClampNeg) - (gx_gA a.2 34 (a.1 : Int32).toNatClampNeg) / (gx_gI a.2 12) * (gx_gI a.2 12))) 12))) 43 0 (gx_w43 E _) rfl hi11 (gx_q43 E _ _ _) d_Mod_search_95 ?_
        refine gx_aload_n C 0 d_Mod_search_96 rfl rfl ?_
        refine gx_get C iw_Mod 29 (gx_w29 E _) rfl 21 (by decide) gw_695 rfl rfl d_Mod_search_97 ?_
        refine gx_iload_n C 2 d_Mod_search_100 rfl rfl ?_
        refine gx_dup2 C d_Mod_search_101 rfl rfl ?_
        obtain ⟨hi12, hf⟩ := gx_ck_some hf
        refine gx_iald C 44 0 (gx_w44 E _) rfl hi12 d_Mod_search_102 ?_
        refine gx_iconst C (v := 1) d_Mod_search_103 (by decide) ?_
        refine gx_iadd C d_Mod_search_104 ?_
        obtain ⟨hi13, hf⟩ := gx_ck_some hf
        refine gx_iast C (x' := gx_sA (gx_sA (gx_sA a.2 32 (a.1 : Int32).toNatClampNeg ((gx_gA a.2 34 (a.1 : Int32).toNatClampNeg) - (gx_gA a.2 34 (a.1 : Int32).toNatClampNeg) / (gx_gI a.2 12) * (gx_gI a.2 12))) 33 (a.1 : Int32).toNatClampNeg ((gx_gA (gx_sA a.2 32 (a.1 : Int32).toNatClampNeg ((gx_gA a.2 34 (a.1 : Int32).toNatClampNeg) - (gx_gA a.2 34 (a.1 : Int32).toNatClampNeg) / (gx_gI a.2 12) * (gx_gI a.2 12))) 34 (a.1 : Int32).toNatClampNeg) / (gx_gI (gx_sA a.2 32 (a.1 : Int32).toNatClampNeg ((gx_gA a.2 34 (a.1 : Int32).toNatClampNeg) - (gx_gA a.2 34 (a.1 : Int32).toNatClampNeg) / (gx_gI a.2 12) * (gx_gI a.2 12))) 12))) 34 (a.1 : Int32).toNatClampNeg ((gx_gA (gx_sA (gx_sA a.2 32 (a.1 : Int32).toNatClampNeg ((gx_gA a.2 34 (a.1 : Int32).toNatClampNeg) - (gx_gA a.2 34 (a.1 : Int32).toNatClampNeg) / (gx_gI a.2 12) * (gx_gI a.2 12))) 33 (a.1 : Int32).toNatClampNeg ((gx_gA (gx_sA a.2 32 (a.1 : Int32).toNatClampNeg ((gx_gA a.2 34 (a.1 : Int32).toNatClampNeg) - (gx_gA a.2 34 (a.1 : Int32).toNatClampNeg) / (gx_gI a.2 12) * (gx_gI a.2 12))) 34 (a.1 : Int32).toNatClampNeg) / (gx_gI (gx_sA a.2 32 (a.1 : Int32).toNatClampNeg ((gx_gA a.2 34 (a.1 : Int32).toNatClampNeg) - (gx_gA a.2 34 (a.1 : Int32).toNatClampNeg) / (gx_gI a.2 12) * (gx_gI a.2 12))) 12))) 34 (a.1 : Int32).toNatClampNeg) + 1)) 44 0 (gx_w44 E _) rfl hi13 (gx_q44 E _ _ _) d_Mod_search_105 ?_
        refine gx_aload_n C 0 d_Mod_search_106 rfl rfl ?_
        refine gx_iload_n C 2 d_Mod_search_107 rfl rfl ?_
        obtain ⟨r14, x14, hc14, hf⟩ := gx_bd_some hf
        refine gx_cVi (n2 := 0) (k2 := 0) C (As := [.int a.1]) (rest := []) 29 1 (c_CaseLayoutModel_lies K.l a.1 (gx_sA (gx_sA (gx_sA a.2 32 (a.1 : Int32).toNatClampNeg ((gx_gA a.2 34 (a.1 : Int32).toNatClampNeg) - (gx_gA a.2 34 (a.1 : Int32).toNatClampNeg) / (gx_gI a.2 12) * (gx_gI a.2 12))) 33 (a.1 : Int32).toNatClampNeg ((gx_gA (gx_sA a.2 32 (a.1 : Int32).toNatClampNeg ((gx_gA a.2 34 (a.1 : Int32).toNatClampNeg) - (gx_gA a.2 34 (a.1 : Int32).toNatClampNeg) / (gx_gI a.2 12) * (gx_gI a.2 12))) 34 (a.1 : Int32).toNatClampNeg) / (gx_gI (gx_sA a.2 32 (a.1 : Int32).toNatClampNeg ((gx_gA a.2 34 (a.1 : Int32).toNatClampNeg) - (gx_gA a.2 34 (a.1 : Int32).toNatClampNeg) / (gx_gI a.2 12) * (gx_gI a.2 12))) 12))) 34 (a.1 : Int32).toNatClampNeg ((gx_gA (gx_sA (gx_sA a.2 32 (a.1 : Int32).toNatClampNeg ((gx_gA a.2 34 (a.1 : Int32).toNatClampNeg) - (gx_gA a.2 34 (a.1 : Int32).toNatClampNeg) / (gx_gI a.2 12) * (gx_gI a.2 12))) 33 (a.1 : Int32).toNatClampNeg ((gx_gA (gx_sA a.2 32 (a.1 : Int32).toNatClampNeg ((gx_gA a.2 34 (a.1 : Int32).toNatClampNeg) - (gx_gA a.2 34 (a.1 : Int32).toNatClampNeg) / (gx_gI a.2 12) * (gx_gI a.2 12))) 34 (a.1 : Int32).toNatClampNeg) / (gx_gI (gx_sA a.2 32 (a.1 : Int32).toNatClampNeg ((gx_gA a.2 34 (a.1 : Int32).toNatClampNeg) - (gx_gA a.2 34 (a.1 : Int32).toNatClampNeg) / (gx_gI a.2 12) * (gx_gI a.2 12))) 12))) 34 (a.1 : Int32).toNatClampNeg) + 1)) _ hc14) (Or.inl rfl) rfl (gx_goodV gw_883 gw_885 gs_33 gw_10 gw_886) (by decide +kernel) (gx_w29 E _) rfl (by rw [hR]; decide) rfl rfl (Nat.le_of_ble_eq_true rfl) d_Mod_search_108 (by rw [hR]; decide) rfl rfl ?_
        refine gx_if_ne (tgt := 117) C d_Mod_search_111 (by decide) (fun h15 => ?_) (fun h15 => ?_)
        · have hf := (if_neg h15).symm.trans hf
          refine gx_aload_n C 0 d_Mod_search_117 rfl rfl ?_
          refine gx_get C iw_Mod 29 (gx_w29 E _) rfl 26 (by decide) gw_700 rfl rfl d_Mod_search_118 ?_
          refine gx_iload_n C 1 d_Mod_search_121 rfl rfl ?_
          refine gx_icmp_ne (tgt := 127) C d_Mod_search_122 (by decide) (fun h16 => ?_) (fun h16 => ?_)
          · have hf := (if_neg h16).symm.trans hf
            refine gx_aload_n C 0 d_Mod_search_127 rfl rfl ?_
            refine gx_dup C d_Mod_search_128 rfl ?_
            refine gx_get C iw_Mod 29 (gx_w29 E _) rfl 26 (by decide) gw_700 rfl rfl d_Mod_search_129 ?_
            refine gx_iconst C (v := 1) d_Mod_search_132 (by decide) ?_
            refine gx_iadd C d_Mod_search_133 ?_
            refine gx_put C (ty := .int) (x' := gx_sI x14 20 ((gx_gI x14 20) + 1)) iw_Mod ty_Mod tk_Mod tn_Mod 29 (gx_w29 E _) rfl 26 (by decide) gw_700 rfl rfl (by decide +kernel) rfl rfl (Nat.le_of_ble_eq_true rfl) (gx_p29_26 E _ _) d_Mod_search_134 ?_
            refine gx_iinc C (v := a.1 + 1) (lv' := [(2, .int (a.1 + 1)), (0, .ref (gx_ad E 29)), (1, .int v1)]) 2 d_Mod_search_137 rfl rfl (by decide) rfl ?_
            refine gx_aload_n C 1 d_Mod_search_140 rfl rfl ?_
            refine gx_get C iw_Mod 29 (gx_w29 E _) rfl 21 (by decide) gw_695 rfl rfl d_Mod_search_141 ?_
            refine gx_iload_n C 0 d_Mod_search_144 rfl rfl ?_
            refine gx_iconst C (v := 0) d_Mod_search_145 (by decide) ?_
            obtain ⟨hi17, hf⟩ := gx_ck_some hf
            refine gx_iast C (x' := gx_sA (gx_sI x14 20 ((gx_gI x14 20) + 1)) 34 (a.1 + 1 : Int32).toNatClampNeg 0) 44 0 (gx_w44 E _) rfl hi17 (gx_q44 E _ _ _) d_Mod_search_146 ?_
            refine gx_goto (tgt := 9) C d_Mod_search_147 (by decide) ?_
            cases hf
            refine gx_lv (lv' := [(0, .ref (gx_ad E 29)), (1, .int v1), (2, .int (a.1 + 1))]) [1, 2, 0] rfl ?_
            exact hk
          · have hf := (if_pos h16).symm.trans hf
            cases hf
            have hk : pq_CaseLayoutModel_search_9 K E v1 _ := hk
            unfold pq_CaseLayoutModel_search_9 at hk
            have hk := gx_ifp (rfl : (0 : Nat) = 0) hk
            refine gx_lv (lv' := []) [] rfl ?_
            exact hk
        · have hf := (if_pos h15).symm.trans hf
          refine gx_goto (tgt := 9) C d_Mod_search_114 (by decide) ?_
          cases hf
          exact hk
      · have hf := (if_pos h5).symm.trans hf
        refine gx_iinc C (v := a.1 + (-1)) (lv' := [(2, .int (a.1 + (-1))), (0, .ref (gx_ad E 29)), (1, .int v1)]) 2 d_Mod_search_56 rfl rfl (by decide) rfl ?_
        refine gx_goto (tgt := 9) C d_Mod_search_59 (by decide) ?_
        cases hf
        refine gx_lv (lv' := [(0, .ref (gx_ad E 29)), (1, .int v1), (2, .int (a.1 + (-1)))]) [1, 2, 0] rfl ?_
        exact hk
    · have hf := (if_pos h3).symm.trans hf
      refine gx_aload_n C 0 d_Mod_search_21 rfl rfl ?_
      obtain ⟨r18, x18, hc18, hf⟩ := gx_bd_some hf
      refine gx_cVi (n2 := 0) (k2 := 0) C (As := []) (rest := []) 29 0 (c_CaseLayoutModel_isLayout K.l  a.2 _ hc18) (Or.inl rfl) rfl (gx_goodV gw_834 gw_836 gs_23 gw_10 gw_837) (by decide +kernel) (gx_w29 E _) rfl (by rw [hR]; decide) rfl rfl (Nat.le_of_ble_eq_true rfl) d_Mod_search_22 (by rw [hR]; decide) rfl rfl ?_
      refine gx_if_eq (tgt := 32) C d_Mod_search_25 (by decide) (fun h19 => ?_) (fun h19 => ?_)
      · have hf := (if_pos h19).symm.trans hf
        refine gx_iinc C (v := a.1 + (-1)) (lv' := [(2, .int (a.1 + (-1))), (0, .ref (gx_ad E 29)), (1, .int v1)]) 2 d_Mod_search_32 rfl rfl (by decide) rfl ?_
        refine gx_goto (tgt := 9) C d_Mod_search_35 (by decide) ?_
        cases hf
        refine gx_lv (lv' := [(0, .ref (gx_ad E 29)), (1, .int v1), (2, .int (a.1 + (-1)))]) [1, 2, 0] rfl ?_
        exact hk
      · have hf := (if_neg h19).symm.trans hf
        refine gx_aload_n C 0 d_Mod_search_28 rfl rfl ?_
        obtain ⟨r20, x20, hc20, hf⟩ := gx_bd_some hf
        refine gx_cVv (n2 := 0) (k2 := 0) C (As := []) (rest := []) 29 0 (c_CaseLayoutModel_keep K.l  x18 _ hc20) (Or.inl rfl) rfl (gx_goodV gw_868 gw_870 gs_30 gw_10 gw_871) (by decide +kernel) (gx_w29 E _) rfl (by rw [hR]; decide) rfl rfl (Nat.le_of_ble_eq_true rfl) d_Mod_search_29 (by rw [hR]; decide) rfl rfl ?_
        refine gx_iinc C (v := a.1 + (-1)) (lv' := [(2, .int (a.1 + (-1))), (0, .ref (gx_ad E 29)), (1, .int v1)]) 2 d_Mod_search_32 rfl rfl (by decide) rfl ?_
        refine gx_goto (tgt := 9) C d_Mod_search_35 (by decide) ?_
        cases hf
        refine gx_lv (lv' := [(0, .ref (gx_ad E 29)), (1, .int v1), (2, .int (a.1 + (-1)))]) [1, 2, 0] rfl ?_
        exact hk
set_option maxHeartbeats 4000000 in
set_option maxRecDepth 100000 in
theorem c_CaseLayoutModel_search (l : Launch) (a1 : Int32) (x : gx_S) (o : Int32 × gx_S) (hf : f_CaseLayoutModel_search a1 x = some o) : gx_Mi true l y_Mod_search prog_10_method_35_code 3 (some .boolean) rm_CaseLayoutModel_search (fun E => [.ref (gx_ad E 29), .int a1]) x o.1 o.2 := by
  refine gx_meti (own := "CaseLayoutModel") (by decide) rfl (fun E => Nat.le_of_ble_eq_true rfl) (fun K E hl0 hR hr hlk hk C => ?_)
  subst hl0
  unfold f_CaseLayoutModel_search at hf
  show gx_G K E _ 0 0 x 0 [(0, .ref (gx_ad E 29)), (1, .int a1)] []
  refine gx_iconst C (v := 0) d_Mod_search_0 (by decide) ?_
  refine gx_istore_n C (lv' := [(2, .int 0), (0, .ref (gx_ad E 29)), (1, .int a1)]) d_Mod_search_1 rfl (by decide) rfl ?_
  refine gx_aload_n C 1 d_Mod_search_2 rfl rfl ?_
  refine gx_get C iw_Mod 29 (gx_w29 E _) rfl 21 (by decide) gw_695 rfl rfl d_Mod_search_3 ?_
  refine gx_iconst C (v := 0) d_Mod_search_6 (by decide) ?_
  refine gx_iconst C (v := 0) d_Mod_search_7 (by decide) ?_
  obtain ⟨hi1, hf⟩ := gx_ck_some hf
  refine gx_iast C (x' := gx_sA x 34 (0 : Int32).toNatClampNeg 0) 44 0 (gx_w44 E _) rfl hi1 (gx_q44 E _ _ _) d_Mod_search_8 ?_
  refine gx_lv (lv' := [(0, .ref (gx_ad E 29)), (1, .int a1), (2, .int 0)]) [1, 2, 0] rfl ?_
  obtain ⟨e21, he21, hf⟩ := gx_bl_some hf
  refine (gx_loop (P := pp_CaseLayoutModel_search_9 K E a1) (Q := pq_CaseLayoutModel_search_9 K E a1) (fun a9 o9 h1 h2 => sc_CaseLayoutModel_search_9 C hR hr hlk a1 a9 o9 h1 h2) gx_fuel (0, gx_sA x 34 (0 : Int32).toNatClampNeg 0) e21 he21 ?_ : pp_CaseLayoutModel_search_9 K E a1 (0, gx_sA x 34 (0 : Int32).toNatClampNeg 0))
  unfold pq_CaseLayoutModel_search_9
  by_cases ht22 : e21.1 = 0
  · rw [if_pos ht22]
    have hf := (if_pos ht22).symm.trans hf
    refine gx_iconst C (v := 0) d_Mod_search_125 (by decide) ?_
    cases hf
    exact gx_zret C hr hlk hk (by decide) d_Mod_search_126
  · rw [if_neg ht22]
    have hf := (if_neg ht22).symm.trans hf
    refine gx_iconst C (v := 1) d_Mod_search_150 (by decide) ?_
    cases hf
    exact gx_zret C hr hlk hk (by decide) d_Mod_search_151
