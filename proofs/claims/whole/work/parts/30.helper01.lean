def f_CaseLayoutLaw_wall (a1 : Int32) (a2 : Int32) (a3 : Int32) (x : gx_S) : Option (Int32 × gx_S) :=
  gx_bh (f_CaseLayout_wall a1 a2 a3 x) (fun r1 x1 => if r1 = 0 then (gx_ck 0 1 (some (0, gx_sL x1 (0 : Int32).toNatClampNeg 0))) else (gx_ck 0 1 (some (0, gx_sL x1 (0 : Int32).toNatClampNeg 1)))) (fun j1 x1 => if j1 = 1 then (some (1, x1)) else (none))
abbrev rm_CaseLayoutLaw_wall : Room := { frames := 8, cells := 1, slots := 6, locals := 128 }
set_option maxHeartbeats 4000000 in
set_option maxRecDepth 100000 in
theorem c_CaseLayoutLaw_wall (l : Launch) (hlt : l.stackTraces = false) (a1 : Int32) (a2 : Int32) (a3 : Int32) (x : gx_S) (o : Int32 × gx_S) (hf : f_CaseLayoutLaw_wall a1 a2 a3 x = some o) : gx_Wi true l y_Law_wall method_3_code 6 (some .int) [(0, 19, 22, 13)] rm_CaseLayoutLaw_wall (fun E => [.ref (gx_ad E 28), .int a1, .int a2, .int a3, .ref (gx_ad E 48)]) x o.1 o.2 := by
  refine gx_metW (own := "CaseLayoutLaw") (by decide) rfl (fun E => Nat.le_of_ble_eq_true rfl) (fun K E hl0 hR hr hlk hH hk C => ?_)
  subst hl0
  obtain ⟨y1, hsp, hy1⟩ := gx_hnd1 hH
  have sp1 : y1.startPc = 0 := congrArg (fun q => q.1) hy1
  have ep1 : y1.endPc = 19 := congrArg (fun q => q.2.1) hy1
  have hp1 : y1.handlerPc = 22 := congrArg (fun q => q.2.2.1) hy1
  have ct1 : y1.catchType = 13 := congrArg (fun q => q.2.2.2) hy1
  unfold f_CaseLayoutLaw_wall at hf
  show gx_G K E _ 0 0 x 0 [(0, .ref (gx_ad E 28)), (1, .int a1), (2, .int a2), (3, .int a3), (4, .ref (gx_ad E 48))] []
  refine gx_aload C 4 d_Law_wall_0 rfl ?_
  refine gx_iconst C (v := 0) d_Law_wall_2 (by decide) ?_
  refine gx_aload_n C 0 d_Law_wall_3 rfl rfl ?_
  refine gx_iload_n C 1 d_Law_wall_4 rfl rfl ?_
  refine gx_iload_n C 2 d_Law_wall_5 rfl rfl ?_
  refine gx_iload_n C 3 d_Law_wall_6 rfl rfl ?_
  obtain ⟨j1, r1, x1, hc1, ⟨hq1, hf⟩ | ⟨hq1, hf⟩⟩ := gx_bh_some hf
  rotate_left
  · refine gx_cVx (n2 := 1) (k2 := 6) C hq1 (As := [.int a1, .int a2, .int a3]) (rest := [.int 0, .ref (gx_ad E 48)]) 28 3 (c_CaseLayout_wall K.l hlt a1 a2 a3 x _ hc1) (Or.inl rfl) rfl (gx_goodV gw_280 gw_281 gw_282 gw_1 gw_283) (by decide +kernel) (gx_w28 E _) rfl (by rw [hR]; decide) rfl rfl (Nat.le_of_ble_eq_true rfl) d_Law_wall_7 (by rw [hR]; decide) rfl rfl ?_
    by_cases hj2 : j1 = 1
    · have hf := (if_pos hj2).symm.trans hf
      subst hj2
      refine gx_catch C [] y1 [] hsp (fun z hz => by cases hz) (by simp only [covers]; rw [sp1, ep1]; decide) (by rw [ct1]; decide) (by rw [ct1]; exact gw_279) gn_294 hp1 (fun qe3 => ?_)
      refine gx_astore C (lv' := [(5, .ref qe3), (0, .ref (gx_ad E 28)), (1, .int a1), (2, .int a2), (3, .int a3), (4, .ref (gx_ad E 48))]) d_Law_wall_22 (by decide) rfl ?_
      refine gx_iconst C (v := 1) d_Law_wall_24 (by decide) ?_
      cases hf
      exact gx_iret C hr hlk hk d_Law_wall_25
    · have hf := (if_neg hj2).symm.trans hf
      cases hf
  subst hq1
  refine gx_cVi (n2 := 1) (k2 := 6) C (As := [.int a1, .int a2, .int a3]) (rest := [.int 0, .ref (gx_ad E 48)]) 28 3 (c_CaseLayout_wall K.l hlt a1 a2 a3 x _ hc1).toI (Or.inl rfl) rfl (gx_goodV gw_280 gw_281 gw_282 gw_1 gw_283) (by decide +kernel) (gx_w28 E _) rfl (by rw [hR]; decide) rfl rfl (Nat.le_of_ble_eq_true rfl) d_Law_wall_7 (by rw [hR]; decide) rfl rfl ?_
  refine gx_if_eq (tgt := 17) C d_Law_wall_10 (by decide) (fun h4 => ?_) (fun h4 => ?_)
  · have hf := (if_pos h4).symm.trans hf
    refine gx_lconst C (v := 0) d_Law_wall_17 (by decide) ?_
    obtain ⟨hi5, hf⟩ := gx_ck_some hf
    refine gx_last C (x' := gx_sL x1 (0 : Int32).toNatClampNeg 0) 48 2 (gx_w48 E _) rfl hi5 (gx_q48 E _ _ _) d_Law_wall_18 ?_
    refine gx_goto (tgt := 26) C d_Law_wall_19 (by decide) ?_
    refine gx_iconst C (v := 0) d_Law_wall_26 (by decide) ?_
    cases hf
    exact gx_iret C hr hlk hk d_Law_wall_27
  · have hf := (if_neg h4).symm.trans hf
    refine gx_lconst C (v := 1) d_Law_wall_13 (by decide) ?_
    refine gx_goto (tgt := 18) C d_Law_wall_14 (by decide) ?_
    obtain ⟨hi6, hf⟩ := gx_ck_some hf
    refine gx_last C (x' := gx_sL x1 (0 : Int32).toNatClampNeg 1) 48 2 (gx_w48 E _) rfl hi6 (gx_q48 E _ _ _) d_Law_wall_18 ?_
    refine gx_goto (tgt := 26) C d_Law_wall_19 (by decide) ?_
    refine gx_iconst C (v := 0) d_Law_wall_26 (by decide) ?_
    cases hf
    exact gx_iret C hr hlk hk d_Law_wall_27

def f_CaseLayoutLaw_zone (a1 : Int32) (a2 : Int32) (a3 : Int32) (x : gx_S) : Option (Int32 × gx_S) :=
  gx_bh (f_CaseLayout_zone a1 a2 a3 x) (fun r1 x1 => gx_ck 0 1 (some (0, gx_sL x1 (0 : Int32).toNatClampNeg (Int32.toInt64 r1)))) (fun j1 x1 => if j1 = 1 then (some (1, x1)) else (if j1 = 3 then (some (2, x1)) else (none)))
abbrev rm_CaseLayoutLaw_zone : Room := { frames := 8, cells := 2, slots := 12, locals := 129 }
set_option maxHeartbeats 4000000 in
set_option maxRecDepth 100000 in
theorem c_CaseLayoutLaw_zone (l : Launch) (hlt : l.stackTraces = false) (a1 : Int32) (a2 : Int32) (a3 : Int32) (x : gx_S) (o : Int32 × gx_S) (hf : f_CaseLayoutLaw_zone a1 a2 a3 x = some o) : gx_Wi true l y_Law_zone method_4_code 6 (some .int) [(0, 12, 15, 13), (0, 12, 19, 19)] rm_CaseLayoutLaw_zone (fun E => [.ref (gx_ad E 28), .int a1, .int a2, .int a3, .ref (gx_ad E 48)]) x o.1 o.2 := by
  refine gx_metW (own := "CaseLayoutLaw") (by decide) rfl (fun E => Nat.le_of_ble_eq_true rfl) (fun K E hl0 hR hr hlk hH hk C => ?_)
  subst hl0
  obtain ⟨y1, y2, hsp, hy1, hy2⟩ := gx_hnd2 hH
  have sp1 : y1.startPc = 0 := congrArg (fun q => q.1) hy1
  have ep1 : y1.endPc = 12 := congrArg (fun q => q.2.1) hy1
  have hp1 : y1.handlerPc = 15 := congrArg (fun q => q.2.2.1) hy1
  have ct1 : y1.catchType = 13 := congrArg (fun q => q.2.2.2) hy1
  have sp2 : y2.startPc = 0 := congrArg (fun q => q.1) hy2
  have ep2 : y2.endPc = 12 := congrArg (fun q => q.2.1) hy2
  have hp2 : y2.handlerPc = 19 := congrArg (fun q => q.2.2.1) hy2
  have ct2 : y2.catchType = 19 := congrArg (fun q => q.2.2.2) hy2
  unfold f_CaseLayoutLaw_zone at hf
  show gx_G K E _ 0 0 x 0 [(0, .ref (gx_ad E 28)), (1, .int a1), (2, .int a2), (3, .int a3), (4, .ref (gx_ad E 48))] []
  refine gx_aload C 4 d_Law_zone_0 rfl ?_
  refine gx_iconst C (v := 0) d_Law_zone_2 (by decide) ?_
  refine gx_aload_n C 0 d_Law_zone_3 rfl rfl ?_
  refine gx_iload_n C 1 d_Law_zone_4 rfl rfl ?_
  refine gx_iload_n C 2 d_Law_zone_5 rfl rfl ?_
  refine gx_iload_n C 3 d_Law_zone_6 rfl rfl ?_
  obtain ⟨j1, r1, x1, hc1, ⟨hq1, hf⟩ | ⟨hq1, hf⟩⟩ := gx_bh_some hf
  rotate_left
  · refine gx_cVx (n2 := 2) (k2 := 12) C hq1 (As := [.int a1, .int a2, .int a3]) (rest := [.int 0, .ref (gx_ad E 48)]) 28 3 (c_CaseLayout_zone K.l hlt a1 a2 a3 x _ hc1) (Or.inl rfl) rfl (gx_goodV gw_384 gw_385 gw_386 gw_1 gw_387) (by decide +kernel) (gx_w28 E _) rfl (by rw [hR]; decide) rfl rfl (Nat.le_of_ble_eq_true rfl) d_Law_zone_7 (by rw [hR]; decide) rfl rfl ?_
    by_cases hj2 : j1 = 1
    · have hf := (if_pos hj2).symm.trans hf
      subst hj2
      refine gx_catch C [] y1 [y2] hsp (fun z hz => by cases hz) (by simp only [covers]; rw [sp1, ep1]; decide) (by rw [ct1]; decide) (by rw [ct1]; exact gw_279) gn_294 hp1 (fun qe3 => ?_)
      refine gx_astore C (lv' := [(5, .ref qe3), (0, .ref (gx_ad E 28)), (1, .int a1), (2, .int a2), (3, .int a3), (4, .ref (gx_ad E 48))]) d_Law_zone_15 (by decide) rfl ?_
      refine gx_iconst C (v := 1) d_Law_zone_17 (by decide) ?_
      cases hf
      exact gx_iret C hr hlk hk d_Law_zone_18
    · have hf := (if_neg hj2).symm.trans hf
      by_cases hj4 : j1 = 3
      · have hf := (if_pos hj4).symm.trans hf
        subst hj4
        refine gx_catch C [y1] y2 [] hsp (fun z hz => by
            simp only [List.mem_cons, List.not_mem_nil, or_false] at hz
            rcases hz with rfl
            · exact ⟨by rw [ct1]; decide, "java/lang/IndexOutOfBoundsException", by rw [ct1]; exact gw_279, by decide +kernel⟩) (by simp only [covers]; rw [sp2, ep2]; decide) (by rw [ct2]; decide) (by rw [ct2]; exact gw_383) gn_393 hp2 (fun qe5 => ?_)
        refine gx_astore C (lv' := [(5, .ref qe5), (0, .ref (gx_ad E 28)), (1, .int a1), (2, .int a2), (3, .int a3), (4, .ref (gx_ad E 48))]) d_Law_zone_19 (by decide) rfl ?_
        refine gx_iconst C (v := 2) d_Law_zone_21 (by decide) ?_
        cases hf
        exact gx_iret C hr hlk hk d_Law_zone_22
      · have hf := (if_neg hj4).symm.trans hf
        cases hf
  subst hq1
  refine gx_cVi (n2 := 2) (k2 := 12) C (As := [.int a1, .int a2, .int a3]) (rest := [.int 0, .ref (gx_ad E 48)]) 28 3 (c_CaseLayout_zone K.l hlt a1 a2 a3 x _ hc1).toI (Or.inl rfl) rfl (gx_goodV gw_384 gw_385 gw_386 gw_1 gw_387) (by decide +kernel) (gx_w28 E _) rfl (by rw [hR]; decide) rfl rfl (Nat.le_of_ble_eq_true rfl) d_Law_zone_7 (by rw [hR]; decide) rfl rfl ?_
  refine gx_i2l C d_Law_zone_10 rfl ?_
  obtain ⟨hi6, hf⟩ := gx_ck_some hf
  refine gx_last C (x' := gx_sL x1 (0 : Int32).toNatClampNeg (Int32.toInt64 r1)) 48 2 (gx_w48 E _) rfl hi6 (gx_q48 E _ _ _) d_Law_zone_11 ?_
  refine gx_goto (tgt := 23) C d_Law_zone_12 (by decide) ?_
  refine gx_iconst C (v := 0) d_Law_zone_23 (by decide) ?_
  cases hf
  exact gx_iret C hr hlk hk d_Law_zone_24

def f_CaseLayoutLaw_thing (a1 : Int32) (a2 : Int32) (a3 : Int32) (x : gx_S) : Option (Int32 × gx_S) :=
  gx_bh (f_CaseLayout_thing a1 a2 a3 x) (fun r1 x1 => gx_ck 0 1 (some (0, gx_sL x1 (0 : Int32).toNatClampNeg (Int32.toInt64 r1)))) (fun j1 x1 => if j1 = 2 then (some (1, x1)) else (if j1 = 3 then (some (2, x1)) else (none)))
abbrev rm_CaseLayoutLaw_thing : Room := { frames := 8, cells := 3, slots := 18, locals := 127 }
set_option maxHeartbeats 4000000 in
set_option maxRecDepth 100000 in
theorem c_CaseLayoutLaw_thing (l : Launch) (hlt : l.stackTraces = false) (a1 : Int32) (a2 : Int32) (a3 : Int32) (x : gx_S) (o : Int32 × gx_S) (hf : f_CaseLayoutLaw_thing a1 a2 a3 x = some o) : gx_Wi true l y_Law_thing method_5_code 6 (some .int) [(0, 12, 15, 24), (0, 12, 19, 19)] rm_CaseLayoutLaw_thing (fun E => [.ref (gx_ad E 28), .int a1, .int a2, .int a3, .ref (gx_ad E 48)]) x o.1 o.2 := by
  refine gx_metW (own := "CaseLayoutLaw") (by decide) rfl (fun E => Nat.le_of_ble_eq_true rfl) (fun K E hl0 hR hr hlk hH hk C => ?_)
  subst hl0
  obtain ⟨y1, y2, hsp, hy1, hy2⟩ := gx_hnd2 hH
  have sp1 : y1.startPc = 0 := congrArg (fun q => q.1) hy1
  have ep1 : y1.endPc = 12 := congrArg (fun q => q.2.1) hy1
  have hp1 : y1.handlerPc = 15 := congrArg (fun q => q.2.2.1) hy1
  have ct1 : y1.catchType = 24 := congrArg (fun q => q.2.2.2) hy1
  have sp2 : y2.startPc = 0 := congrArg (fun q => q.1) hy2
  have ep2 : y2.endPc = 12 := congrArg (fun q => q.2.1) hy2
  have hp2 : y2.handlerPc = 19 := congrArg (fun q => q.2.2.1) hy2
  have ct2 : y2.catchType = 19 := congrArg (fun q => q.2.2.2) hy2
  unfold f_CaseLayoutLaw_thing at hf
  show gx_G K E _ 0 0 x 0 [(0, .ref (gx_ad E 28)), (1, .int a1), (2, .int a2), (3, .int a3), (4, .ref (gx_ad E 48))] []
  refine gx_aload C 4 d_Law_thing_0 rfl ?_
  refine gx_iconst C (v := 0) d_Law_thing_2 (by decide) ?_
  refine gx_aload_n C 0 d_Law_thing_3 rfl rfl ?_
  refine gx_iload_n C 1 d_Law_thing_4 rfl rfl ?_
  refine gx_iload_n C 2 d_Law_thing_5 rfl rfl ?_
  refine gx_iload_n C 3 d_Law_thing_6 rfl rfl ?_
  obtain ⟨j1, r1, x1, hc1, ⟨hq1, hf⟩ | ⟨hq1, hf⟩⟩ := gx_bh_some hf
  rotate_left
  · refine gx_cVx (n2 := 3) (k2 := 18) C hq1 (As := [.int a1, .int a2, .int a3]) (rest := [.int 0, .ref (gx_ad E 48)]) 28 3 (c_CaseLayout_thing K.l hlt a1 a2 a3 x _ hc1) (Or.inl rfl) rfl (gx_goodV gw_411 gw_412 gw_413 gw_1 gw_414) (by decide +kernel) (gx_w28 E _) rfl (by rw [hR]; decide) rfl rfl (Nat.le_of_ble_eq_true rfl) d_Law_thing_7 (by rw [hR]; decide) rfl rfl ?_
    by_cases hj2 : j1 = 2
    · have hf := (if_pos hj2).symm.trans hf
      subst hj2
      refine gx_catch C [] y1 [y2] hsp (fun z hz => by cases hz) (by simp only [covers]; rw [sp1, ep1]; decide) (by rw [ct1]; decide) (by rw [ct1]; exact gw_410) gn_417 hp1 (fun qe3 => ?_)
      refine gx_astore C (lv' := [(5, .ref qe3), (0, .ref (gx_ad E 28)), (1, .int a1), (2, .int a2), (3, .int a3), (4, .ref (gx_ad E 48))]) d_Law_thing_15 (by decide) rfl ?_
      refine gx_iconst C (v := 1) d_Law_thing_17 (by decide) ?_
      cases hf
      exact gx_iret C hr hlk hk d_Law_thing_18
    · have hf := (if_neg hj2).symm.trans hf
      by_cases hj4 : j1 = 3
      · have hf := (if_pos hj4).symm.trans hf
        subst hj4
        refine gx_catch C [y1] y2 [] hsp (fun z hz => by
            simp only [List.mem_cons, List.not_mem_nil, or_false] at hz
            rcases hz with rfl
            · exact ⟨by rw [ct1]; decide, "java/lang/IllegalStateException", by rw [ct1]; exact gw_410, by decide +kernel⟩) (by simp only [covers]; rw [sp2, ep2]; decide) (by rw [ct2]; decide) (by rw [ct2]; exact gw_383) gn_393 hp2 (fun qe5 => ?_)
        refine gx_astore C (lv' := [(5, .ref qe5), (0, .ref (gx_ad E 28)), (1, .int a1), (2, .int a2), (3, .int a3), (4, .ref (gx_ad E 48))]) d_Law_thing_19 (by decide) rfl ?_
        refine gx_iconst C (v := 2) d_Law_thing_21 (by decide) ?_
        cases hf
        exact gx_iret C hr hlk hk d_Law_thing_22
      · have hf := (if_neg hj4).symm.trans hf
        cases hf
  subst hq1
  refine gx_cVi (n2 := 3) (k2 := 18) C (As := [.int a1, .int a2, .int a3]) (rest := [.int 0, .ref (gx_ad E 48)]) 28 3 (c_CaseLayout_thing K.l hlt a1 a2 a3 x _ hc1).toI (Or.inl rfl) rfl (gx_goodV gw_411 gw_412 gw_413 gw_1 gw_414) (by decide +kernel) (gx_w28 E _) rfl (by rw [hR]; decide) rfl rfl (Nat.le_of_ble_eq_true rfl) d_Law_thing_7 (by rw [hR]; decide) rfl rfl ?_
  refine gx_i2l C d_Law_thing_10 rfl ?_
  obtain ⟨hi6, hf⟩ := gx_ck_some hf
  refine gx_last C (x' := gx_sL x1 (0 : Int32).toNatClampNeg (Int32.toInt64 r1)) 48 2 (gx_w48 E _) rfl hi6 (gx_q48 E _ _ _) d_Law_thing_11 ?_
  refine gx_goto (tgt := 23) C d_Law_thing_12 (by decide) ?_
  refine gx_iconst C (v := 0) d_Law_thing_23 (by decide) ?_
  cases hf
  exact gx_iret C hr hlk hk d_Law_thing_24

def f_CaseLayoutLaw_apart (a1 : Int32) (a2 : Int32) (a3 : Int32) (x : gx_S) : Option (Int32 × gx_S) :=
  gx_bh (f_CaseLayout_apart a1 a2 a3 x) (fun r1 x1 => gx_ck 0 1 (some (0, gx_sL x1 (0 : Int32).toNatClampNeg (Int32.toInt64 r1)))) (fun j1 x1 => if j1 = 1 then (some (1, x1)) else (if j1 = 3 then (some (2, x1)) else (none)))
abbrev rm_CaseLayoutLaw_apart : Room := { frames := 9, cells := 4, slots := 24, locals := 148 }
set_option maxHeartbeats 4000000 in
set_option maxRecDepth 100000 in
theorem c_CaseLayoutLaw_apart (l : Launch) (hlt : l.stackTraces = false) (a1 : Int32) (a2 : Int32) (a3 : Int32) (x : gx_S) (o : Int32 × gx_S) (hf : f_CaseLayoutLaw_apart a1 a2 a3 x = some o) : gx_Wi true l y_Law_apart method_6_code 6 (some .int) [(0, 12, 15, 13), (0, 12, 19, 19)] rm_CaseLayoutLaw_apart (fun E => [.ref (gx_ad E 28), .int a1, .int a2, .int a3, .ref (gx_ad E 48)]) x o.1 o.2 := by
  refine gx_metW (own := "CaseLayoutLaw") (by decide) rfl (fun E => Nat.le_of_ble_eq_true rfl) (fun K E hl0 hR hr hlk hH hk C => ?_)
  subst hl0
  obtain ⟨y1, y2, hsp, hy1, hy2⟩ := gx_hnd2 hH
  have sp1 : y1.startPc = 0 := congrArg (fun q => q.1) hy1
  have ep1 : y1.endPc = 12 := congrArg (fun q => q.2.1) hy1
  have hp1 : y1.handlerPc = 15 := congrArg (fun q => q.2.2.1) hy1
  have ct1 : y1.catchType = 13 := congrArg (fun q => q.2.2.2) hy1
  have sp2 : y2.startPc = 0 := congrArg (fun q => q.1) hy2
  have ep2 : y2.endPc = 12 := congrArg (fun q => q.2.1) hy2
  have hp2 : y2.handlerPc = 19 := congrArg (fun q => q.2.2.1) hy2
  have ct2 : y2.catchType = 19 := congrArg (fun q => q.2.2.2) hy2
  unfold f_CaseLayoutLaw_apart at hf
  show gx_G K E _ 0 0 x 0 [(0, .ref (gx_ad E 28)), (1, .int a1), (2, .int a2), (3, .int a3), (4, .ref (gx_ad E 48))] []
  refine gx_aload C 4 d_Law_apart_0 rfl ?_
  refine gx_iconst C (v := 0) d_Law_apart_2 (by decide) ?_
  refine gx_aload_n C 0 d_Law_apart_3 rfl rfl ?_
  refine gx_iload_n C 1 d_Law_apart_4 rfl rfl ?_
  refine gx_iload_n C 2 d_Law_apart_5 rfl rfl ?_
  refine gx_iload_n C 3 d_Law_apart_6 rfl rfl ?_
  obtain ⟨j1, r1, x1, hc1, ⟨hq1, hf⟩ | ⟨hq1, hf⟩⟩ := gx_bh_some hf
  rotate_left
  · refine gx_cVx (n2 := 4) (k2 := 24) C hq1 (As := [.int a1, .int a2, .int a3]) (rest := [.int 0, .ref (gx_ad E 48)]) 28 3 (c_CaseLayout_apart K.l hlt a1 a2 a3 x _ hc1) (Or.inl rfl) rfl (gx_goodV gw_438 gw_439 gw_440 gw_1 gw_441) (by decide +kernel) (gx_w28 E _) rfl (by rw [hR]; decide) rfl rfl (Nat.le_of_ble_eq_true rfl) d_Law_apart_7 (by rw [hR]; decide) rfl rfl ?_
    by_cases hj2 : j1 = 1
    · have hf := (if_pos hj2).symm.trans hf
      subst hj2
      refine gx_catch C [] y1 [y2] hsp (fun z hz => by cases hz) (by simp only [covers]; rw [sp1, ep1]; decide) (by rw [ct1]; decide) (by rw [ct1]; exact gw_279) gn_294 hp1 (fun qe3 => ?_)
      refine gx_astore C (lv' := [(5, .ref qe3), (0, .ref (gx_ad E 28)), (1, .int a1), (2, .int a2), (3, .int a3), (4, .ref (gx_ad E 48))]) d_Law_apart_15 (by decide) rfl ?_
      refine gx_iconst C (v := 1) d_Law_apart_17 (by decide) ?_
      cases hf
      exact gx_iret C hr hlk hk d_Law_apart_18
    · have hf := (if_neg hj2).symm.trans hf
      by_cases hj4 : j1 = 3
      · have hf := (if_pos hj4).symm.trans hf
        subst hj4
        refine gx_catch C [y1] y2 [] hsp (fun z hz => by
            simp only [List.mem_cons, List.not_mem_nil, or_false] at hz
            rcases hz with rfl
            · exact ⟨by rw [ct1]; decide, "java/lang/IndexOutOfBoundsException", by rw [ct1]; exact gw_279, by decide +kernel⟩) (by simp only [covers]; rw [sp2, ep2]; decide) (by rw [ct2]; decide) (by rw [ct2]; exact gw_383) gn_393 hp2 (fun qe5 => ?_)
        refine gx_astore C (lv' := [(5, .ref qe5), (0, .ref (gx_ad E 28)), (1, .int a1), (2, .int a2), (3, .int a3), (4, .ref (gx_ad E 48))]) d_Law_apart_19 (by decide) rfl ?_
        refine gx_iconst C (v := 2) d_Law_apart_21 (by decide) ?_
        cases hf
        exact gx_iret C hr hlk hk d_Law_apart_22
      · have hf := (if_neg hj4).symm.trans hf
        cases hf
  subst hq1
  refine gx_cVi (n2 := 4) (k2 := 24) C (As := [.int a1, .int a2, .int a3]) (rest := [.int 0, .ref (gx_ad E 48)]) 28 3 (c_CaseLayout_apart K.l hlt a1 a2 a3 x _ hc1).toI (Or.inl rfl) rfl (gx_goodV gw_438 gw_439 gw_440 gw_1 gw_441) (by decide +kernel) (gx_w28 E _) rfl (by rw [hR]; decide) rfl rfl (Nat.le_of_ble_eq_true rfl) d_Law_apart_7 (by rw [hR]; decide) rfl rfl ?_
  refine gx_i2l C d_Law_apart_10 rfl ?_
  obtain ⟨hi6, hf⟩ := gx_ck_some hf
  refine gx_last C (x' := gx_sL x1 (0 : Int32).toNatClampNeg (Int32.toInt64 r1)) 48 2 (gx_w48 E _) rfl hi6 (gx_q48 E _ _ _) d_Law_apart_11 ?_
  refine gx_goto (tgt := 23) C d_Law_apart_12 (by decide) ?_
  refine gx_iconst C (v := 0) d_Law_apart_23 (by decide) ?_
  cases hf
  exact gx_iret C hr hlk hk d_Law_apart_24

def f_CaseLayoutLaw_wish (a1 : Int32) (a2 : Int32) (a3 : Int32) (x : gx_S) : Option (Int32 × gx_S) :=
  gx_bh (f_CaseLayout_wish a1 a2 a3 x) (fun r1 x1 => gx_ck 0 1 (some (0, gx_sL x1 (0 : Int32).toNatClampNeg (Int32.toInt64 r1)))) (fun j1 x1 => if j1 = 1 then (some (1, x1)) else (if j1 = 3 then (some (2, x1)) else (none)))
abbrev rm_CaseLayoutLaw_wish : Room := { frames := 9, cells := 4, slots := 24, locals := 148 }
set_option maxHeartbeats 4000000 in
set_option maxRecDepth 100000 in
theorem c_CaseLayoutLaw_wish (l : Launch) (hlt : l.stackTraces = false) (a1 : Int32) (a2 : Int32) (a3 : Int32) (x : gx_S) (o : Int32 × gx_S) (hf : f_CaseLayoutLaw_wish a1 a2 a3 x = some o) : gx_Wi true l y_Law_wish method_7_code 6 (some .int) [(0, 12, 15, 13), (0, 12, 19, 19)] rm_CaseLayoutLaw_wish (fun E => [.ref (gx_ad E 28), .int a1, .int a2, .int a3, .ref (gx_ad E 48)]) x o.1 o.2 := by
  refine gx_metW (own := "CaseLayoutLaw") (by decide) rfl (fun E => Nat.le_of_ble_eq_true rfl) (fun K E hl0 hR hr hlk hH hk C => ?_)
  subst hl0
  obtain ⟨y1, y2, hsp, hy1, hy2⟩ := gx_hnd2 hH
  have sp1 : y1.startPc = 0 := congrArg (fun q => q.1) hy1
  have ep1 : y1.endPc = 12 := congrArg (fun q => q.2.1) hy1
  have hp1 : y1.handlerPc = 15 := congrArg (fun q => q.2.2.1) hy1
  have ct1 : y1.catchType = 13 := congrArg (fun q => q.2.2.2) hy1
  have sp2 : y2.startPc = 0 := congrArg (fun q => q.1) hy2
  have ep2 : y2.endPc = 12 := congrArg (fun q => q.2.1) hy2
  have hp2 : y2.handlerPc = 19 := congrArg (fun q => q.2.2.1) hy2
  have ct2 : y2.catchType = 19 := congrArg (fun q => q.2.2.2) hy2
  unfold f_CaseLayoutLaw_wish at hf
  show gx_G K E _ 0 0 x 0 [(0, .ref (gx_ad E 28)), (1, .int a1), (2, .int a2), (3, .int a3), (4, .ref (gx_ad E 48))] []
  refine gx_aload C 4 d_Law_wish_0 rfl ?_
  refine gx_iconst C (v := 0) d_Law_wish_2 (by decide) ?_
  refine gx_aload_n C 0 d_Law_wish_3 rfl rfl ?_
  refine gx_iload_n C 1 d_Law_wish_4 rfl rfl ?_
  refine gx_iload_n C 2 d_Law_wish_5 rfl rfl ?_
  refine gx_iload_n C 3 d_Law_wish_6 rfl rfl ?_
  obtain ⟨j1, r1, x1, hc1, ⟨hq1, hf⟩ | ⟨hq1, hf⟩⟩ := gx_bh_some hf
  rotate_left
  · refine gx_cVx (n2 := 4) (k2 := 24) C hq1 (As := [.int a1, .int a2, .int a3]) (rest := [.int 0, .ref (gx_ad E 48)]) 28 3 (c_CaseLayout_wish K.l hlt a1 a2 a3 x _ hc1) (Or.inl rfl) rfl (gx_goodV gw_461 gw_462 gw_463 gw_1 gw_464) (by decide +kernel) (gx_w28 E _) rfl (by rw [hR]; decide) rfl rfl (Nat.le_of_ble_eq_true rfl) d_Law_wish_7 (by rw [hR]; decide) rfl rfl ?_
    by_cases hj2 : j1 = 1
    · have hf := (if_pos hj2).symm.trans hf
      subst hj2
      refine gx_catch C [] y1 [y2] hsp (fun z hz => by cases hz) (by simp only [covers]; rw [sp1, ep1]; decide) (by rw [ct1]; decide) (by rw [ct1]; exact gw_279) gn_294 hp1 (fun qe3 => ?_)
      refine gx_astore C (lv' := [(5, .ref qe3), (0, .ref (gx_ad E 28)), (1, .int a1), (2, .int a2), (3, .int a3), (4, .ref (gx_ad E 48))]) d_Law_wish_15 (by decide) rfl ?_
      refine gx_iconst C (v := 1) d_Law_wish_17 (by decide) ?_
      cases hf
      exact gx_iret C hr hlk hk d_Law_wish_18
    · have hf := (if_neg hj2).symm.trans hf
      by_cases hj4 : j1 = 3
      · have hf := (if_pos hj4).symm.trans hf
        subst hj4
        refine gx_catch C [y1] y2 [] hsp (fun z hz => by
            simp only [List.mem_cons, List.not_mem_nil, or_false] at hz
            rcases hz with rfl
            · exact ⟨by rw [ct1]; decide, "java/lang/IndexOutOfBoundsException", by rw [ct1]; exact gw_279, by decide +kernel⟩) (by simp only [covers]; rw [sp2, ep2]; decide) (by rw [ct2]; decide) (by rw [ct2]; exact gw_383) gn_393 hp2 (fun qe5 => ?_)
        refine gx_astore C (lv' := [(5, .ref qe5), (0, .ref (gx_ad E 28)), (1, .int a1), (2, .int a2), (3, .int a3), (4, .ref (gx_ad E 48))]) d_Law_wish_19 (by decide) rfl ?_
        refine gx_iconst C (v := 2) d_Law_wish_21 (by decide) ?_
        cases hf
        exact gx_iret C hr hlk hk d_Law_wish_22
      · have hf := (if_neg hj4).symm.trans hf
        cases hf
  subst hq1
  refine gx_cVi (n2 := 4) (k2 := 24) C (As := [.int a1, .int a2, .int a3]) (rest := [.int 0, .ref (gx_ad E 48)]) 28 3 (c_CaseLayout_wish K.l hlt a1 a2 a3 x _ hc1).toI (Or.inl rfl) rfl (gx_goodV gw_461 gw_462 gw_463 gw_1 gw_464) (by decide +kernel) (gx_w28 E _) rfl (by rw [hR]; decide) rfl rfl (Nat.le_of_ble_eq_true rfl) d_Law_wish_7 (by rw [hR]; decide) rfl rfl ?_
  refine gx_i2l C d_Law_wish_10 rfl ?_
  obtain ⟨hi6, hf⟩ := gx_ck_some hf
  refine gx_last C (x' := gx_sL x1 (0 : Int32).toNatClampNeg (Int32.toInt64 r1)) 48 2 (gx_w48 E _) rfl hi6 (gx_q48 E _ _ _) d_Law_wish_11 ?_
  refine gx_goto (tgt := 23) C d_Law_wish_12 (by decide) ?_
  refine gx_iconst C (v := 0) d_Law_wish_23 (by decide) ?_
  cases hf
  exact gx_iret C hr hlk hk d_Law_wish_24

def f_CaseLayoutLaw_place (a1 : Int32) (a2 : Int32) (x : gx_S) : Option (Int32 × gx_S) :=
  gx_bh (f_CaseLayout_place a1 a2 x) (fun r1 x1 => gx_ck 0 1 (some (0, gx_sL x1 (0 : Int32).toNatClampNeg (Int32.toInt64 r1)))) (fun j1 x1 => if j1 = 1 then (some (1, x1)) else (if j1 = 2 then (some (2, x1)) else (if j1 = 3 then (some (3, x1)) else (none))))
abbrev rm_CaseLayoutLaw_place : Room := { frames := 8, cells := 2, slots := 12, locals := 126 }
set_option maxHeartbeats 4000000 in
set_option maxRecDepth 100000 in
theorem c_CaseLayoutLaw_place (l : Launch) (hlt : l.stackTraces = false) (a1 : Int32) (a2 : Int32) (x : gx_S) (o : Int32 × gx_S) (hf : f_CaseLayoutLaw_place a1 a2 x = some o) : gx_Wi true l y_Law_place method_8_code 5 (some .int) [(0, 10, 13, 13), (0, 10, 17, 24), (0, 10, 21, 19)] rm_CaseLayoutLaw_place (fun E => [.ref (gx_ad E 28), .int a1, .int a2, .ref (gx_ad E 48)]) x o.1 o.2 := by
  refine gx_metW (own := "CaseLayoutLaw") (by decide) rfl (fun E => Nat.le_of_ble_eq_true rfl) (fun K E hl0 hR hr hlk hH hk C => ?_)
  subst hl0
  obtain ⟨y1, y2, y3, hsp, hy1, hy2, hy3⟩ := gx_hnd3 hH
  have sp1 : y1.startPc = 0 := congrArg (fun q => q.1) hy1
  have ep1 : y1.endPc = 10 := congrArg (fun q => q.2.1) hy1
  have hp1 : y1.handlerPc = 13 := congrArg (fun q => q.2.2.1) hy1
  have ct1 : y1.catchType = 13 := congrArg (fun q => q.2.2.2) hy1
  have sp2 : y2.startPc = 0 := congrArg (fun q => q.1) hy2
  have ep2 : y2.endPc = 10 := congrArg (fun q => q.2.1) hy2
  have hp2 : y2.handlerPc = 17 := congrArg (fun q => q.2.2.1) hy2
  have ct2 : y2.catchType = 24 := congrArg (fun q => q.2.2.2) hy2
  have sp3 : y3.startPc = 0 := congrArg (fun q => q.1) hy3
  have ep3 : y3.endPc = 10 := congrArg (fun q => q.2.1) hy3
  have hp3 : y3.handlerPc = 21 := congrArg (fun q => q.2.2.1) hy3
  have ct3 : y3.catchType = 19 := congrArg (fun q => q.2.2.2) hy3
  unfold f_CaseLayoutLaw_place at hf
  show gx_G K E _ 0 0 x 0 [(0, .ref (gx_ad E 28)), (1, .int a1), (2, .int a2), (3, .ref (gx_ad E 48))] []
  refine gx_aload_n C 3 d_Law_place_0 rfl rfl ?_
  refine gx_iconst C (v := 0) d_Law_place_1 (by decide) ?_
  refine gx_aload_n C 0 d_Law_place_2 rfl rfl ?_
  refine gx_iload_n C 1 d_Law_place_3 rfl rfl ?_
  refine gx_iload_n C 2 d_Law_place_4 rfl rfl ?_
  obtain ⟨j1, r1, x1, hc1, ⟨hq1, hf⟩ | ⟨hq1, hf⟩⟩ := gx_bh_some hf
  rotate_left
  · refine gx_cVx (n2 := 2) (k2 := 12) C hq1 (As := [.int a1, .int a2]) (rest := [.int 0, .ref (gx_ad E 48)]) 28 2 (c_CaseLayout_place K.l hlt a1 a2 x _ hc1) (Or.inl rfl) rfl (gx_goodV gw_468 gw_469 gw_470 gw_1 gw_471) (by decide +kernel) (gx_w28 E _) rfl (by rw [hR]; decide) rfl rfl (Nat.le_of_ble_eq_true rfl) d_Law_place_5 (by rw [hR]; decide) rfl rfl ?_
    by_cases hj2 : j1 = 1
    · have hf := (if_pos hj2).symm.trans hf
      subst hj2
      refine gx_catch C [] y1 [y2, y3] hsp (fun z hz => by cases hz) (by simp only [covers]; rw [sp1, ep1]; decide) (by rw [ct1]; decide) (by rw [ct1]; exact gw_279) gn_294 hp1 (fun qe3 => ?_)
      refine gx_astore C (lv' := [(4, .ref qe3), (0, .ref (gx_ad E 28)), (1, .int a1), (2, .int a2), (3, .ref (gx_ad E 48))]) d_Law_place_13 (by decide) rfl ?_
      refine gx_iconst C (v := 1) d_Law_place_15 (by decide) ?_
      cases hf
      exact gx_iret C hr hlk hk d_Law_place_16
    · have hf := (if_neg hj2).symm.trans hf
      by_cases hj4 : j1 = 2
      · have hf := (if_pos hj4).symm.trans hf
        subst hj4
        refine gx_catch C [y1] y2 [y3] hsp (fun z hz => by
            simp only [List.mem_cons, List.not_mem_nil, or_false] at hz
            rcases hz with rfl
            · exact ⟨by rw [ct1]; decide, "java/lang/IndexOutOfBoundsException", by rw [ct1]; exact gw_279, by decide +kernel⟩) (by simp only [covers]; rw [sp2, ep2]; decide) (by rw [ct2]; decide) (by rw [ct2]; exact gw_410) gn_417 hp2 (fun qe5 => ?_)
        refine gx_astore C (lv' := [(4, .ref qe5), (0, .ref (gx_ad E 28)), (1, .int a1), (2, .int a2), (3, .ref (gx_ad E 48))]) d_Law_place_17 (by decide) rfl ?_
        refine gx_iconst C (v := 2) d_Law_place_19 (by decide) ?_
        cases hf
        exact gx_iret C hr hlk hk d_Law_place_20
      · have hf := (if_neg hj4).symm.trans hf
        by_cases hj6 : j1 = 3
        · have hf := (if_pos hj6).symm.trans hf
          subst hj6
          refine gx_catch C [y1, y2] y3 [] hsp (fun z hz => by
              simp only [List.mem_cons, List.not_mem_nil, or_false] at hz
              rcases hz with rfl | rfl
              · exact ⟨by rw [ct1]; decide, "java/lang/IndexOutOfBoundsException", by rw [ct1]; exact gw_279, by decide +kernel⟩
              · exact ⟨by rw [ct2]; decide, "java/lang/IllegalStateException", by rw [ct2]; exact gw_410, by decide +kernel⟩) (by simp only [covers]; rw [sp3, ep3]; decide) (by rw [ct3]; decide) (by rw [ct3]; exact gw_383) gn_393 hp3 (fun qe7 => ?_)
          refine gx_astore C (lv' := [(4, .ref qe7), (0, .ref (gx_ad E 28)), (1, .int a1), (2, .int a2), (3, .ref (gx_ad E 48))]) d_Law_place_21 (by decide) rfl ?_
          refine gx_iconst C (v := 3) d_Law_place_23 (by decide) ?_
          cases hf
          exact gx_iret C hr hlk hk d_Law_place_24
        · have hf := (if_neg hj6).symm.trans hf
          cases hf
  subst hq1
  refine gx_cVi (n2 := 2) (k2 := 12) C (As := [.int a1, .int a2]) (rest := [.int 0, .ref (gx_ad E 48)]) 28 2 (c_CaseLayout_place K.l hlt a1 a2 x _ hc1).toI (Or.inl rfl) rfl (gx_goodV gw_468 gw_469 gw_470 gw_1 gw_471) (by decide +kernel) (gx_w28 E _) rfl (by rw [hR]; decide) rfl rfl (Nat.le_of_ble_eq_true rfl) d_Law_place_5 (by rw [hR]; decide) rfl rfl ?_
  refine gx_i2l C d_Law_place_8 rfl ?_
  obtain ⟨hi8, hf⟩ := gx_ck_some hf
  refine gx_last C (x' := gx_sL x1 (0 : Int32).toNatClampNeg (Int32.toInt64 r1)) 48 2 (gx_w48 E _) rfl hi8 (gx_q48 E _ _ _) d_Law_place_9 ?_
  refine gx_goto (tgt := 25) C d_Law_place_10 (by decide) ?_
  refine gx_iconst C (v := 0) d_Law_place_25 (by decide) ?_
  cases hf
  exact gx_iret C hr hlk hk d_Law_place_26

def f_CaseLayoutLaw_sees (a1 : Int32) (a2 : Int32) (a3 : Int32) (x : gx_S) : Option (Int32 × gx_S) :=
  gx_bh (f_CaseLayout_sees a1 a2 a3 x) (fun r1 x1 => if r1 = 0 then (gx_ck 0 1 (some (0, gx_sL x1 (0 : Int32).toNatClampNeg 0))) else (gx_ck 0 1 (some (0, gx_sL x1 (0 : Int32).toNatClampNeg 1)))) (fun j1 x1 => if j1 = 1 then (some (1, x1)) else (none))
abbrev rm_CaseLayoutLaw_sees : Room := { frames := 8, cells := 2, slots := 12, locals := 128 }
set_option maxHeartbeats 4000000 in
set_option maxRecDepth 100000 in
theorem c_CaseLayoutLaw_sees (l : Launch) (hlt : l.stackTraces = false) (a1 : Int32) (a2 : Int32) (a3 : Int32) (x : gx_S) (o : Int32 × gx_S) (hf : f_CaseLayoutLaw_sees a1 a2 a3 x = some o) : gx_Wi true l y_Law_sees method_9_code 6 (some .int) [(0, 19, 22, 13)] rm_CaseLayoutLaw_sees (fun E => [.ref (gx_ad E 28), .int a1, .int a2, .int a3, .ref (gx_ad E 48)]) x o.1 o.2 := by
  refine gx_metW (own := "CaseLayoutLaw") (by decide) rfl (fun E => Nat.le_of_ble_eq_true rfl) (fun K E hl0 hR hr hlk hH hk C => ?_)
  subst hl0
  obtain ⟨y1, hsp, hy1⟩ := gx_hnd1 hH
  have sp1 : y1.startPc = 0 := congrArg (fun q => q.1) hy1
  have ep1 : y1.endPc = 19 := congrArg (fun q => q.2.1) hy1
  have hp1 : y1.handlerPc = 22 := congrArg (fun q => q.2.2.1) hy1
  have ct1 : y1.catchType = 13 := congrArg (fun q => q.2.2.2) hy1
  unfold f_CaseLayoutLaw_sees at hf
  show gx_G K E _ 0 0 x 0 [(0, .ref (gx_ad E 28)), (1, .int a1), (2, .int a2), (3, .int a3), (4, .ref (gx_ad E 48))] []
  refine gx_aload C 4 d_Law_sees_0 rfl ?_
  refine gx_iconst C (v := 0) d_Law_sees_2 (by decide) ?_
  refine gx_aload_n C 0 d_Law_sees_3 rfl rfl ?_
  refine gx_iload_n C 1 d_Law_sees_4 rfl rfl ?_
  refine gx_iload_n C 2 d_Law_sees_5 rfl rfl ?_
  refine gx_iload_n C 3 d_Law_sees_6 rfl rfl ?_
  obtain ⟨j1, r1, x1, hc1, ⟨hq1, hf⟩ | ⟨hq1, hf⟩⟩ := gx_bh_some hf
  rotate_left
  · refine gx_cVx (n2 := 2) (k2 := 12) C hq1 (As := [.int a1, .int a2, .int a3]) (rest := [.int 0, .ref (gx_ad E 48)]) 28 3 (c_CaseLayout_sees K.l hlt a1 a2 a3 x _ hc1) (Or.inl rfl) rfl (gx_goodV gw_481 gw_482 gw_483 gw_1 gw_484) (by decide +kernel) (gx_w28 E _) rfl (by rw [hR]; decide) rfl rfl (Nat.le_of_ble_eq_true rfl) d_Law_sees_7 (by rw [hR]; decide) rfl rfl ?_
    by_cases hj2 : j1 = 1
    · have hf := (if_pos hj2).symm.trans hf
      subst hj2
      refine gx_catch C [] y1 [] hsp (fun z hz => by cases hz) (by simp only [covers]; rw [sp1, ep1]; decide) (by rw [ct1]; decide) (by rw [ct1]; exact gw_279) gn_294 hp1 (fun qe3 => ?_)
      refine gx_astore C (lv' := [(5, .ref qe3), (0, .ref (gx_ad E 28)), (1, .int a1), (2, .int a2), (3, .int a3), (4, .ref (gx_ad E 48))]) d_Law_sees_22 (by decide) rfl ?_
      refine gx_iconst C (v := 1) d_Law_sees_24 (by decide) ?_
      cases hf
      exact gx_iret C hr hlk hk d_Law_sees_25
    · have hf := (if_neg hj2).symm.trans hf
      cases hf
  subst hq1
  refine gx_cVi (n2 := 2) (k2 := 12) C (As := [.int a1, .int a2, .int a3]) (rest := [.int 0, .ref (gx_ad E 48)]) 28 3 (c_CaseLayout_sees K.l hlt a1 a2 a3 x _ hc1).toI (Or.inl rfl) rfl (gx_goodV gw_481 gw_482 gw_483 gw_1 gw_484) (by decide +kernel) (gx_w28 E _) rfl (by rw [hR]; decide) rfl rfl (Nat.le_of_ble_eq_true rfl) d_Law_sees_7 (by rw [hR]; decide) rfl rfl ?_
  refine gx_if_eq (tgt := 17) C d_Law_sees_10 (by decide) (fun h4 => ?_) (fun h4 => ?_)
  · have hf := (if_pos h4).symm.trans hf
    refine gx_lconst C (v := 0) d_Law_sees_17 (by decide) ?_
    obtain ⟨hi5, hf⟩ := gx_ck_some hf
    refine gx_last C (x' := gx_sL x1 (0 : Int32).toNatClampNeg 0) 48 2 (gx_w48 E _) rfl hi5 (gx_q48 E _ _ _) d_Law_sees_18 ?_
    refine gx_goto (tgt := 26) C d_Law_sees_19 (by decide) ?_
    refine gx_iconst C (v := 0) d_Law_sees_26 (by decide) ?_
    cases hf
    exact gx_iret C hr hlk hk d_Law_sees_27
  · have hf := (if_neg h4).symm.trans hf
    refine gx_lconst C (v := 1) d_Law_sees_13 (by decide) ?_
    refine gx_goto (tgt := 18) C d_Law_sees_14 (by decide) ?_
    obtain ⟨hi6, hf⟩ := gx_ck_some hf
    refine gx_last C (x' := gx_sL x1 (0 : Int32).toNatClampNeg 1) 48 2 (gx_w48 E _) rfl hi6 (gx_q48 E _ _ _) d_Law_sees_18 ?_
    refine gx_goto (tgt := 26) C d_Law_sees_19 (by decide) ?_
    refine gx_iconst C (v := 0) d_Law_sees_26 (by decide) ?_
    cases hf
    exact gx_iret C hr hlk hk d_Law_sees_27

def f_CaseLayoutLaw_exit (a1 : Int32) (a2 : Int32) (x : gx_S) : Option (Int32 × gx_S) :=
  gx_bh (f_CaseLayout_exit a1 a2 x) (fun r1 x1 => gx_ck 0 1 (some (0, gx_sL x1 (0 : Int32).toNatClampNeg (Int32.toInt64 r1)))) (fun j1 x1 => if j1 = 1 then (some (1, x1)) else (if j1 = 2 then (some (2, x1)) else (if j1 = 3 then (some (3, x1)) else (none))))
abbrev rm_CaseLayoutLaw_exit : Room := { frames := 8, cells := 2, slots := 12, locals := 127 }
set_option maxHeartbeats 4000000 in
set_option maxRecDepth 100000 in
theorem c_CaseLayoutLaw_exit (l : Launch) (hlt : l.stackTraces = false) (a1 : Int32) (a2 : Int32) (x : gx_S) (o : Int32 × gx_S) (hf : f_CaseLayoutLaw_exit a1 a2 x = some o) : gx_Wi true l y_Law_exit method_10_code 5 (some .int) [(0, 10, 13, 13), (0, 10, 17, 24), (0, 10, 21, 19)] rm_CaseLayoutLaw_exit (fun E => [.ref (gx_ad E 28), .int a1, .int a2, .ref (gx_ad E 48)]) x o.1 o.2 := by
  refine gx_metW (own := "CaseLayoutLaw") (by decide) rfl (fun E => Nat.le_of_ble_eq_true rfl) (fun K E hl0 hR hr hlk hH hk C => ?_)
  subst hl0
  obtain ⟨y1, y2, y3, hsp, hy1, hy2, hy3⟩ := gx_hnd3 hH
  have sp1 : y1.startPc = 0 := congrArg (fun q => q.1) hy1
  have ep1 : y1.endPc = 10 := congrArg (fun q => q.2.1) hy1
  have hp1 : y1.handlerPc = 13 := congrArg (fun q => q.2.2.1) hy1
  have ct1 : y1.catchType = 13 := congrArg (fun q => q.2.2.2) hy1
  have sp2 : y2.startPc = 0 := congrArg (fun q => q.1) hy2
  have ep2 : y2.endPc = 10 := congrArg (fun q => q.2.1) hy2
  have hp2 : y2.handlerPc = 17 := congrArg (fun q => q.2.2.1) hy2
  have ct2 : y2.catchType = 24 := congrArg (fun q => q.2.2.2) hy2
  have sp3 : y3.startPc = 0 := congrArg (fun q => q.1) hy3
  have ep3 : y3.endPc = 10 := congrArg (fun q => q.2.1) hy3
  have hp3 : y3.handlerPc = 21 := congrArg (fun q => q.2.2.1) hy3
  have ct3 : y3.catchType = 19 := congrArg (fun q => q.2.2.2) hy3
  unfold f_CaseLayoutLaw_exit at hf
  show gx_G K E _ 0 0 x 0 [(0, .ref (gx_ad E 28)), (1, .int a1), (2, .int a2), (3, .ref (gx_ad E 48))] []
  refine gx_aload_n C 3 d_Law_exit_0 rfl rfl ?_
  refine gx_iconst C (v := 0) d_Law_exit_1 (by decide) ?_
  refine gx_aload_n C 0 d_Law_exit_2 rfl rfl ?_
  refine gx_iload_n C 1 d_Law_exit_3 rfl rfl ?_
  refine gx_iload_n C 2 d_Law_exit_4 rfl rfl ?_
  obtain ⟨j1, r1, x1, hc1, ⟨hq1, hf⟩ | ⟨hq1, hf⟩⟩ := gx_bh_some hf
  rotate_left
  · refine gx_cVx (n2 := 2) (k2 := 12) C hq1 (As := [.int a1, .int a2]) (rest := [.int 0, .ref (gx_ad E 48)]) 28 2 (c_CaseLayout_exit K.l hlt a1 a2 x _ hc1) (Or.inl rfl) rfl (gx_goodV gw_496 gw_497 gw_498 gw_1 gw_499) (by decide +kernel) (gx_w28 E _) rfl (by rw [hR]; decide) rfl rfl (Nat.le_of_ble_eq_true rfl) d_Law_exit_5 (by rw [hR]; decide) rfl rfl ?_
    by_cases hj2 : j1 = 1
    · have hf := (if_pos hj2).symm.trans hf
      subst hj2
      refine gx_catch C [] y1 [y2, y3] hsp (fun z hz => by cases hz) (by simp only [covers]; rw [sp1, ep1]; decide) (by rw [ct1]; decide) (by rw [ct1]; exact gw_279) gn_294 hp1 (fun qe3 => ?_)
      refine gx_astore C (lv' := [(4, .ref qe3), (0, .ref (gx_ad E 28)), (1, .int a1), (2, .int a2), (3, .ref (gx_ad E 48))]) d_Law_exit_13 (by decide) rfl ?_
      refine gx_iconst C (v := 1) d_Law_exit_15 (by decide) ?_
      cases hf
      exact gx_iret C hr hlk hk d_Law_exit_16
    · have hf := (if_neg hj2).symm.trans hf
      by_cases hj4 : j1 = 2
      · have hf := (if_pos hj4).symm.trans hf
        subst hj4
        refine gx_catch C [y1] y2 [y3] hsp (fun z hz => by
            simp only [List.mem_cons, List.not_mem_nil, or_false] at hz
            rcases hz with rfl
            · exact ⟨by rw [ct1]; decide, "java/lang/IndexOutOfBoundsException", by rw [ct1]; exact gw_279, by decide +kernel⟩) (by simp only [covers]; rw [sp2, ep2]; decide) (by rw [ct2]; decide) (by rw [ct2]; exact gw_410) gn_417 hp2 (fun qe5 => ?_)
        refine gx_astore C (lv' := [(4, .ref qe5), (0, .ref (gx_ad E 28)), (1, .int a1), (2, .int a2), (3, .ref (gx_ad E 48))]) d_Law_exit_17 (by decide) rfl ?_
        refine gx_iconst C (v := 2) d_Law_exit_19 (by decide) ?_
        cases hf
        exact gx_iret C hr hlk hk d_Law_exit_20
      · have hf := (if_neg hj4).symm.trans hf
        by_cases hj6 : j1 = 3
        · have hf := (if_pos hj6).symm.trans hf
          subst hj6
          refine gx_catch C [y1, y2] y3 [] hsp (fun z hz => by
              simp only [List.mem_cons, List.not_mem_nil, or_false] at hz
              rcases hz with rfl | rfl
              · exact ⟨by rw [ct1]; decide, "java/lang/IndexOutOfBoundsException", by rw [ct1]; exact gw_279, by decide +kernel⟩
              · exact ⟨by rw [ct2]; decide, "java/lang/IllegalStateException", by rw [ct2]; exact gw_410, by decide +kernel⟩) (by simp only [covers]; rw [sp3, ep3]; decide) (by rw [ct3]; decide) (by rw [ct3]; exact gw_383) gn_393 hp3 (fun qe7 => ?_)
          refine gx_astore C (lv' := [(4, .ref qe7), (0, .ref (gx_ad E 28)), (1, .int a1), (2, .int a2), (3, .ref (gx_ad E 48))]) d_Law_exit_21 (by decide) rfl ?_
          refine gx_iconst C (v := 3) d_Law_exit_23 (by decide) ?_
          cases hf
          exact gx_iret C hr hlk hk d_Law_exit_24
        · have hf := (if_neg hj6).symm.trans hf
          cases hf
  subst hq1
  refine gx_cVi (n2 := 2) (k2 := 12) C (As := [.int a1, .int a2]) (rest := [.int 0, .ref (gx_ad E 48)]) 28 2 (c_CaseLayout_exit K.l hlt a1 a2 x _ hc1).toI (Or.inl rfl) rfl (gx_goodV gw_496 gw_497 gw_498 gw_1 gw_499) (by decide +kernel) (gx_w28 E _) rfl (by rw [hR]; decide) rfl rfl (Nat.le_of_ble_eq_true rfl) d_Law_exit_5 (by rw [hR]; decide) rfl rfl ?_
  refine gx_i2l C d_Law_exit_8 rfl ?_
  obtain ⟨hi8, hf⟩ := gx_ck_some hf
  refine gx_last C (x' := gx_sL x1 (0 : Int32).toNatClampNeg (Int32.toInt64 r1)) 48 2 (gx_w48 E _) rfl hi8 (gx_q48 E _ _ _) d_Law_exit_9 ?_
  refine gx_goto (tgt := 25) C d_Law_exit_10 (by decide) ?_
  refine gx_iconst C (v := 0) d_Law_exit_25 (by decide) ?_
  cases hf
  exact gx_iret C hr hlk hk d_Law_exit_26

def f_CaseLayoutLaw_most (a1 : Int32) (x : gx_S) : Option (Int32 × gx_S) :=
  gx_bh (f_CaseLayout_most a1 x) (fun r1 x1 => gx_ck 0 1 (some (0, gx_sL x1 (0 : Int32).toNatClampNeg (Int32.toInt64 r1)))) (fun j1 x1 => if j1 = 3 then (some (1, x1)) else (none))
abbrev rm_CaseLayoutLaw_most : Room := { frames := 8, cells := 1, slots := 6, locals := 126 }
set_option maxHeartbeats 4000000 in
set_option maxRecDepth 100000 in
theorem c_CaseLayoutLaw_most (l : Launch) (hlt : l.stackTraces = false) (a1 : Int32) (x : gx_S) (o : Int32 × gx_S) (hf : f_CaseLayoutLaw_most a1 x = some o) : gx_Wi true l y_Law_most method_11_code 4 (some .int) [(0, 9, 12, 19)] rm_CaseLayoutLaw_most (fun E => [.ref (gx_ad E 28), .int a1, .ref (gx_ad E 48)]) x o.1 o.2 := by
  refine gx_metW (own := "CaseLayoutLaw") (by decide) rfl (fun E => Nat.le_of_ble_eq_true rfl) (fun K E hl0 hR hr hlk hH hk C => ?_)
  subst hl0
  obtain ⟨y1, hsp, hy1⟩ := gx_hnd1 hH
  have sp1 : y1.startPc = 0 := congrArg (fun q => q.1) hy1
  have ep1 : y1.endPc = 9 := congrArg (fun q => q.2.1) hy1
  have hp1 : y1.handlerPc = 12 := congrArg (fun q => q.2.2.1) hy1
  have ct1 : y1.catchType = 19 := congrArg (fun q => q.2.2.2) hy1
  unfold f_CaseLayoutLaw_most at hf
  show gx_G K E _ 0 0 x 0 [(0, .ref (gx_ad E 28)), (1, .int a1), (2, .ref (gx_ad E 48))] []
  refine gx_aload_n C 2 d_Law_most_0 rfl rfl ?_
  refine gx_iconst C (v := 0) d_Law_most_1 (by decide) ?_
  refine gx_aload_n C 0 d_Law_most_2 rfl rfl ?_
  refine gx_iload_n C 1 d_Law_most_3 rfl rfl ?_
  obtain ⟨j1, r1, x1, hc1, ⟨hq1, hf⟩ | ⟨hq1, hf⟩⟩ := gx_bh_some hf
  rotate_left
  · refine gx_cVx (n2 := 1) (k2 := 6) C hq1 (As := [.int a1]) (rest := [.int 0, .ref (gx_ad E 48)]) 28 1 (c_CaseLayout_most K.l hlt a1 x _ hc1) (Or.inl rfl) rfl (gx_goodV gw_509 gw_510 gw_511 gw_1 gw_512) (by decide +kernel) (gx_w28 E _) rfl (by rw [hR]; decide) rfl rfl (Nat.le_of_ble_eq_true rfl) d_Law_most_4 (by rw [hR]; decide) rfl rfl ?_
    by_cases hj2 : j1 = 3
    · have hf := (if_pos hj2).symm.trans hf
      subst hj2
      refine gx_catch C [] y1 [] hsp (fun z hz => by cases hz) (by simp only [covers]; rw [sp1, ep1]; decide) (by rw [ct1]; decide) (by rw [ct1]; exact gw_383) gn_393 hp1 (fun qe3 => ?_)
      refine gx_astore_n C (lv' := [(3, .ref qe3), (0, .ref (gx_ad E 28)), (1, .int a1), (2, .ref (gx_ad E 48))]) d_Law_most_12 rfl (by decide) rfl ?_
      refine gx_iconst C (v := 1) d_Law_most_13 (by decide) ?_
      cases hf
      exact gx_iret C hr hlk hk d_Law_most_14
    · have hf := (if_neg hj2).symm.trans hf
      cases hf
  subst hq1
  refine gx_cVi (n2 := 1) (k2 := 6) C (As := [.int a1]) (rest := [.int 0, .ref (gx_ad E 48)]) 28 1 (c_CaseLayout_most K.l hlt a1 x _ hc1).toI (Or.inl rfl) rfl (gx_goodV gw_509 gw_510 gw_511 gw_1 gw_512) (by decide +kernel) (gx_w28 E _) rfl (by rw [hR]; decide) rfl rfl (Nat.le_of_ble_eq_true rfl) d_Law_most_4 (by rw [hR]; decide) rfl rfl ?_
  refine gx_i2l C d_Law_most_7 rfl ?_
  obtain ⟨hi4, hf⟩ := gx_ck_some hf
  refine gx_last C (x' := gx_sL x1 (0 : Int32).toNatClampNeg (Int32.toInt64 r1)) 48 2 (gx_w48 E _) rfl hi4 (gx_q48 E _ _ _) d_Law_most_8 ?_
  refine gx_goto (tgt := 15) C d_Law_most_9 (by decide) ?_
  refine gx_iconst C (v := 0) d_Law_most_15 (by decide) ?_
  cases hf
  exact gx_iret C hr hlk hk d_Law_most_16

def f_CaseLayoutLaw_run (a1 : Int32) (x : gx_S) : Option (Int32 × gx_S) :=
  gx_bh (f_CaseLayout_run a1 x) (fun r1 x1 => gx_ck 0 1 (some (0, gx_sL x1 (0 : Int32).toNatClampNeg (Int32.toInt64 r1)))) (fun j1 x1 => if j1 = 3 then (some (1, x1)) else (none))
abbrev rm_CaseLayoutLaw_run : Room := { frames := 16, cells := 1, slots := 6, locals := 378 }
set_option maxHeartbeats 4000000 in
set_option maxRecDepth 100000 in
theorem c_CaseLayoutLaw_run (l : Launch) (hlt : l.stackTraces = false) (a1 : Int32) (x : gx_S) (o : Int32 × gx_S) (hf : f_CaseLayoutLaw_run a1 x = some o) : gx_Wi true l y_Law_run method_12_code 4 (some .int) [(0, 9, 12, 19)] rm_CaseLayoutLaw_run (fun E => [.ref (gx_ad E 28), .int a1, .ref (gx_ad E 48)]) x o.1 o.2 := by
  refine gx_metW (own := "CaseLayoutLaw") (by decide) rfl (fun E => Nat.le_of_ble_eq_true rfl) (fun K E hl0 hR hr hlk hH hk C => ?_)
  subst hl0
  obtain ⟨y1, hsp, hy1⟩ := gx_hnd1 hH
  have sp1 : y1.startPc = 0 := congrArg (fun q => q.1) hy1
  have ep1 : y1.endPc = 9 := congrArg (fun q => q.2.1) hy1
  have hp1 : y1.handlerPc = 12 := congrArg (fun q => q.2.2.1) hy1
  have ct1 : y1.catchType = 19 := congrArg (fun q => q.2.2.2) hy1
  unfold f_CaseLayoutLaw_run at hf
  show gx_G K E _ 0 0 x 0 [(0, .ref (gx_ad E 28)), (1, .int a1), (2, .ref (gx_ad E 48))] []
  refine gx_aload_n C 2 d_Law_run_0 rfl rfl ?_
  refine gx_iconst C (v := 0) d_Law_run_1 (by decide) ?_
  refine gx_aload_n C 0 d_Law_run_2 rfl rfl ?_
  refine gx_iload_n C 1 d_Law_run_3 rfl rfl ?_
  obtain ⟨j1, r1, x1, hc1, ⟨hq1, hf⟩ | ⟨hq1, hf⟩⟩ := gx_bh_some hf
  rotate_left
  · refine gx_cVx (n2 := 1) (k2 := 6) C hq1 (As := [.int a1]) (rest := [.int 0, .ref (gx_ad E 48)]) 28 1 (c_CaseLayout_run K.l hlt a1 x _ hc1) (Or.inl rfl) rfl (gx_goodV gw_516 gw_517 gw_518 gw_1 gw_519) (by decide +kernel) (gx_w28 E _) rfl (by rw [hR]; decide) rfl rfl (Nat.le_of_ble_eq_true rfl) d_Law_run_4 (by rw [hR]; decide) rfl rfl ?_
    by_cases hj2 : j1 = 3
    · have hf := (if_pos hj2).symm.trans hf
      subst hj2
      refine gx_catch C [] y1 [] hsp (fun z hz => by cases hz) (by simp only [covers]; rw [sp1, ep1]; decide) (by rw [ct1]; decide) (by rw [ct1]; exact gw_383) gn_393 hp1 (fun qe3 => ?_)
      refine gx_astore_n C (lv' := [(3, .ref qe3), (0, .ref (gx_ad E 28)), (1, .int a1), (2, .ref (gx_ad E 48))]) d_Law_run_12 rfl (by decide) rfl ?_
      refine gx_iconst C (v := 1) d_Law_run_13 (by decide) ?_
      cases hf
      exact gx_iret C hr hlk hk d_Law_run_14
    · have hf := (if_neg hj2).symm.trans hf
      cases hf
  subst hq1
  refine gx_cVi (n2 := 1) (k2 := 6) C (As := [.int a1]) (rest := [.int 0, .ref (gx_ad E 48)]) 28 1 (c_CaseLayout_run K.l hlt a1 x _ hc1).toI (Or.inl rfl) rfl (gx_goodV gw_516 gw_517 gw_518 gw_1 gw_519) (by decide +kernel) (gx_w28 E _) rfl (by rw [hR]; decide) rfl rfl (Nat.le_of_ble_eq_true rfl) d_Law_run_4 (by rw [hR]; decide) rfl rfl ?_
  refine gx_i2l C d_Law_run_7 rfl ?_
  obtain ⟨hi4, hf⟩ := gx_ck_some hf
  refine gx_last C (x' := gx_sL x1 (0 : Int32).toNatClampNeg (Int32.toInt64 r1)) 48 2 (gx_w48 E _) rfl hi4 (gx_q48 E _ _ _) d_Law_run_8 ?_
  refine gx_goto (tgt := 15) C d_Law_run_9 (by decide) ?_
  refine gx_iconst C (v := 0) d_Law_run_15 (by decide) ?_
  cases hf
  exact gx_iret C hr hlk hk d_Law_run_16

def f_CaseLayoutLaw_at (a1 : Int32) (a2 : Int32) (x : gx_S) : Option (Int32 × gx_S) :=
  gx_bh (f_CaseLayout_at a1 a2 x) (fun r1 x1 => gx_ck 0 1 (some (0, gx_sL x1 (0 : Int32).toNatClampNeg (Int32.toInt64 r1)))) (fun j1 x1 => if j1 = 1 then (some (1, x1)) else (if j1 = 2 then (some (2, x1)) else (none)))
abbrev rm_CaseLayoutLaw_at : Room := { frames := 8, cells := 2, slots := 12, locals := 125 }
set_option maxHeartbeats 4000000 in
set_option maxRecDepth 100000 in
theorem c_CaseLayoutLaw_at (l : Launch) (hlt : l.stackTraces = false) (a1 : Int32) (a2 : Int32) (x : gx_S) (o : Int32 × gx_S) (hf : f_CaseLayoutLaw_at a1 a2 x = some o) : gx_Wi true l y_Law_at method_13_code 5 (some .int) [(0, 10, 13, 13), (0, 10, 17, 24)] rm_CaseLayoutLaw_at (fun E => [.ref (gx_ad E 28), .int a1, .int a2, .ref (gx_ad E 48)]) x o.1 o.2 := by
  refine gx_metW (own := "CaseLayoutLaw") (by decide) rfl (fun E => Nat.le_of_ble_eq_true rfl) (fun K E hl0 hR hr hlk hH hk C => ?_)
  subst hl0
  obtain ⟨y1, y2, hsp, hy1, hy2⟩ := gx_hnd2 hH
  have sp1 : y1.startPc = 0 := congrArg (fun q => q.1) hy1
  have ep1 : y1.endPc = 10 := congrArg (fun q => q.2.1) hy1
  have hp1 : y1.handlerPc = 13 := congrArg (fun q => q.2.2.1) hy1
  have ct1 : y1.catchType = 13 := congrArg (fun q => q.2.2.2) hy1
  have sp2 : y2.startPc = 0 := congrArg (fun q => q.1) hy2
  have ep2 : y2.endPc = 10 := congrArg (fun q => q.2.1) hy2
  have hp2 : y2.handlerPc = 17 := congrArg (fun q => q.2.2.1) hy2
  have ct2 : y2.catchType = 24 := congrArg (fun q => q.2.2.2) hy2
  unfold f_CaseLayoutLaw_at at hf
  show gx_G K E _ 0 0 x 0 [(0, .ref (gx_ad E 28)), (1, .int a1), (2, .int a2), (3, .ref (gx_ad E 48))] []
  refine gx_aload_n C 3 d_Law_at_0 rfl rfl ?_
  refine gx_iconst C (v := 0) d_Law_at_1 (by decide) ?_
  refine gx_aload_n C 0 d_Law_at_2 rfl rfl ?_
  refine gx_iload_n C 1 d_Law_at_3 rfl rfl ?_
  refine gx_iload_n C 2 d_Law_at_4 rfl rfl ?_
  obtain ⟨j1, r1, x1, hc1, ⟨hq1, hf⟩ | ⟨hq1, hf⟩⟩ := gx_bh_some hf
  rotate_left
  · refine gx_cVx (n2 := 2) (k2 := 12) C hq1 (As := [.int a1, .int a2]) (rest := [.int 0, .ref (gx_ad E 48)]) 28 2 (c_CaseLayout_at K.l hlt a1 a2 x _ hc1) (Or.inl rfl) rfl (gx_goodV gw_630 gw_631 gw_632 gw_1 gw_633) (by decide +kernel) (gx_w28 E _) rfl (by rw [hR]; decide) rfl rfl (Nat.le_of_ble_eq_true rfl) d_Law_at_5 (by rw [hR]; decide) rfl rfl ?_
    by_cases hj2 : j1 = 1
    · have hf := (if_pos hj2).symm.trans hf
      subst hj2
      refine gx_catch C [] y1 [y2] hsp (fun z hz => by cases hz) (by simp only [covers]; rw [sp1, ep1]; decide) (by rw [ct1]; decide) (by rw [ct1]; exact gw_279) gn_294 hp1 (fun qe3 => ?_)
      refine gx_astore C (lv' := [(4, .ref qe3), (0, .ref (gx_ad E 28)), (1, .int a1), (2, .int a2), (3, .ref (gx_ad E 48))]) d_Law_at_13 (by decide) rfl ?_
      refine gx_iconst C (v := 1) d_Law_at_15 (by decide) ?_
      cases hf
      exact gx_iret C hr hlk hk d_Law_at_16
    · have hf := (if_neg hj2).symm.trans hf
      by_cases hj4 : j1 = 2
      · have hf := (if_pos hj4).symm.trans hf
        subst hj4
        refine gx_catch C [y1] y2 [] hsp (fun z hz => by
            simp only [List.mem_cons, List.not_mem_nil, or_false] at hz
            rcases hz with rfl
            · exact ⟨by rw [ct1]; decide, "java/lang/IndexOutOfBoundsException", by rw [ct1]; exact gw_279, by decide +kernel⟩) (by simp only [covers]; rw [sp2, ep2]; decide) (by rw [ct2]; decide) (by rw [ct2]; exact gw_410) gn_417 hp2 (fun qe5 => ?_)
        refine gx_astore C (lv' := [(4, .ref qe5), (0, .ref (gx_ad E 28)), (1, .int a1), (2, .int a2), (3, .ref (gx_ad E 48))]) d_Law_at_17 (by decide) rfl ?_
        refine gx_iconst C (v := 2) d_Law_at_19 (by decide) ?_
        cases hf
        exact gx_iret C hr hlk hk d_Law_at_20
      · have hf := (if_neg hj4).symm.trans hf
        cases hf
  subst hq1
  refine gx_cVi (n2 := 2) (k2 := 12) C (As := [.int a1, .int a2]) (rest := [.int 0, .ref (gx_ad E 48)]) 28 2 (c_CaseLayout_at K.l hlt a1 a2 x _ hc1).toI (Or.inl rfl) rfl (gx_goodV gw_630 gw_631 gw_632 gw_1 gw_633) (by decide +kernel) (gx_w28 E _) rfl (by rw [hR]; decide) rfl rfl (Nat.le_of_ble_eq_true rfl) d_Law_at_5 (by rw [hR]; decide) rfl rfl ?_
  refine gx_i2l C d_Law_at_8 rfl ?_
  obtain ⟨hi6, hf⟩ := gx_ck_some hf
  refine gx_last C (x' := gx_sL x1 (0 : Int32).toNatClampNeg (Int32.toInt64 r1)) 48 2 (gx_w48 E _) rfl hi6 (gx_q48 E _ _ _) d_Law_at_9 ?_
  refine gx_goto (tgt := 21) C d_Law_at_10 (by decide) ?_
  refine gx_iconst C (v := 0) d_Law_at_21 (by decide) ?_
  cases hf
  exact gx_iret C hr hlk hk d_Law_at_22

def f_CaseLayoutLaw_sight (a1 : Int32) (a2 : Int32) (x : gx_S) : Option (Int32 × gx_S) :=
  gx_bh (f_CaseLayout_sight a1 a2 x) (fun r1 x1 => if r1 = 0 then (gx_ck 0 1 (some (0, gx_sL x1 (0 : Int32).toNatClampNeg 0))) else (gx_ck 0 1 (some (0, gx_sL x1 (0 : Int32).toNatClampNeg 1)))) (fun j1 x1 => if j1 = 1 then (some (1, x1)) else (if j1 = 2 then (some (2, x1)) else (none)))
abbrev rm_CaseLayoutLaw_sight : Room := { frames := 8, cells := 3, slots := 18, locals := 125 }
set_option maxHeartbeats 4000000 in
set_option maxRecDepth 100000 in
theorem c_CaseLayoutLaw_sight (l : Launch) (hlt : l.stackTraces = false) (a1 : Int32) (a2 : Int32) (x : gx_S) (o : Int32 × gx_S) (hf : f_CaseLayoutLaw_sight a1 a2 x = some o) : gx_Wi true l y_Law_sight method_14_code 5 (some .int) [(0, 17, 20, 13), (0, 17, 24, 24)] rm_CaseLayoutLaw_sight (fun E => [.ref (gx_ad E 28), .int a1, .int a2, .ref (gx_ad E 48)]) x o.1 o.2 := by
  refine gx_metW (own := "CaseLayoutLaw") (by decide) rfl (fun E => Nat.le_of_ble_eq_true rfl) (fun K E hl0 hR hr hlk hH hk C => ?_)
  subst hl0
  obtain ⟨y1, y2, hsp, hy1, hy2⟩ := gx_hnd2 hH
  have sp1 : y1.startPc = 0 := congrArg (fun q => q.1) hy1
  have ep1 : y1.endPc = 17 := congrArg (fun q => q.2.1) hy1
  have hp1 : y1.handlerPc = 20 := congrArg (fun q => q.2.2.1) hy1
  have ct1 : y1.catchType = 13 := congrArg (fun q => q.2.2.2) hy1
  have sp2 : y2.startPc = 0 := congrArg (fun q => q.1) hy2
  have ep2 : y2.endPc = 17 := congrArg (fun q => q.2.1) hy2
  have hp2 : y2.handlerPc = 24 := congrArg (fun q => q.2.2.1) hy2
  have ct2 : y2.catchType = 24 := congrArg (fun q => q.2.2.2) hy2
  unfold f_CaseLayoutLaw_sight at hf
  show gx_G K E _ 0 0 x 0 [(0, .ref (gx_ad E 28)), (1, .int a1), (2, .int a2), (3, .ref (gx_ad E 48))] []
  refine gx_aload_n C 3 d_Law_sight_0 rfl rfl ?_
  refine gx_iconst C (v := 0) d_Law_sight_1 (by decide) ?_
  refine gx_aload_n C 0 d_Law_sight_2 rfl rfl ?_
  refine gx_iload_n C 1 d_Law_sight_3 rfl rfl ?_
  refine gx_iload_n C 2 d_Law_sight_4 rfl rfl ?_
  obtain ⟨j1, r1, x1, hc1, ⟨hq1, hf⟩ | ⟨hq1, hf⟩⟩ := gx_bh_some hf
  rotate_left
  · refine gx_cVx (n2 := 3) (k2 := 18) C hq1 (As := [.int a1, .int a2]) (rest := [.int 0, .ref (gx_ad E 48)]) 28 2 (c_CaseLayout_sight K.l hlt a1 a2 x _ hc1) (Or.inl rfl) rfl (gx_goodV gw_643 gw_644 gw_645 gw_1 gw_646) (by decide +kernel) (gx_w28 E _) rfl (by rw [hR]; decide) rfl rfl (Nat.le_of_ble_eq_true rfl) d_Law_sight_5 (by rw [hR]; decide) rfl rfl ?_
    by_cases hj2 : j1 = 1
    · have hf := (if_pos hj2).symm.trans hf
      subst hj2
      refine gx_catch C [] y1 [y2] hsp (fun z hz => by cases hz) (by simp only [covers]; rw [sp1, ep1]; decide) (by rw [ct1]; decide) (by rw [ct1]; exact gw_279) gn_294 hp1 (fun qe3 => ?_)
      refine gx_astore C (lv' := [(4, .ref qe3), (0, .ref (gx_ad E 28)), (1, .int a1), (2, .int a2), (3, .ref (gx_ad E 48))]) d_Law_sight_20 (by decide) rfl ?_
      refine gx_iconst C (v := 1) d_Law_sight_22 (by decide) ?_
      cases hf
      exact gx_iret C hr hlk hk d_Law_sight_23
    · have hf := (if_neg hj2).symm.trans hf
      by_cases hj4 : j1 = 2
      · have hf := (if_pos hj4).symm.trans hf
        subst hj4
        refine gx_catch C [y1] y2 [] hsp (fun z hz => by
            simp only [List.mem_cons, List.not_mem_nil, or_false] at hz
            rcases hz with rfl
            · exact ⟨by rw [ct1]; decide, "java/lang/IndexOutOfBoundsException", by rw [ct1]; exact gw_279, by decide +kernel⟩) (by simp only [covers]; rw [sp2, ep2]; decide) (by rw [ct2]; decide) (by rw [ct2]; exact gw_410) gn_417 hp2 (fun qe5 => ?_)
        refine gx_astore C (lv' := [(4, .ref qe5), (0, .ref (gx_ad E 28)), (1, .int a1), (2, .int a2), (3, .ref (gx_ad E 48))]) d_Law_sight_24 (by decide) rfl ?_
        refine gx_iconst C (v := 2) d_Law_sight_26 (by decide) ?_
        cases hf
        exact gx_iret C hr hlk hk d_Law_sight_27
      · have hf := (if_neg hj4).symm.trans hf
        cases hf
  subst hq1
  refine gx_cVi (n2 := 3) (k2 := 18) C (As := [.int a1, .int a2]) (rest := [.int 0, .ref (gx_ad E 48)]) 28 2 (c_CaseLayout_sight K.l hlt a1 a2 x _ hc1).toI (Or.inl rfl) rfl (gx_goodV gw_643 gw_644 gw_645 gw_1 gw_646) (by decide +kernel) (gx_w28 E _) rfl (by rw [hR]; decide) rfl rfl (Nat.le_of_ble_eq_true rfl) d_Law_sight_5 (by rw [hR]; decide) rfl rfl ?_
  refine gx_if_eq (tgt := 15) C d_Law_sight_8 (by decide) (fun h6 => ?_) (fun h6 => ?_)
  · have hf := (if_pos h6).symm.trans hf
    refine gx_lconst C (v := 0) d_Law_sight_15 (by decide) ?_
    obtain ⟨hi7, hf⟩ := gx_ck_some hf
    refine gx_last C (x' := gx_sL x1 (0 : Int32).toNatClampNeg 0) 48 2 (gx_w48 E _) rfl hi7 (gx_q48 E _ _ _) d_Law_sight_16 ?_
    refine gx_goto (tgt := 28) C d_Law_sight_17 (by decide) ?_
    refine gx_iconst C (v := 0) d_Law_sight_28 (by decide) ?_
    cases hf
    exact gx_iret C hr hlk hk d_Law_sight_29
  · have hf := (if_neg h6).symm.trans hf
    refine gx_lconst C (v := 1) d_Law_sight_11 (by decide) ?_
    refine gx_goto (tgt := 16) C d_Law_sight_12 (by decide) ?_
    obtain ⟨hi8, hf⟩ := gx_ck_some hf
    refine gx_last C (x' := gx_sL x1 (0 : Int32).toNatClampNeg 1) 48 2 (gx_w48 E _) rfl hi8 (gx_q48 E _ _ _) d_Law_sight_16 ?_
    refine gx_goto (tgt := 28) C d_Law_sight_17 (by decide) ?_
    refine gx_iconst C (v := 0) d_Law_sight_28 (by decide) ?_
    cases hf
    exact gx_iret C hr hlk hk d_Law_sight_29

def f_CaseLayoutLaw_escape (a1 : Int32) (a2 : Int32) (x : gx_S) : Option (Int32 × gx_S) :=
  gx_bh (f_CaseLayout_escape a1 a2 x) (fun r1 x1 => gx_ck 0 1 (some (0, gx_sL x1 (0 : Int32).toNatClampNeg (Int32.toInt64 r1)))) (fun j1 x1 => if j1 = 1 then (some (1, x1)) else (if j1 = 2 then (some (2, x1)) else (none)))
abbrev rm_CaseLayoutLaw_escape : Room := { frames := 8, cells := 2, slots := 12, locals := 126 }
set_option maxHeartbeats 4000000 in
set_option maxRecDepth 100000 in
theorem c_CaseLayoutLaw_escape (l : Launch) (hlt : l.stackTraces = false) (a1 : Int32) (a2 : Int32) (x : gx_S) (o : Int32 × gx_S) (hf : f_CaseLayoutLaw_escape a1 a2 x = some o) : gx_Wi true l y_Law_escape method_15_code 5 (some .int) [(0, 10, 13, 13), (0, 10, 17, 24)] rm_CaseLayoutLaw_escape (fun E => [.ref (gx_ad E 28), .int a1, .int a2, .ref (gx_ad E 48)]) x o.1 o.2 := by
  refine gx_metW (own := "CaseLayoutLaw") (by decide) rfl (fun E => Nat.le_of_ble_eq_true rfl) (fun K E hl0 hR hr hlk hH hk C => ?_)
  subst hl0
  obtain ⟨y1, y2, hsp, hy1, hy2⟩ := gx_hnd2 hH
  have sp1 : y1.startPc = 0 := congrArg (fun q => q.1) hy1
  have ep1 : y1.endPc = 10 := congrArg (fun q => q.2.1) hy1
  have hp1 : y1.handlerPc = 13 := congrArg (fun q => q.2.2.1) hy1
  have ct1 : y1.catchType = 13 := congrArg (fun q => q.2.2.2) hy1
  have sp2 : y2.startPc = 0 := congrArg (fun q => q.1) hy2
  have ep2 : y2.endPc = 10 := congrArg (fun q => q.2.1) hy2
  have hp2 : y2.handlerPc = 17 := congrArg (fun q => q.2.2.1) hy2
  have ct2 : y2.catchType = 24 := congrArg (fun q => q.2.2.2) hy2
  unfold f_CaseLayoutLaw_escape at hf
  show gx_G K E _ 0 0 x 0 [(0, .ref (gx_ad E 28)), (1, .int a1), (2, .int a2), (3, .ref (gx_ad E 48))] []
  refine gx_aload_n C 3 d_Law_escape_0 rfl rfl ?_
  refine gx_iconst C (v := 0) d_Law_escape_1 (by decide) ?_
  refine gx_aload_n C 0 d_Law_escape_2 rfl rfl ?_
  refine gx_iload_n C 1 d_Law_escape_3 rfl rfl ?_
  refine gx_iload_n C 2 d_Law_escape_4 rfl rfl ?_
  obtain ⟨j1, r1, x1, hc1, ⟨hq1, hf⟩ | ⟨hq1, hf⟩⟩ := gx_bh_some hf
  rotate_left
  · refine gx_cVx (n2 := 2) (k2 := 12) C hq1 (As := [.int a1, .int a2]) (rest := [.int 0, .ref (gx_ad E 48)]) 28 2 (c_CaseLayout_escape K.l hlt a1 a2 x _ hc1) (Or.inl rfl) rfl (gx_goodV gw_652 gw_653 gw_654 gw_1 gw_655) (by decide +kernel) (gx_w28 E _) rfl (by rw [hR]; decide) rfl rfl (Nat.le_of_ble_eq_true rfl) d_Law_escape_5 (by rw [hR]; decide) rfl rfl ?_
    by_cases hj2 : j1 = 1
    · have hf := (if_pos hj2).symm.trans hf
      subst hj2
      refine gx_catch C [] y1 [y2] hsp (fun z hz => by cases hz) (by simp only [covers]; rw [sp1, ep1]; decide) (by rw [ct1]; decide) (by rw [ct1]; exact gw_279) gn_294 hp1 (fun qe3 => ?_)
      refine gx_astore C (lv' := [(4, .ref qe3), (0, .ref (gx_ad E 28)), (1, .int a1), (2, .int a2), (3, .ref (gx_ad E 48))]) d_Law_escape_13 (by decide) rfl ?_
      refine gx_iconst C (v := 1) d_Law_escape_15 (by decide) ?_
      cases hf
      exact gx_iret C hr hlk hk d_Law_escape_16
    · have hf := (if_neg hj2).symm.trans hf
      by_cases hj4 : j1 = 2
      · have hf := (if_pos hj4).symm.trans hf
        subst hj4
        refine gx_catch C [y1] y2 [] hsp (fun z hz => by
            simp only [List.mem_cons, List.not_mem_nil, or_false] at hz
            rcases hz with rfl
            · exact ⟨by rw [ct1]; decide, "java/lang/IndexOutOfBoundsException", by rw [ct1]; exact gw_279, by decide +kernel⟩) (by simp only [covers]; rw [sp2, ep2]; decide) (by rw [ct2]; decide) (by rw [ct2]; exact gw_410) gn_417 hp2 (fun qe5 => ?_)
        refine gx_astore C (lv' := [(4, .ref qe5), (0, .ref (gx_ad E 28)), (1, .int a1), (2, .int a2), (3, .ref (gx_ad E 48))]) d_Law_escape_17 (by decide) rfl ?_
        refine gx_iconst C (v := 2) d_Law_escape_19 (by decide) ?_
        cases hf
        exact gx_iret C hr hlk hk d_Law_escape_20
      · have hf := (if_neg hj4).symm.trans hf
        cases hf
  subst hq1
  refine gx_cVi (n2 := 2) (k2 := 12) C (As := [.int a1, .int a2]) (rest := [.int 0, .ref (gx_ad E 48)]) 28 2 (c_CaseLayout_escape K.l hlt a1 a2 x _ hc1).toI (Or.inl rfl) rfl (gx_goodV gw_652 gw_653 gw_654 gw_1 gw_655) (by decide +kernel) (gx_w28 E _) rfl (by rw [hR]; decide) rfl rfl (Nat.le_of_ble_eq_true rfl) d_Law_escape_5 (by rw [hR]; decide) rfl rfl ?_
  refine gx_i2l C d_Law_escape_8 rfl ?_
  obtain ⟨hi6, hf⟩ := gx_ck_some hf
  refine gx_last C (x' := gx_sL x1 (0 : Int32).toNatClampNeg (Int32.toInt64 r1)) 48 2 (gx_w48 E _) rfl hi6 (gx_q48 E _ _ _) d_Law_escape_9 ?_
  refine gx_goto (tgt := 21) C d_Law_escape_10 (by decide) ?_
  refine gx_iconst C (v := 0) d_Law_escape_21 (by decide) ?_
  cases hf
  exact gx_iret C hr hlk hk d_Law_escape_22
