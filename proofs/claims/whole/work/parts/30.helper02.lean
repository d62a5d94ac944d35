def f_CaseLayoutLaw_count (a1 : Int32) (x : gx_S) : Option (Int32 × gx_S) :=
  gx_bh (f_CaseLayout_count a1 x) (fun r1 x1 => gx_ck 0 1 (some (0, gx_sL x1 (0 : Int32).toNatClampNeg (Int32.toInt64 r1)))) (fun j1 x1 => if j1 = 1 then (some (1, x1)) else (none))
abbrev rm_CaseLayoutLaw_count : Room := { frames := 7, cells := 1, slots := 6, locals := 103 }
set_option maxHeartbeats 4000000 in
set_option maxRecDepth 100000 in
theorem c_CaseLayoutLaw_count (l : Launch) (hlt : l.stackTraces = false) (a1 : Int32) (x : gx_S) (o : Int32 × gx_S) (hf : f_CaseLayoutLaw_count a1 x = some o) : gx_Wi true l y_Law_count method_16_code 4 (some .int) [(0, 9, 12, 13)] rm_CaseLayoutLaw_count (fun E => [.ref (gx_ad E 28), .int a1, .ref (gx_ad E 48)]) x o.1 o.2 := by
  refine gx_metW (own := "CaseLayoutLaw") (by decide) rfl (fun E => Nat.le_of_ble_eq_true rfl) (fun K E hl0 hR hr hlk hH hk C => ?_)
  subst hl0
  obtain ⟨y1, hsp, hy1⟩ := gx_hnd1 hH
  have sp1 : y1.startPc = 0 := congrArg (fun q => q.1) hy1
  have ep1 : y1.endPc = 9 := congrArg (fun q => q.2.1) hy1
  have hp1 : y1.handlerPc = 12 := congrArg (fun q => q.2.2.1) hy1
  have ct1 : y1.catchType = 13 := congrArg (fun q => q.2.2.2) hy1
  unfold f_CaseLayoutLaw_count at hf
  show gx_G K E _ 0 0 x 0 [(0, .ref (gx_ad E 28)), (1, .int a1), (2, .ref (gx_ad E 48))] []
  refine gx_aload_n C 2 d_Law_count_0 rfl rfl ?_
  refine gx_iconst C (v := 0) d_Law_count_1 (by decide) ?_
  refine gx_aload_n C 0 d_Law_count_2 rfl rfl ?_
  refine gx_iload_n C 1 d_Law_count_3 rfl rfl ?_
  obtain ⟨j1, r1, x1, hc1, ⟨hq1, hf⟩ | ⟨hq1, hf⟩⟩ := gx_bh_some hf
  rotate_left
  · refine gx_cVx (n2 := 1) (k2 := 6) C hq1 (As := [.int a1]) (rest := [.int 0, .ref (gx_ad E 48)]) 28 1 (c_CaseLayout_count K.l hlt a1 x _ hc1) (Or.inl rfl) rfl (gx_goodV gw_660 gw_661 gw_662 gw_1 gw_663) (by decide +kernel) (gx_w28 E _) rfl (by rw [hR]; decide) rfl rfl (Nat.le_of_ble_eq_true rfl) d_Law_count_4 (by rw [hR]; decide) rfl rfl ?_
    by_cases hj2 : j1 = 1
    · have hf := (if_pos hj2).symm.trans hf
      subst hj2
      refine gx_catch C [] y1 [] hsp (fun z hz => by cases hz) (by simp only [covers]; rw [sp1, ep1]; decide) (by rw [ct1]; decide) (by rw [ct1]; exact gw_279) gn_294 hp1 (fun qe3 => ?_)
      refine gx_astore_n C (lv' := [(3, .ref qe3), (0, .ref (gx_ad E 28)), (1, .int a1), (2, .ref (gx_ad E 48))]) d_Law_count_12 rfl (by decide) rfl ?_
      refine gx_iconst C (v := 1) d_Law_count_13 (by decide) ?_
      cases hf
      exact gx_iret C hr hlk hk d_Law_count_14
    · have hf := (if_neg hj2).symm.trans hf
      cases hf
  subst hq1
  refine gx_cVi (n2 := 1) (k2 := 6) C (As := [.int a1]) (rest := [.int 0, .ref (gx_ad E 48)]) 28 1 (c_CaseLayout_count K.l hlt a1 x _ hc1).toI (Or.inl rfl) rfl (gx_goodV gw_660 gw_661 gw_662 gw_1 gw_663) (by decide +kernel) (gx_w28 E _) rfl (by rw [hR]; decide) rfl rfl (Nat.le_of_ble_eq_true rfl) d_Law_count_4 (by rw [hR]; decide) rfl rfl ?_
  refine gx_i2l C d_Law_count_7 rfl ?_
  obtain ⟨hi4, hf⟩ := gx_ck_some hf
  refine gx_last C (x' := gx_sL x1 (0 : Int32).toNatClampNeg (Int32.toInt64 r1)) 48 2 (gx_w48 E _) rfl hi4 (gx_q48 E _ _ _) d_Law_count_8 ?_
  refine gx_goto (tgt := 15) C d_Law_count_9 (by decide) ?_
  refine gx_iconst C (v := 0) d_Law_count_15 (by decide) ?_
  cases hf
  exact gx_iret C hr hlk hk d_Law_count_16
