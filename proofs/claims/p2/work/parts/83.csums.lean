theorem d_Sums_giveReal_0 : decode prog_11_method_3_code 0 = .ok (.dload_n 2, 1) := by decide +kernel
theorem d_Sums_giveReal_1 : decode prog_11_method_3_code 1 = .ok (.ldc2_w 67, 3) := by decide +kernel
theorem k_4_122 : Cond.constantDouble "PageScribe$Sums" 67 (4786511204640096256 : UInt64) ∈ gw := gw_of (tb_4 (List.mem_of_getElem? (i := 122) (by decide +kernel))) (by decide +kernel)
theorem d_Sums_giveReal_4 : decode prog_11_method_3_code 4 = .ok (.dcmp .l, 1) := by decide +kernel
theorem d_Sums_giveReal_5 : decode prog_11_method_3_code 5 = .ok (.ifCond .gt 11, 3) := by decide +kernel
theorem d_Sums_giveReal_16 : decode prog_11_method_3_code 16 = .ok (.iconst 4, 1) := by decide +kernel
theorem d_Sums_giveReal_17 : decode prog_11_method_3_code 17 = .ok (.ireturn, 1) := by decide +kernel
theorem d_Sums_giveReal_8 : decode prog_11_method_3_code 8 = .ok (.dload_n 2, 1) := by decide +kernel
theorem d_Sums_giveReal_9 : decode prog_11_method_3_code 9 = .ok (.ldc2_w 69, 3) := by decide +kernel
theorem k_4_123 : Cond.constantDouble "PageScribe$Sums" 69 (14009883241494872064 : UInt64) ∈ gw := gw_of (tb_4 (List.mem_of_getElem? (i := 123) (by decide +kernel))) (by decide +kernel)
theorem d_Sums_giveReal_12 : decode prog_11_method_3_code 12 = .ok (.dcmp .g, 1) := by decide +kernel
theorem d_Sums_giveReal_13 : decode prog_11_method_3_code 13 = .ok (.ifCond .ge 5, 3) := by decide +kernel
theorem d_Sums_giveReal_18 : decode prog_11_method_3_code 18 = .ok (.aload_n 0, 1) := by decide +kernel
theorem d_Sums_giveReal_19 : decode prog_11_method_3_code 19 = .ok (.getfield 9, 3) := by decide +kernel
theorem k_2_8 : Cond.fieldLink "PageScribe$Sums" 9 "PageScribe$Sums" "stack" "LPageScribe$Stack;" ∈ gw := gw_of (tb_2 (List.mem_of_getElem? (i := 8) (by decide +kernel))) (by decide +kernel)
theorem d_Sums_giveReal_22 : decode prog_11_method_3_code 22 = .ok (.iload_n 1, 1) := by decide +kernel
theorem d_Sums_giveReal_23 : decode prog_11_method_3_code 23 = .ok (.invokevirtual 71, 3) := by decide +kernel
theorem k_4_124 : Cond.methodLink "PageScribe$Sums" 71 ⟨"PageScribe$Stack", "drop", "(I)V"⟩ ∈ gw := gw_of (tb_4 (List.mem_of_getElem? (i := 124) (by decide +kernel))) (by decide +kernel)
theorem d_Sums_giveReal_26 : decode prog_11_method_3_code 26 = .ok (.aload_n 0, 1) := by decide +kernel
theorem d_Sums_giveReal_27 : decode prog_11_method_3_code 27 = .ok (.getfield 9, 3) := by decide +kernel
theorem d_Sums_giveReal_30 : decode prog_11_method_3_code 30 = .ok (.iconst 1, 1) := by decide +kernel
theorem d_Sums_giveReal_31 : decode prog_11_method_3_code 31 = .ok (.iconst 0, 1) := by decide +kernel
theorem d_Sums_giveReal_32 : decode prog_11_method_3_code 32 = .ok (.dload_n 2, 1) := by decide +kernel
theorem d_Sums_giveReal_33 : decode prog_11_method_3_code 33 = .ok (.invokevirtual 75, 3) := by decide +kernel
theorem k_4_125 : Cond.methodLink "PageScribe$Sums" 75 ⟨"PageScribe$Stack", "push", "(IID)I"⟩ ∈ gw := gw_of (tb_4 (List.mem_of_getElem? (i := 125) (by decide +kernel))) (by decide +kernel)
theorem d_Sums_giveReal_36 : decode prog_11_method_3_code 36 = .ok (.ireturn, 1) := by decide +kernel
set_option maxHeartbeats 4000000 in
set_option maxRecDepth 100000 in
theorem c_Sums_giveReal (l : Launch) (D : va_G) (T : Nat → ClassId) (ad : Nat → Nat) (S : CS) (p0 : Int32) (d0 : UInt64) (sz : Nat)  (hI : CIv S) (h1 : dN d0) : Met l ⟨"PageScribe$Sums", "giveReal", "(ID)I"⟩ (wy ⟨"PageScribe$Sums", "giveReal", "(ID)I"⟩ prog_11_method_3_code 4 (some .int)) ({ frames := 2, cells := 0, slots := 0, locals := 140 }) (va_Pc [.ref (ad 73), .int p0, .double d0] (Pw D T (cW T ad S) sz E0)) (va_Qi (fun (r : Int32) (u : CS) => CIv u ∧ kcL S u ∧ kcP S u ∧ kcU S u ∧ kcW S u) (fun u t => Bw D T (va_A (cW T ad S) sz) (cW T ad u) t) (va_A (cW T ad S) sz)) 0 0 (va_A (cW T ad S) sz) := by
  refine j_met (y := ⟨"PageScribe$Sums", "giveReal", "(ID)I"⟩) (b := prog_11_method_3_code) (n := 4) (ret := (some .int)) (av := [.ref (ad 73), .int p0, .double d0]) (Qc := fun A => va_Qi (fun (r : Int32) (u : CS) => CIv u ∧ kcL S u ∧ kcP S u ∧ kcU S u ∧ kcW S u) (fun u t => Bw D T A (cW T ad u) t) A) (by decide +kernel) (Nat.le_of_ble_eq_true rfl) (fun p e s m args below meth c A ls F hr hlocks hnm hK hP hD hS hA hN hE hl => ?_)
  obtain ⟨hx, hb, hml, hown, hts⟩ := id F
  have hl : lv_has ls 4 [(0, .ref (ad 73)), (1, .int p0), (2, .double d0)] := hl
  obtain ⟨i_vst, i_vc0, i_vc1, i_vc2, i_vc3, i_vv0, i_vv1, i_vv2, i_vv3, i_vg, i_wct, i_wln, i_sd0, i_sd1, i_sd2, i_sd3, i_rln, i_rtx, i_rpl, i_rtk, i_cnv, i_pts, i_cik, i_und⟩ := id hI
  have rp0 := zt_rng p0
  refine lv_dload_n hx hb d_Sums_giveReal_0 rfl (lv_at hl 2 rfl) ?_
  refine lv_ldc2d (v := 4786511204640096256) hx hb hown (hts _ k_4_122) d_Sums_giveReal_1 ?_
  have := tD_4786511204640096256
  refine lv_dcmp hx hb d_Sums_giveReal_4 ?_
  refine lv_topi (fun x1 ex1 => ?_)
  refine lv_if_gt (tgt := 16) hx hb d_Sums_giveReal_5 (by decide) (fun c5_1 => ?_) (fun c5_1 => ?_)
  · have fc5_1 : 0 < x1.toInt := zt_lt tI_0 (show x1.toInt = _ from rfl) c5_1
    have vc5_1 : dk d0 > dk 4786511204640096256 := by have := zr_dcmp (a := d0) (b := 4786511204640096256) ex1 (show dN d0 by omega) (show dN 4786511204640096256 by omega); have := zt_lt tI_0 (show x1.toInt = _ from rfl) c5_1; omega
    refine lv_iconst (v := 4) hx hb d_Sums_giveReal_16 (by decide) ?_
    exact j_iret F hr hlocks hK hS S ⟨⟨i_vst, i_vc0, i_vc1, i_vc2, i_vc3, i_vv0, i_vv1, i_vv2, i_vv3, i_vg, i_wct, i_wln, i_sd0, i_sd1, i_sd2, i_sd3, i_rln, i_rtx, i_rpl, i_rtk, i_cnv, i_pts, i_cik, i_und⟩, (kcL_r S), (kcP_r S), (kcU_r S), (kcW_r S)⟩ hP hD d_Sums_giveReal_17
  · have fc5_1 : x1.toInt ≤ 0 := Int.not_lt.mp (zt_nlt tI_0 (show x1.toInt = _ from rfl) c5_1)
    have vc5_1 : dk d0 ≤ dk 4786511204640096256 := by have := zr_dcmp (a := d0) (b := 4786511204640096256) ex1 (show dN d0 by omega) (show dN 4786511204640096256 by omega); have := Int.not_lt.mp (zt_nlt tI_0 (show x1.toInt = _ from rfl) c5_1); omega
    refine lv_dload_n hx hb d_Sums_giveReal_8 rfl (lv_at hl 2 rfl) ?_
    refine lv_ldc2d (v := 14009883241494872064) hx hb hown (hts _ k_4_123) d_Sums_giveReal_9 ?_
    have := tD_14009883241494872064
    refine lv_dcmp hx hb d_Sums_giveReal_12 ?_
    refine lv_topi (fun x2 ex2 => ?_)
    refine lv_if_ge (tgt := 18) hx hb d_Sums_giveReal_13 (by decide) (fun c13_1 => ?_) (fun c13_1 => ?_)
    · have fc13_1 : 0 ≤ x2.toInt := zt_le tI_0 (show x2.toInt = _ from rfl) c13_1
      have vc13_1 : dk d0 ≥ dk 14009883241494872064 := by have := zr_dcmp (a := d0) (b := 14009883241494872064) ex2 (show dN d0 by omega) (show dN 14009883241494872064 by omega); have := zt_le tI_0 (show x2.toInt = _ from rfl) c13_1; omega
      refine lv_aload_n hx hb d_Sums_giveReal_18 rfl (lv_at hl 0 rfl) ?_
      refine va_get (D := D) (ci := 8) (v := .ref (ad 1)) (C := "PageScribe$Sums") (T := F_Sums) (N := 1) hx hb hts i_Sums hown hK hP 73 (ce_73 _ _ _) cl_8 0 (by decide) (hts _ k_2_8) (fun _ h9 => h9) rfl d_Sums_giveReal_19 ?_
      refine lv_iload_n hx hb d_Sums_giveReal_22 rfl (lv_at hl 1 rfl) ?_
      refine jc_cv (w := (fun u => u)) hK hP hD hS hA (va_runU (As := [.int p0]) (rest := []) F (c_Row_drop l D T ad S p0  s.heap.size ⟨i_vst, i_vc0, i_vc1, i_vc2, i_vc3, i_vv0, i_vv1, i_vv2, i_vv3, i_vg, i_wct, i_wln, i_sd0, i_sd1, i_sd2, i_sd3, i_rln, i_rtx, i_rpl, i_rtk, i_cnv, i_pts, i_cik, i_und⟩) (j_cU (k := 1) (C := "PageScribe$Stack") (owner := "PageScribe$Row") (x := ⟨"PageScribe$Stack", "drop", "(I)V"⟩) hts k_4_47 k_4_124 k_4_43 k_4_45 k_4_46 k_1_2 rfl (by decide +kernel) ⟨Nat.le_of_ble_eq_true rfl, Nat.le_of_ble_eq_true rfl⟩) (j_preV (q0 := 1) (ci := 0) hK hP hD csc csc_all csc_nd cl_0 (ce_1 _ _ _) (fun _ _ _ _ h => h) (fun _ _ _ => trivial)) rfl rfl hl.1 rfl (lv_room (Nat.le_of_ble_eq_true rfl)) d_Sums_giveReal_23 ⟨Nat.le_of_ble_eq_true rfl, Nat.le_of_ble_eq_true rfl⟩) (fun S1 H locs hw1 hP hD hS => ?_)
      have hP : va_P D classes (cW T ad S1) H := hP
      have hD : va_D A (cW T ad S1) := hD
      obtain ⟨⟨i_vst, i_vc0, i_vc1, i_vc2, i_vc3, i_vv0, i_vv1, i_vv2, i_vv3, i_vg, i_wct, i_wln, i_sd0, i_sd1, i_sd2, i_sd3, i_rln, i_rtx, i_rpl, i_rtk, i_cnv, i_pts, i_cik, i_und⟩, kpcL_S1, kpcP_S1, kpcU_S1, kpcW_S1⟩ := hw1
      have kScL_S1 : kcL S S1 := kcL_t (show kcL S S from (kcL_r S)) kpcL_S1
      have kScP_S1 : kcP S S1 := kcP_t (show kcP S S from (kcP_r S)) kpcP_S1
      have kScU_S1 : kcU S S1 := kcU_t (show kcU S S from (kcU_r S)) kpcU_S1
      have kScW_S1 : kcW S S1 := kcW_t (show kcW S S from (kcW_r S)) kpcW_S1
      have nxr_length_S1 : (f_xr_length S1).toInt = (f_xr_length S).toInt := congrArg Int32.toInt kpcL_S1
      have nxr_length_S1 : (f_xr_length S1).toInt = (f_xr_length S).toInt := congrArg Int32.toInt kpcP_S1.1
      have nxr_place_S1 : (f_xr_place S1).toInt = (f_xr_place S).toInt := congrArg Int32.toInt kpcP_S1.2.1
      have nxe_underWay_S1 : (f_xe_underWay S1).toInt = (f_xe_underWay S).toInt := congrArg Int32.toInt kpcU_S1
      have nxp_columns_S1 : (f_xp_columns S1).toInt = (f_xp_columns S).toInt := congrArg Int32.toInt kpcW_S1.1
      have nxp_rows_S1 : (f_xp_rows S1).toInt = (f_xp_rows S).toInt := congrArg Int32.toInt kpcW_S1.2
      refine lv_aload_n hx hb d_Sums_giveReal_26 rfl (lv_at hl 0 rfl) ?_
      refine va_get (D := D) (ci := 8) (v := .ref (ad 1)) (C := "PageScribe$Sums") (T := F_Sums) (N := 1) hx hb hts i_Sums hown hK hP 73 (ce_73 _ _ _) cl_8 0 (by decide) (hts _ k_2_8) (fun _ h9 => h9) rfl d_Sums_giveReal_27 ?_
      refine lv_iconst (v := 1) hx hb d_Sums_giveReal_30 (by decide) ?_
      refine lv_iconst (v := 0) hx hb d_Sums_giveReal_31 (by decide) ?_
      refine lv_dload_n hx hb d_Sums_giveReal_32 rfl (lv_at hl 2 rfl) ?_
      refine jc_ci (w := (fun u => u)) hK hP hD hS hA (va_runU (As := [.int 1, .int 0, .double d0]) (rest := []) F (c_Row_push l D T ad S1 (1 : Int32) (0 : Int32) d0  H.size ⟨i_vst, i_vc0, i_vc1, i_vc2, i_vc3, i_vv0, i_vv1, i_vv2, i_vv3, i_vg, i_wct, i_wln, i_sd0, i_sd1, i_sd2, i_sd3, i_rln, i_rtx, i_rpl, i_rtk, i_cnv, i_pts, i_cik, i_und⟩ (show dB d0 by have := tI_1; have := tI_0; omega)) (j_cU (k := 3) (C := "PageScribe$Stack") (owner := "PageScribe$Row") (x := ⟨"PageScribe$Stack", "push", "(IID)I"⟩) hts k_2_104 k_4_125 k_2_100 k_2_102 k_2_103 k_1_2 rfl (by decide +kernel) ⟨Nat.le_of_ble_eq_true rfl, Nat.le_of_ble_eq_true rfl⟩) (j_preV (q0 := 1) (ci := 0) hK hP hD csc csc_all csc_nd cl_0 (ce_1 _ _ _) (fun _ _ _ _ h => h) (fun _ _ _ => trivial)) rfl rfl hl.1 rfl (lv_room (Nat.le_of_ble_eq_true rfl)) d_Sums_giveReal_33 ⟨Nat.le_of_ble_eq_true rfl, Nat.le_of_ble_eq_true rfl⟩) (fun rv2 S2 H locs hw2 hP hD hS => ?_)
      have hP : va_P D classes (cW T ad S2) H := hP
      have hD : va_D A (cW T ad S2) := hD
      obtain ⟨⟨i_vst, i_vc0, i_vc1, i_vc2, i_vc3, i_vv0, i_vv1, i_vv2, i_vv3, i_vg, i_wct, i_wln, i_sd0, i_sd1, i_sd2, i_sd3, i_rln, i_rtx, i_rpl, i_rtk, i_cnv, i_pts, i_cik, i_und⟩, kpcL_S2, kpcP_S2, kpcU_S2, kpcW_S2⟩ := hw2
      have kScL_S2 : kcL S S2 := kcL_t (show kcL S S1 from kScL_S1) kpcL_S2
      have kScP_S2 : kcP S S2 := kcP_t (show kcP S S1 from kScP_S1) kpcP_S2
      have kScU_S2 : kcU S S2 := kcU_t (show kcU S S1 from kScU_S1) kpcU_S2
      have kScW_S2 : kcW S S2 := kcW_t (show kcW S S1 from kScW_S1) kpcW_S2
      have nxr_length_S2 : (f_xr_length S2).toInt = (f_xr_length S1).toInt := congrArg Int32.toInt kpcL_S2
      have nxr_length_S2 : (f_xr_length S2).toInt = (f_xr_length S1).toInt := congrArg Int32.toInt kpcP_S2.1
      have nxr_place_S2 : (f_xr_place S2).toInt = (f_xr_place S1).toInt := congrArg Int32.toInt kpcP_S2.2.1
      have nxe_underWay_S2 : (f_xe_underWay S2).toInt = (f_xe_underWay S1).toInt := congrArg Int32.toInt kpcU_S2
      have nxp_columns_S2 : (f_xp_columns S2).toInt = (f_xp_columns S1).toInt := congrArg Int32.toInt kpcW_S2.1
      have nxp_rows_S2 : (f_xp_rows S2).toInt = (f_xp_rows S1).toInt := congrArg Int32.toInt kpcW_S2.2
      have rrv2 := zt_rng rv2
      exact j_iret F hr hlocks hK hS S2 ⟨⟨i_vst, i_vc0, i_vc1, i_vc2, i_vc3, i_vv0, i_vv1, i_vv2, i_vv3, i_vg, i_wct, i_wln, i_sd0, i_sd1, i_sd2, i_sd3, i_rln, i_rtx, i_rpl, i_rtk, i_cnv, i_pts, i_cik, i_und⟩, kScL_S2, kScP_S2, kScU_S2, kScW_S2⟩ hP hD d_Sums_giveReal_36
    · have fc13_1 : x2.toInt < 0 := Int.not_le.mp (zt_nle tI_0 (show x2.toInt = _ from rfl) c13_1)
      have vc13_1 : dk d0 < dk 14009883241494872064 := by have := zr_dcmp (a := d0) (b := 14009883241494872064) ex2 (show dN d0 by omega) (show dN 14009883241494872064 by omega); have := Int.not_le.mp (zt_nle tI_0 (show x2.toInt = _ from rfl) c13_1); omega
      refine lv_iconst (v := 4) hx hb d_Sums_giveReal_16 (by decide) ?_
      exact j_iret F hr hlocks hK hS S ⟨⟨i_vst, i_vc0, i_vc1, i_vc2, i_vc3, i_vv0, i_vv1, i_vv2, i_vv3, i_vg, i_wct, i_wln, i_sd0, i_sd1, i_sd2, i_sd3, i_rln, i_rtx, i_rpl, i_rtk, i_cnv, i_pts, i_cik, i_und⟩, (kcL_r S), (kcP_r S), (kcU_r S), (kcW_r S)⟩ hP hD d_Sums_giveReal_17
theorem d_Sums_giveExact_0 : decode prog_11_method_4_code 0 = .ok (.lload_n 2, 1) := by decide +kernel
theorem d_Sums_giveExact_1 : decode prog_11_method_4_code 1 = .ok (.lload_n 2, 1) := by decide +kernel
theorem d_Sums_giveExact_2 : decode prog_11_method_4_code 2 = .ok (.l2i, 1) := by decide +kernel
theorem d_Sums_giveExact_3 : decode prog_11_method_4_code 3 = .ok (.i2l, 1) := by decide +kernel
theorem d_Sums_giveExact_4 : decode prog_11_method_4_code 4 = .ok (.lcmp, 1) := by decide +kernel
theorem d_Sums_giveExact_5 : decode prog_11_method_4_code 5 = .ok (.ifCond .ne 16, 3) := by decide +kernel
theorem d_Sums_giveExact_21 : decode prog_11_method_4_code 21 = .ok (.aload_n 0, 1) := by decide +kernel
theorem d_Sums_giveExact_22 : decode prog_11_method_4_code 22 = .ok (.iload_n 1, 1) := by decide +kernel
theorem d_Sums_giveExact_23 : decode prog_11_method_4_code 23 = .ok (.lload_n 2, 1) := by decide +kernel
theorem d_Sums_giveExact_24 : decode prog_11_method_4_code 24 = .ok (.l2d, 1) := by decide +kernel
theorem d_Sums_giveExact_25 : decode prog_11_method_4_code 25 = .ok (.invokevirtual 56, 3) := by decide +kernel
theorem k_4_121 : Cond.code ⟨"PageScribe$Sums", "giveReal", "(ID)I"⟩ prog_11_method_3_code 4 (some .int) ∈ gw := gw_of (tb_4 (List.mem_of_getElem? (i := 121) (by decide +kernel))) (by decide +kernel)
theorem k_1_10 : Cond.initialized "PageScribe$Sums" ∈ gw := gw_of (tb_1 (List.mem_of_getElem? (i := 10) (by decide +kernel))) (by decide +kernel)
theorem k_4_118 : Cond.methodLink "PageScribe$Sums" 56 ⟨"PageScribe$Sums", "giveReal", "(ID)I"⟩ ∈ gw := gw_of (tb_4 (List.mem_of_getElem? (i := 118) (by decide +kernel))) (by decide +kernel)
theorem k_4_120 : Cond.instanceMethod ⟨"PageScribe$Sums", "giveReal", "(ID)I"⟩ ∈ gw := gw_of (tb_4 (List.mem_of_getElem? (i := 120) (by decide +kernel))) (by decide +kernel)
theorem k_0_25 : Cond.selects "PageScribe$Sums" ⟨"PageScribe$Sums", "giveReal", "(ID)I"⟩ ⟨"PageScribe$Sums", "giveReal", "(ID)I"⟩ ∈ gw := gw_of (tb_0 (List.mem_of_getElem? (i := 25) (by decide +kernel))) (by decide +kernel)
theorem d_Sums_giveExact_28 : decode prog_11_method_4_code 28 = .ok (.ireturn, 1) := by decide +kernel
theorem d_Sums_giveExact_8 : decode prog_11_method_4_code 8 = .ok (.aload_n 0, 1) := by decide +kernel
theorem d_Sums_giveExact_9 : decode prog_11_method_4_code 9 = .ok (.getfield 9, 3) := by decide +kernel
theorem d_Sums_giveExact_12 : decode prog_11_method_4_code 12 = .ok (.iload_n 1, 1) := by decide +kernel
theorem d_Sums_giveExact_13 : decode prog_11_method_4_code 13 = .ok (.lload_n 2, 1) := by decide +kernel
theorem d_Sums_giveExact_14 : decode prog_11_method_4_code 14 = .ok (.l2i, 1) := by decide +kernel
theorem d_Sums_giveExact_15 : decode prog_11_method_4_code 15 = .ok (.invokevirtual 79, 3) := by decide +kernel
theorem k_4_137 : Cond.methodLink "PageScribe$Sums" 79 ⟨"PageScribe$Stack", "giveInt", "(II)I"⟩ ∈ gw := gw_of (tb_4 (List.mem_of_getElem? (i := 137) (by decide +kernel))) (by decide +kernel)
theorem d_Sums_giveExact_18 : decode prog_11_method_4_code 18 = .ok (.goto 10, 3) := by decide +kernel
set_option maxHeartbeats 4000000 in
set_option maxRecDepth 100000 in
theorem c_Sums_giveExact (l : Launch) (D : va_G) (T : Nat → ClassId) (ad : Nat → Nat) (S : CS) (p0 : Int32) (v0 : Int64) (sz : Nat)  (hI : CIv S) : Met l ⟨"PageScribe$Sums", "giveExact", "(IJ)I"⟩ (wy ⟨"PageScribe$Sums", "giveExact", "(IJ)I"⟩ prog_11_method_4_code 4 (some .int)) ({ frames := 3, cells := 0, slots := 0, locals := 210 }) (va_Pc [.ref (ad 73), .int p0, .long v0] (Pw D T (cW T ad S) sz E0)) (va_Qi (fun (r : Int32) (u : CS) => CIv u ∧ kcL S u ∧ kcP S u ∧ kcU S u ∧ kcW S u) (fun u t => Bw D T (va_A (cW T ad S) sz) (cW T ad u) t) (va_A (cW T ad S) sz)) 0 0 (va_A (cW T ad S) sz) := by
  refine j_met (y := ⟨"PageScribe$Sums", "giveExact", "(IJ)I"⟩) (b := prog_11_method_4_code) (n := 4) (ret := (some .int)) (av := [.ref (ad 73), .int p0, .long v0]) (Qc := fun A => va_Qi (fun (r : Int32) (u : CS) => CIv u ∧ kcL S u ∧ kcP S u ∧ kcU S u ∧ kcW S u) (fun u t => Bw D T A (cW T ad u) t) A) (by decide +kernel) (Nat.le_of_ble_eq_true rfl) (fun p e s m args below meth c A ls F hr hlocks hnm hK hP hD hS hA hN hE hl => ?_)
  obtain ⟨hx, hb, hml, hown, hts⟩ := id F
  have hl : lv_has ls 4 [(0, .ref (ad 73)), (1, .int p0), (2, .long v0)] := hl
  obtain ⟨i_vst, i_vc0, i_vc1, i_vc2, i_vc3, i_vv0, i_vv1, i_vv2, i_vv3, i_vg, i_wct, i_wln, i_sd0, i_sd1, i_sd2, i_sd3, i_rln, i_rtx, i_rpl, i_rtk, i_cnv, i_pts, i_cik, i_und⟩ := id hI
  have rp0 := zt_rng p0
  refine lv_lload_n hx hb d_Sums_giveExact_0 rfl (lv_at hl 2 rfl) ?_
  refine lv_lload_n hx hb d_Sums_giveExact_1 rfl (lv_at hl 2 rfl) ?_
  refine lv_l2i (v := (v0).toInt32) hx hb d_Sums_giveExact_2 rfl ?_
  refine lv_topi (fun x1 ex1 => ?_)
  have wx1 := zt_rng x1
  refine lv_i2l (v := (x1).toInt64) hx hb d_Sums_giveExact_3 rfl ?_
  refine lv_topl (fun x2 ex2 => ?_)
  have fx2 : x2.toInt = x1.toInt := by rw [ex2]; exact zu_i2l (show x1.toInt = _ from rfl)
  refine W.lcmp hx hb d_Sums_giveExact_4 ?_
  refine lv_topi (fun x3 ex3 => ?_)
  refine lv_if_ne (tgt := 21) hx hb d_Sums_giveExact_5 (by decide) (fun c5_1 => ?_) (fun c5_1 => ?_)
  · first | have fc5_1 : x3.toInt < 0 := (by have := zt_ne (show x3.toInt = _ from rfl) tI_0 c5_1; omega) | have fc5_1 : 0 < x3.toInt := (by have := zt_ne (show x3.toInt = _ from rfl) tI_0 c5_1; omega) | skip
    have vc5_1 : ¬ v0.toInt = x1.toInt := by have := zr_cmp ex3 (show v0.toInt = _ from rfl) fx2; have := zt_ne (show x3.toInt = _ from rfl) tI_0 c5_1; omega
    refine lv_aload_n hx hb d_Sums_giveExact_21 rfl (lv_at hl 0 rfl) ?_
    refine lv_iload_n hx hb d_Sums_giveExact_22 rfl (lv_at hl 1 rfl) ?_
    refine lv_lload_n hx hb d_Sums_giveExact_23 rfl (lv_at hl 2 rfl) ?_
    refine lv_l2d hx hb d_Sums_giveExact_24 ?_
    refine lv_topd (fun x4 ex4 => ?_)
    have fx4 : dB x4 := by rw [ex4]; exact zd_l2d _
    refine jc_ci (w := (fun u => u)) hK hP hD hS hA (va_runV (As := [.int p0, .double x4]) (rest := []) F (c_Sums_giveReal l D T ad S p0 x4  s.heap.size ⟨i_vst, i_vc0, i_vc1, i_vc2, i_vc3, i_vv0, i_vv1, i_vv2, i_vv3, i_vg, i_wct, i_wln, i_sd0, i_sd1, i_sd2, i_sd3, i_rln, i_rtx, i_rpl, i_rtk, i_cnv, i_pts, i_cik, i_und⟩ (show dN x4 by omega)) (j_cV (k := 2) (C := "PageScribe$Sums") hts k_4_121 k_1_10 k_4_118 k_4_120 k_0_25 (by decide +kernel) ⟨Nat.le_of_ble_eq_true rfl, Nat.le_of_ble_eq_true rfl⟩) (j_preV (q0 := 73) (ci := 8) hK hP hD csc csc_all csc_nd cl_8 (ce_73 _ _ _) (fun _ _ _ _ h => h) (fun _ _ _ => trivial)) rfl rfl hl.1 rfl (lv_room (Nat.le_of_ble_eq_true rfl)) d_Sums_giveExact_25 ⟨Nat.le_of_ble_eq_true rfl, Nat.le_of_ble_eq_true rfl⟩) (fun rv1 S1 H locs hw1 hP hD hS => ?_)
    have hP : va_P D classes (cW T ad S1) H := hP
    have hD : va_D A (cW T ad S1) := hD
    obtain ⟨⟨i_vst, i_vc0, i_vc1, i_vc2, i_vc3, i_vv0, i_vv1, i_vv2, i_vv3, i_vg, i_wct, i_wln, i_sd0, i_sd1, i_sd2, i_sd3, i_rln, i_rtx, i_rpl, i_rtk, i_cnv, i_pts, i_cik, i_und⟩, kpcL_S1, kpcP_S1, kpcU_S1, kpcW_S1⟩ := hw1
    have kScL_S1 : kcL S S1 := kcL_t (show kcL S S from (kcL_r S)) kpcL_S1
    have kScP_S1 : kcP S S1 := kcP_t (show kcP S S from (kcP_r S)) kpcP_S1
    have kScU_S1 : kcU S S1 := kcU_t (show kcU S S from (kcU_r S)) kpcU_S1
    have kScW_S1 : kcW S S1 := kcW_t (show kcW S S from (kcW_r S)) kpcW_S1
    have nxr_length_S1 : (f_xr_length S1).toInt = (f_xr_length S).toInt := congrArg Int32.toInt kpcL_S1
    have nxr_length_S1 : (f_xr_length S1).toInt = (f_xr_length S).toInt := congrArg Int32.toInt kpcP_S1.1
    have nxr_place_S1 : (f_xr_place S1).toInt = (f_xr_place S).toInt := congrArg Int32.toInt kpcP_S1.2.1
    have nxe_underWay_S1 : (f_xe_underWay S1).toInt = (f_xe_underWay S).toInt := congrArg Int32.toInt kpcU_S1
    have nxp_columns_S1 : (f_xp_columns S1).toInt = (f_xp_columns S).toInt := congrArg Int32.toInt kpcW_S1.1
    have nxp_rows_S1 : (f_xp_rows S1).toInt = (f_xp_rows S).toInt := congrArg Int32.toInt kpcW_S1.2
    have rrv1 := zt_rng rv1
    exact j_iret F hr hlocks hK hS S1 ⟨⟨i_vst, i_vc0, i_vc1, i_vc2, i_vc3, i_vv0, i_vv1, i_vv2, i_vv3, i_vg, i_wct, i_wln, i_sd0, i_sd1, i_sd2, i_sd3, i_rln, i_rtx, i_rpl, i_rtk, i_cnv, i_pts, i_cik, i_und⟩, kScL_S1, kScP_S1, kScU_S1, kScW_S1⟩ hP hD d_Sums_giveExact_28
  · have fc5_1 : x3.toInt = 0 := zt_eq (show x3.toInt = _ from rfl) tI_0 c5_1
    have vc5_1 : v0.toInt = x1.toInt := by have := zr_cmp ex3 (show v0.toInt = _ from rfl) fx2; have := zt_eq (show x3.toInt = _ from rfl) tI_0 c5_1; omega
    refine lv_aload_n hx hb d_Sums_giveExact_8 rfl (lv_at hl 0 rfl) ?_
    refine va_get (D := D) (ci := 8) (v := .ref (ad 1)) (C := "PageScribe$Sums") (T := F_Sums) (N := 1) hx hb hts i_Sums hown hK hP 73 (ce_73 _ _ _) cl_8 0 (by decide) (hts _ k_2_8) (fun _ h9 => h9) rfl d_Sums_giveExact_9 ?_
    refine lv_iload_n hx hb d_Sums_giveExact_12 rfl (lv_at hl 1 rfl) ?_
    refine lv_lload_n hx hb d_Sums_giveExact_13 rfl (lv_at hl 2 rfl) ?_
    refine lv_l2i (v := (v0).toInt32) hx hb d_Sums_giveExact_14 rfl ?_
    refine lv_topi (fun x5 ex5 => ?_)
    have wx5 := zt_rng x5
    refine jc_ci (w := (fun u => u)) hK hP hD hS hA (va_runV (As := [.int p0, .int x5]) (rest := []) F (c_Stack_giveInt l D T ad S p0 x5  s.heap.size ⟨i_vst, i_vc0, i_vc1, i_vc2, i_vc3, i_vv0, i_vv1, i_vv2, i_vv3, i_vg, i_wct, i_wln, i_sd0, i_sd1, i_sd2, i_sd3, i_rln, i_rtx, i_rpl, i_rtk, i_cnv, i_pts, i_cik, i_und⟩) (j_cV (k := 2) (C := "PageScribe$Stack") hts k_4_140 k_1_3 k_4_137 k_4_138 k_4_139 (by decide +kernel) ⟨Nat.le_of_ble_eq_true rfl, Nat.le_of_ble_eq_true rfl⟩) (j_preV (q0 := 1) (ci := 0) hK hP hD csc csc_all csc_nd cl_0 (ce_1 _ _ _) (fun _ _ _ _ h => h) (fun _ _ _ => trivial)) rfl rfl hl.1 rfl (lv_room (Nat.le_of_ble_eq_true rfl)) d_Sums_giveExact_15 ⟨Nat.le_of_ble_eq_true rfl, Nat.le_of_ble_eq_true rfl⟩) (fun rv2 S2 H locs hw2 hP hD hS => ?_)
    have hP : va_P D classes (cW T ad S2) H := hP
    have hD : va_D A (cW T ad S2) := hD
    obtain ⟨⟨i_vst, i_vc0, i_vc1, i_vc2, i_vc3, i_vv0, i_vv1, i_vv2, i_vv3, i_vg, i_wct, i_wln, i_sd0, i_sd1, i_sd2, i_sd3, i_rln, i_rtx, i_rpl, i_rtk, i_cnv, i_pts, i_cik, i_und⟩, kpcL_S2, kpcP_S2, kpcU_S2, kpcW_S2⟩ := hw2
    have kScL_S2 : kcL S S2 := kcL_t (show kcL S S from (kcL_r S)) kpcL_S2
    have kScP_S2 : kcP S S2 := kcP_t (show kcP S S from (kcP_r S)) kpcP_S2
    have kScU_S2 : kcU S S2 := kcU_t (show kcU S S from (kcU_r S)) kpcU_S2
    have kScW_S2 : kcW S S2 := kcW_t (show kcW S S from (kcW_r S)) kpcW_S2
    have nxr_length_S2 : (f_xr_length S2).toInt = (f_xr_length S).toInt := congrArg Int32.toInt kpcL_S2
    have nxr_length_S2 : (f_xr_length S2).toInt = (f_xr_length S).toInt := congrArg Int32.toInt kpcP_S2.1
    have nxr_place_S2 : (f_xr_place S2).toInt = (f_xr_place S).toInt := congrArg Int32.toInt kpcP_S2.2.1
    have nxe_underWay_S2 : (f_xe_underWay S2).toInt = (f_xe_underWay S).toInt := congrArg Int32.toInt kpcU_S2
    have nxp_columns_S2 : (f_xp_columns S2).toInt = (f_xp_columns S).toInt := congrArg Int32.toInt kpcW_S2.1
    have nxp_rows_S2 : (f_xp_rows S2).toInt = (f_xp_rows S).toInt := congrArg Int32.toInt kpcW_S2.2
    have rrv2 := zt_rng rv2
    refine lv_goto (tgt := 28) hx hb d_Sums_giveExact_18 (by decide) ?_
    exact j_iret F hr hlocks hK hS S2 ⟨⟨i_vst, i_vc0, i_vc1, i_vc2, i_vc3, i_vv0, i_vv1, i_vv2, i_vv3, i_vg, i_wct, i_wln, i_sd0, i_sd1, i_sd2, i_sd3, i_rln, i_rtx, i_rpl, i_rtk, i_cnv, i_pts, i_cik, i_und⟩, kScL_S2, kScP_S2, kScU_S2, kScW_S2⟩ hP hD d_Sums_giveExact_28
theorem d_Sums_combine_0 : decode prog_11_method_5_code 0 = .ok (.aload_n 0, 1) := by decide +kernel
theorem d_Sums_combine_1 : decode prog_11_method_5_code 1 = .ok (.getfield 9, 3) := by decide +kernel
theorem d_Sums_combine_4 : decode prog_11_method_5_code 4 = .ok (.iconst 1, 1) := by decide +kernel
theorem d_Sums_combine_5 : decode prog_11_method_5_code 5 = .ok (.invokevirtual 83, 3) := by decide +kernel
theorem k_4_145 : Cond.methodLink "PageScribe$Sums" 83 ⟨"PageScribe$Stack", "kindDown", "(I)I"⟩ ∈ gw := gw_of (tb_4 (List.mem_of_getElem? (i := 145) (by decide +kernel))) (by decide +kernel)
theorem d_Sums_combine_8 : decode prog_11_method_5_code 8 = .ok (.ifCond .ne 73, 3) := by decide +kernel
theorem d_Sums_combine_81 : decode prog_11_method_5_code 81 = .ok (.aload_n 0, 1) := by decide +kernel
theorem d_Sums_combine_82 : decode prog_11_method_5_code 82 = .ok (.getfield 9, 3) := by decide +kernel
theorem d_Sums_combine_85 : decode prog_11_method_5_code 85 = .ok (.iconst 1, 1) := by decide +kernel
theorem d_Sums_combine_86 : decode prog_11_method_5_code 86 = .ok (.invokevirtual 50, 3) := by decide +kernel
theorem k_4_113 : Cond.code ⟨"PageScribe$Stack", "doubleDown", "(I)D"⟩ prog_9_method_6_code 2 (some .double) ∈ gw := gw_of (tb_4 (List.mem_of_getElem? (i := 113) (by decide +kernel))) (by decide +kernel)
theorem k_4_110 : Cond.methodLink "PageScribe$Sums" 50 ⟨"PageScribe$Stack", "doubleDown", "(I)D"⟩ ∈ gw := gw_of (tb_4 (List.mem_of_getElem? (i := 110) (by decide +kernel))) (by decide +kernel)
theorem k_4_111 : Cond.instanceMethod ⟨"PageScribe$Stack", "doubleDown", "(I)D"⟩ ∈ gw := gw_of (tb_4 (List.mem_of_getElem? (i := 111) (by decide +kernel))) (by decide +kernel)
theorem k_4_112 : Cond.selects "PageScribe$Stack" ⟨"PageScribe$Stack", "doubleDown", "(I)D"⟩ ⟨"PageScribe$Stack", "doubleDown", "(I)D"⟩ ∈ gw := gw_of (tb_4 (List.mem_of_getElem? (i := 112) (by decide +kernel))) (by decide +kernel)
theorem d_Sums_combine_89 : decode prog_11_method_5_code 89 = .ok (.dstore_n 2, 1) := by decide +kernel
theorem d_Sums_combine_90 : decode prog_11_method_5_code 90 = .ok (.aload_n 0, 1) := by decide +kernel
theorem d_Sums_combine_91 : decode prog_11_method_5_code 91 = .ok (.getfield 9, 3) := by decide +kernel
theorem d_Sums_combine_94 : decode prog_11_method_5_code 94 = .ok (.iconst 0, 1) := by decide +kernel
theorem d_Sums_combine_95 : decode prog_11_method_5_code 95 = .ok (.invokevirtual 50, 3) := by decide +kernel
theorem d_Sums_combine_98 : decode prog_11_method_5_code 98 = .ok (.dstore 4, 2) := by decide +kernel
theorem d_Sums_combine_100 : decode prog_11_method_5_code 100 = .ok (.aload_n 0, 1) := by decide +kernel
theorem d_Sums_combine_101 : decode prog_11_method_5_code 101 = .ok (.iconst 2, 1) := by decide +kernel
theorem d_Sums_combine_134 : decode prog_11_method_5_code 134 = .ok (.invokevirtual 56, 3) := by decide +kernel
theorem d_Sums_combine_137 : decode prog_11_method_5_code 137 = .ok (.ireturn, 1) := by decide +kernel
theorem d_Sums_combine_102 : decode prog_11_method_5_code 102 = .ok (.aload_n 1, 1) := by decide +kernel
theorem d_Sums_combine_103 : decode prog_11_method_5_code 103 = .ok (.getstatic 90, 3) := by decide +kernel
theorem k_4_164 : Cond.fieldLink "PageScribe$Sums" 90 "PageScribe$Op" "ADD" "LPageScribe$Op;" ∈ gw := gw_of (tb_4 (List.mem_of_getElem? (i := 164) (by decide +kernel))) (by decide +kernel)
theorem d_Sums_combine_106 : decode prog_11_method_5_code 106 = .ok (.if_acmp .ne 10, 3) := by decide +kernel
theorem d_Sums_combine_116 : decode prog_11_method_5_code 116 = .ok (.aload_n 1, 1) := by decide +kernel
theorem d_Sums_combine_117 : decode prog_11_method_5_code 117 = .ok (.getstatic 93, 3) := by decide +kernel
theorem k_4_166 : Cond.fieldLink "PageScribe$Sums" 93 "PageScribe$Op" "SUB" "LPageScribe$Op;" ∈ gw := gw_of (tb_4 (List.mem_of_getElem? (i := 166) (by decide +kernel))) (by decide +kernel)
theorem d_Sums_combine_120 : decode prog_11_method_5_code 120 = .ok (.if_acmp .ne 10, 3) := by decide +kernel
theorem d_Sums_combine_130 : decode prog_11_method_5_code 130 = .ok (.dload_n 2, 1) := by decide +kernel
theorem d_Sums_combine_131 : decode prog_11_method_5_code 131 = .ok (.dload 4, 2) := by decide +kernel
theorem d_Sums_combine_133 : decode prog_11_method_5_code 133 = .ok (.dmul, 1) := by decide +kernel
theorem d_Sums_combine_123 : decode prog_11_method_5_code 123 = .ok (.dload_n 2, 1) := by decide +kernel
theorem d_Sums_combine_124 : decode prog_11_method_5_code 124 = .ok (.dload 4, 2) := by decide +kernel
theorem d_Sums_combine_126 : decode prog_11_method_5_code 126 = .ok (.dsub, 1) := by decide +kernel
theorem d_Sums_combine_127 : decode prog_11_method_5_code 127 = .ok (.goto 7, 3) := by decide +kernel
theorem d_Sums_combine_109 : decode prog_11_method_5_code 109 = .ok (.dload_n 2, 1) := by decide +kernel
theorem d_Sums_combine_110 : decode prog_11_method_5_code 110 = .ok (.dload 4, 2) := by decide +kernel
theorem d_Sums_combine_112 : decode prog_11_method_5_code 112 = .ok (.dadd, 1) := by decide +kernel
theorem d_Sums_combine_113 : decode prog_11_method_5_code 113 = .ok (.goto 21, 3) := by decide +kernel
theorem d_Sums_combine_11 : decode prog_11_method_5_code 11 = .ok (.aload_n 0, 1) := by decide +kernel
theorem d_Sums_combine_12 : decode prog_11_method_5_code 12 = .ok (.getfield 9, 3) := by decide +kernel
theorem d_Sums_combine_15 : decode prog_11_method_5_code 15 = .ok (.iconst 0, 1) := by decide +kernel
theorem d_Sums_combine_16 : decode prog_11_method_5_code 16 = .ok (.invokevirtual 83, 3) := by decide +kernel
theorem d_Sums_combine_19 : decode prog_11_method_5_code 19 = .ok (.ifCond .ne 62, 3) := by decide +kernel
theorem d_Sums_combine_22 : decode prog_11_method_5_code 22 = .ok (.aload_n 0, 1) := by decide +kernel
theorem d_Sums_combine_23 : decode prog_11_method_5_code 23 = .ok (.getfield 9, 3) := by decide +kernel
theorem d_Sums_combine_26 : decode prog_11_method_5_code 26 = .ok (.iconst 1, 1) := by decide +kernel
theorem d_Sums_combine_27 : decode prog_11_method_5_code 27 = .ok (.invokevirtual 87, 3) := by decide +kernel
theorem k_4_132 : Cond.methodLink "PageScribe$Sums" 87 ⟨"PageScribe$Stack", "numberDown", "(I)I"⟩ ∈ gw := gw_of (tb_4 (List.mem_of_getElem? (i := 132) (by decide +kernel))) (by decide +kernel)
theorem d_Sums_combine_30 : decode prog_11_method_5_code 30 = .ok (.i2l, 1) := by decide +kernel
theorem d_Sums_combine_31 : decode prog_11_method_5_code 31 = .ok (.lstore_n 2, 1) := by decide +kernel
theorem d_Sums_combine_32 : decode prog_11_method_5_code 32 = .ok (.aload_n 0, 1) := by decide +kernel
theorem d_Sums_combine_33 : decode prog_11_method_5_code 33 = .ok (.getfield 9, 3) := by decide +kernel
theorem d_Sums_combine_36 : decode prog_11_method_5_code 36 = .ok (.iconst 0, 1) := by decide +kernel
theorem d_Sums_combine_37 : decode prog_11_method_5_code 37 = .ok (.invokevirtual 87, 3) := by decide +kernel
theorem d_Sums_combine_40 : decode prog_11_method_5_code 40 = .ok (.i2l, 1) := by decide +kernel
theorem d_Sums_combine_41 : decode prog_11_method_5_code 41 = .ok (.lstore 4, 2) := by decide +kernel
theorem d_Sums_combine_43 : decode prog_11_method_5_code 43 = .ok (.aload_n 0, 1) := by decide +kernel
theorem d_Sums_combine_44 : decode prog_11_method_5_code 44 = .ok (.iconst 2, 1) := by decide +kernel
theorem d_Sums_combine_77 : decode prog_11_method_5_code 77 = .ok (.invokevirtual 96, 3) := by decide +kernel
theorem k_4_136 : Cond.code ⟨"PageScribe$Sums", "giveExact", "(IJ)I"⟩ prog_11_method_4_code 4 (some .int) ∈ gw := gw_of (tb_4 (List.mem_of_getElem? (i := 136) (by decide +kernel))) (by decide +kernel)
theorem k_4_133 : Cond.methodLink "PageScribe$Sums" 96 ⟨"PageScribe$Sums", "giveExact", "(IJ)I"⟩ ∈ gw := gw_of (tb_4 (List.mem_of_getElem? (i := 133) (by decide +kernel))) (by decide +kernel)
theorem k_4_135 : Cond.instanceMethod ⟨"PageScribe$Sums", "giveExact", "(IJ)I"⟩ ∈ gw := gw_of (tb_4 (List.mem_of_getElem? (i := 135) (by decide +kernel))) (by decide +kernel)
theorem k_0_27 : Cond.selects "PageScribe$Sums" ⟨"PageScribe$Sums", "giveExact", "(IJ)I"⟩ ⟨"PageScribe$Sums", "giveExact", "(IJ)I"⟩ ∈ gw := gw_of (tb_0 (List.mem_of_getElem? (i := 27) (by decide +kernel))) (by decide +kernel)
theorem d_Sums_combine_80 : decode prog_11_method_5_code 80 = .ok (.ireturn, 1) := by decide +kernel
theorem d_Sums_combine_45 : decode prog_11_method_5_code 45 = .ok (.aload_n 1, 1) := by decide +kernel
theorem d_Sums_combine_46 : decode prog_11_method_5_code 46 = .ok (.getstatic 90, 3) := by decide +kernel
theorem d_Sums_combine_49 : decode prog_11_method_5_code 49 = .ok (.if_acmp .ne 10, 3) := by decide +kernel
theorem d_Sums_combine_59 : decode prog_11_method_5_code 59 = .ok (.aload_n 1, 1) := by decide +kernel
theorem d_Sums_combine_60 : decode prog_11_method_5_code 60 = .ok (.getstatic 93, 3) := by decide +kernel
theorem d_Sums_combine_63 : decode prog_11_method_5_code 63 = .ok (.if_acmp .ne 10, 3) := by decide +kernel
theorem d_Sums_combine_73 : decode prog_11_method_5_code 73 = .ok (.lload_n 2, 1) := by decide +kernel
theorem d_Sums_combine_74 : decode prog_11_method_5_code 74 = .ok (.lload 4, 2) := by decide +kernel
theorem d_Sums_combine_76 : decode prog_11_method_5_code 76 = .ok (.lmul, 1) := by decide +kernel
theorem d_Sums_combine_66 : decode prog_11_method_5_code 66 = .ok (.lload_n 2, 1) := by decide +kernel
theorem d_Sums_combine_67 : decode prog_11_method_5_code 67 = .ok (.lload 4, 2) := by decide +kernel
theorem d_Sums_combine_69 : decode prog_11_method_5_code 69 = .ok (.lsub, 1) := by decide +kernel
theorem d_Sums_combine_70 : decode prog_11_method_5_code 70 = .ok (.goto 7, 3) := by decide +kernel
theorem d_Sums_combine_52 : decode prog_11_method_5_code 52 = .ok (.lload_n 2, 1) := by decide +kernel
theorem d_Sums_combine_53 : decode prog_11_method_5_code 53 = .ok (.lload 4, 2) := by decide +kernel
theorem d_Sums_combine_55 : decode prog_11_method_5_code 55 = .ok (.ladd, 1) := by decide +kernel
theorem d_Sums_combine_56 : decode prog_11_method_5_code 56 = .ok (.goto 21, 3) := by decide +kernel
set_option maxHeartbeats 4000000 in
set_option maxRecDepth 100000 in
theorem c_Sums_combine (l : Launch) (D : va_G) (T : Nat → ClassId) (ad : Nat → Nat) (g : GE) (Bq : Nat → Prop) (S : CS) (op : Nat) (sz : Nat) (hi_op : op < 72) (hI : CIv S) : Met l ⟨"PageScribe$Sums", "combine", "(LPageScribe$Op;)I"⟩ (wy ⟨"PageScribe$Sums", "combine", "(LPageScribe$Op;)I"⟩ prog_11_method_5_code 6 (some .int)) ({ frames := 4, cells := 0, slots := 0, locals := 280 }) (va_Pc [.ref (ad 73), .ref (g_en g op)] (Pw D T (cW T ad S) sz (EC g Bq ad))) (va_Qi (fun (r : Int32) (u : CS) => CIv u ∧ kcL S u ∧ kcP S u ∧ kcU S u ∧ kcW S u) (fun u t => Bw D T (va_A (cW T ad S) sz) (cW T ad u) t) (va_A (cW T ad S) sz)) 0 0 (va_A (cW T ad S) sz) := by
  refine j_met (y := ⟨"PageScribe$Sums", "combine", "(LPageScribe$Op;)I"⟩) (b := prog_11_method_5_code) (n := 6) (ret := (some .int)) (av := [.ref (ad 73), .ref (g_en g op)]) (Qc := fun A => va_Qi (fun (r : Int32) (u : CS) => CIv u ∧ kcL S u ∧ kcP S u ∧ kcU S u ∧ kcW S u) (fun u t => Bw D T A (cW T ad u) t) A) (by decide +kernel) (Nat.le_of_ble_eq_true rfl) (fun p e s m args below meth c A ls F hr hlocks hnm hK hP hD hS hA hN hE hl => ?_)
  obtain ⟨hx, hb, hml, hown, hts⟩ := id F
  have hl : lv_has ls 6 [(0, .ref (ad 73)), (1, .ref (g_en g op))] := hl
  obtain ⟨i_vst, i_vc0, i_vc1, i_vc2, i_vc3, i_vv0, i_vv1, i_vv2, i_vv3, i_vg, i_wct, i_wln, i_sd0, i_sd1, i_sd2, i_sd3, i_rln, i_rtx, i_rpl, i_rtk, i_cnv, i_pts, i_cik, i_und⟩ := id hI
  have hAB : ∀ q, A q → Bq q := EC.ab hE hN
  have hEV := hE.1.narrow hAB
  refine lv_aload_n hx hb d_Sums_combine_0 rfl (lv_at hl 0 rfl) ?_
  refine va_get (D := D) (ci := 8) (v := .ref (ad 1)) (C := "PageScribe$Sums") (T := F_Sums) (N := 1) hx hb hts i_Sums hown hK hP 73 (ce_73 _ _ _) cl_8 0 (by decide) (hts _ k_2_8) (fun _ h9 => h9) rfl d_Sums_combine_1 ?_
  refine lv_iconst (v := 1) hx hb d_Sums_combine_4 (by decide) ?_
  refine jc_ci (w := (fun _ => S)) hK hP hD hS hA (va_runV (As := [.int 1]) (rest := []) F (c_Stack_kindDown l D T ad S (1 : Int32)  s.heap.size) (j_cV (k := 1) (C := "PageScribe$Stack") hts k_2_120 k_1_3 k_4_145 k_2_118 k_2_119 (by decide +kernel) ⟨Nat.le_of_ble_eq_true rfl, Nat.le_of_ble_eq_true rfl⟩) (j_preV (q0 := 1) (ci := 0) hK hP hD csc csc_all csc_nd cl_0 (ce_1 _ _ _) (fun _ _ _ _ h => h) (fun _ _ _ => trivial)) rfl rfl hl.1 rfl (lv_room (Nat.le_of_ble_eq_true rfl)) d_Sums_combine_5 ⟨Nat.le_of_ble_eq_true rfl, Nat.le_of_ble_eq_true rfl⟩) (fun rv1 u1 H locs hw1 hP hD hS => ?_)
  have hP : va_P D classes (cW T ad S) H := hP
  have hD : va_D A (cW T ad S) := hD
  have rrv1 := zt_rng rv1
  refine lv_if_ne (tgt := 81) hx hb d_Sums_combine_8 (by decide) (fun c8_1 => ?_) (fun c8_1 => ?_)
  · first | have fc8_1 : rv1.toInt < 0 := (by have := zt_ne (show rv1.toInt = _ from rfl) tI_0 c8_1; omega) | have fc8_1 : 0 < rv1.toInt := (by have := zt_ne (show rv1.toInt = _ from rfl) tI_0 c8_1; omega) | skip
    refine lv_aload_n hx hb d_Sums_combine_81 rfl (lv_at hl 0 rfl) ?_
    refine va_get (D := D) (ci := 8) (v := .ref (ad 1)) (C := "PageScribe$Sums") (T := F_Sums) (N := 1) hx hb hts i_Sums hown hK hP 73 (ce_73 _ _ _) cl_8 0 (by decide) (hts _ k_2_8) (fun _ h9 => h9) rfl d_Sums_combine_82 ?_
    refine lv_iconst (v := 1) hx hb d_Sums_combine_85 (by decide) ?_
    refine jc_cd (w := (fun _ => S)) hK hP hD hS hA (va_runV (As := [.int 1]) (rest := []) F (c_Stack_doubleDown l D T ad S (1 : Int32)  H.size ⟨i_vst, i_vc0, i_vc1, i_vc2, i_vc3, i_vv0, i_vv1, i_vv2, i_vv3, i_vg, i_wct, i_wln, i_sd0, i_sd1, i_sd2, i_sd3, i_rln, i_rtx, i_rpl, i_rtk, i_cnv, i_pts, i_cik, i_und⟩) (j_cV (k := 1) (C := "PageScribe$Stack") hts k_4_113 k_1_3 k_4_110 k_4_111 k_4_112 (by decide +kernel) ⟨Nat.le_of_ble_eq_true rfl, Nat.le_of_ble_eq_true rfl⟩) (j_preV (q0 := 1) (ci := 0) hK hP hD csc csc_all csc_nd cl_0 (ce_1 _ _ _) (fun _ _ _ _ h => h) (fun _ _ _ => trivial)) rfl rfl hl.1 rfl (lv_room (Nat.le_of_ble_eq_true rfl)) d_Sums_combine_86 ⟨Nat.le_of_ble_eq_true rfl, Nat.le_of_ble_eq_true rfl⟩) (fun rv2 u2 H locs hw2 hP hD hS => ?_)
    have hP : va_P D classes (cW T ad S) H := hP
    have hD : va_D A (cW T ad S) := hD
    have qhw2 : dB rv2 := by simpa only [tI_1] using hw2
    refine lv_dstore_n (lv' := [(2, .double rv2), (0, .ref (ad 73)), (1, .ref (g_en g op))]) hx hb d_Sums_combine_89 rfl hl (by decide) rfl (fun ls hl => ?_)
    refine lv_aload_n hx hb d_Sums_combine_90 rfl (lv_at hl 1 rfl) ?_
    refine va_get (D := D) (ci := 8) (v := .ref (ad 1)) (C := "PageScribe$Sums") (T := F_Sums) (N := 1) hx hb hts i_Sums hown hK hP 73 (ce_73 _ _ _) cl_8 0 (by decide) (hts _ k_2_8) (fun _ h9 => h9) rfl d_Sums_combine_91 ?_
    refine lv_iconst (v := 0) hx hb d_Sums_combine_94 (by decide) ?_
    refine jc_cd (w := (fun _ => S)) hK hP hD hS hA (va_runV (As := [.int 0]) (rest := []) F (c_Stack_doubleDown l D T ad S (0 : Int32)  H.size ⟨i_vst, i_vc0, i_vc1, i_vc2, i_vc3, i_vv0, i_vv1, i_vv2, i_vv3, i_vg, i_wct, i_wln, i_sd0, i_sd1, i_sd2, i_sd3, i_rln, i_rtx, i_rpl, i_rtk, i_cnv, i_pts, i_cik, i_und⟩) (j_cV (k := 1) (C := "PageScribe$Stack") hts k_4_113 k_1_3 k_4_110 k_4_111 k_4_112 (by decide +kernel) ⟨Nat.le_of_ble_eq_true rfl, Nat.le_of_ble_eq_true rfl⟩) (j_preV (q0 := 1) (ci := 0) hK hP hD csc csc_all csc_nd cl_0 (ce_1 _ _ _) (fun _ _ _ _ h => h) (fun _ _ _ => trivial)) rfl rfl hl.1 rfl (lv_room (Nat.le_of_ble_eq_true rfl)) d_Sums_combine_95 ⟨Nat.le_of_ble_eq_true rfl, Nat.le_of_ble_eq_true rfl⟩) (fun rv3 u3 H locs hw3 hP hD hS => ?_)
    have hP : va_P D classes (cW T ad S) H := hP
    have hD : va_D A (cW T ad S) := hD
    have qhw3 : dB rv3 := by simpa only [tI_0] using hw3
    refine lv_dstore (lv' := [(4, .double rv3), (2, .double rv2), (0, .ref (ad 73)), (1, .ref (g_en g op))]) hx hb d_Sums_combine_98 hl (by decide) rfl (fun ls hl => ?_)
    refine lv_aload_n hx hb d_Sums_combine_100 rfl (lv_at hl 2 rfl) ?_
    refine lv_iconst (v := 2) hx hb d_Sums_combine_101 (by decide) ?_
    refine j_joinH (α := UInt64) (fun x H locs ls => (dN x) ∧ va_P D classes (cW T ad S) H ∧ va_D A (cW T ad S) ∧ va_S A s.heap H locs ∧ lv_has ls 6 [(4, .double rv3), (2, .double rv2), (0, .ref (ad 73)), (1, .ref (g_en g op))]) (fun x ls => F0 m 134 ls (.double x :: [.int 2, .ref (ad 73)])) (fun x H locs ls hI9 => ?_) (fun key1 => ?_)
    · obtain ⟨j1, rfl⟩ : ∃ z, z = x := ⟨_, rfl⟩
      obtain ⟨hj1, hP, hD, hS, hl⟩ := hI9
      have hj1 : dN j1 := hj1
      have hP : va_P D classes (cW T ad S) H := hP
      have hD : va_D A (cW T ad S) := hD
      have hl : lv_has ls 6 [(4, .double rv3), (2, .double rv2), (0, .ref (ad 73)), (1, .ref (g_en g op))] := hl
      refine jc_ci (w := (fun u => u)) hK hP hD hS hA (va_runV (As := [.int 2, .double j1]) (rest := []) F (c_Sums_giveReal l D T ad S (2 : Int32) j1  H.size ⟨i_vst, i_vc0, i_vc1, i_vc2, i_vc3, i_vv0, i_vv1, i_vv2, i_vv3, i_vg, i_wct, i_wln, i_sd0, i_sd1, i_sd2, i_sd3, i_rln, i_rtx, i_rpl, i_rtk, i_cnv, i_pts, i_cik, i_und⟩ (show dN j1 by have := tI_2; omega)) (j_cV (k := 2) (C := "PageScribe$Sums") hts k_4_121 k_1_10 k_4_118 k_4_120 k_0_25 (by decide +kernel) ⟨Nat.le_of_ble_eq_true rfl, Nat.le_of_ble_eq_true rfl⟩) (j_preV (q0 := 73) (ci := 8) hK hP hD csc csc_all csc_nd cl_8 (ce_73 _ _ _) (fun _ _ _ _ h => h) (fun _ _ _ => trivial)) rfl rfl hl.1 rfl (lv_room (Nat.le_of_ble_eq_true rfl)) d_Sums_combine_134 ⟨Nat.le_of_ble_eq_true rfl, Nat.le_of_ble_eq_true rfl⟩) (fun rv4 S1 H locs hw4 hP hD hS => ?_)
      have hP : va_P D classes (cW T ad S1) H := hP
      have hD : va_D A (cW T ad S1) := hD
      obtain ⟨⟨i_vst, i_vc0, i_vc1, i_vc2, i_vc3, i_vv0, i_vv1, i_vv2, i_vv3, i_vg, i_wct, i_wln, i_sd0, i_sd1, i_sd2, i_sd3, i_rln, i_rtx, i_rpl, i_rtk, i_cnv, i_pts, i_cik, i_und⟩, kpcL_S1, kpcP_S1, kpcU_S1, kpcW_S1⟩ := hw4
      have kScL_S1 : kcL S S1 := kcL_t (show kcL S S from (kcL_r S)) kpcL_S1
      have kScP_S1 : kcP S S1 := kcP_t (show kcP S S from (kcP_r S)) kpcP_S1
      have kScU_S1 : kcU S S1 := kcU_t (show kcU S S from (kcU_r S)) kpcU_S1
      have kScW_S1 : kcW S S1 := kcW_t (show kcW S S from (kcW_r S)) kpcW_S1
      have nxr_length_S1 : (f_xr_length S1).toInt = (f_xr_length S).toInt := congrArg Int32.toInt kpcL_S1
      have nxr_length_S1 : (f_xr_length S1).toInt = (f_xr_length S).toInt := congrArg Int32.toInt kpcP_S1.1
      have nxr_place_S1 : (f_xr_place S1).toInt = (f_xr_place S).toInt := congrArg Int32.toInt kpcP_S1.2.1
      have nxe_underWay_S1 : (f_xe_underWay S1).toInt = (f_xe_underWay S).toInt := congrArg Int32.toInt kpcU_S1
      have nxp_columns_S1 : (f_xp_columns S1).toInt = (f_xp_columns S).toInt := congrArg Int32.toInt kpcW_S1.1
      have nxp_rows_S1 : (f_xp_rows S1).toInt = (f_xp_rows S).toInt := congrArg Int32.toInt kpcW_S1.2
      have rrv4 := zt_rng rv4
      exact j_iret F hr hlocks hK hS S1 ⟨⟨i_vst, i_vc0, i_vc1, i_vc2, i_vc3, i_vv0, i_vv1, i_vv2, i_vv3, i_vg, i_wct, i_wln, i_sd0, i_sd1, i_sd2, i_sd3, i_rln, i_rtx, i_rpl, i_rtk, i_cnv, i_pts, i_cik, i_und⟩, kScL_S1, kScP_S1, kScU_S1, kScW_S1⟩ hP hD d_Sums_combine_137
    · refine lv_aload_n hx hb d_Sums_combine_102 rfl (lv_at hl 3 rfl) ?_
      refine va_gets hx hb (v := .ref (g_en g 12)) (hEV.1 12 (by decide)).1.2 hS hown (hts _ k_4_164) (fun _ h9 => h9) d_Sums_combine_103 ?_
      refine lv_acmp_ne (rx := some (g_en g op)) (ry := some (g_en g 12)) (tgt := 116) hx hb d_Sums_combine_106 (by decide) (fun c106_1 => ?_) (fun c106_1 => ?_)
      · refine lv_aload_n hx hb d_Sums_combine_116 rfl (lv_at hl 3 rfl) ?_
        refine va_gets hx hb (v := .ref (g_en g 13)) (hEV.1 13 (by decide)).1.2 hS hown (hts _ k_4_166) (fun _ h9 => h9) d_Sums_combine_117 ?_
        refine lv_acmp_ne (rx := some (g_en g op)) (ry := some (g_en g 13)) (tgt := 130) hx hb d_Sums_combine_120 (by decide) (fun c120_1 => ?_) (fun c120_1 => ?_)
        · refine lv_dload_n hx hb d_Sums_combine_130 rfl (lv_at hl 1 rfl) ?_
          refine lv_dload hx hb d_Sums_combine_131 (lv_at hl 0 rfl) ?_
          have n133 := (zd_mul (show dF rv2 by omega) (show dF rv3 by omega))
          refine lv_dmul hx hb d_Sums_combine_133 (vf_N n133) ?_
          refine lv_topd (fun x1 ex1 => ?_)
          rw [show FP.dmul rv2 rv3 = x1 from ex1.symm] at n133
          exact key1 (x1) _ _ _ ⟨(show dN x1 by omega), hP, hD, hS, lv_sub hl [0, 1, 2, 3] rfl⟩
        · refine lv_dload_n hx hb d_Sums_combine_123 rfl (lv_at hl 1 rfl) ?_
          refine lv_dload hx hb d_Sums_combine_124 (lv_at hl 0 rfl) ?_
          have n126 := (zd_sub (show dF rv2 by omega) (show dF rv3 by omega))
          try have o126 := zd_subB (show dB rv2 by omega) (show dB rv3 by omega)
          refine lv_dsub hx hb d_Sums_combine_126 (vf_N n126) ?_
          refine lv_topd (fun x2 ex2 => ?_)
          rw [show FP.dsub rv2 rv3 = x2 from ex2.symm] at n126
          try rw [show FP.dsub rv2 rv3 = x2 from ex2.symm] at o126
          refine lv_goto (tgt := 134) hx hb d_Sums_combine_127 (by decide) ?_
          exact key1 (x2) _ _ _ ⟨(show dN x2 by omega), hP, hD, hS, lv_sub hl [0, 1, 2, 3] rfl⟩
      · refine lv_dload_n hx hb d_Sums_combine_109 rfl (lv_at hl 1 rfl) ?_
        refine lv_dload hx hb d_Sums_combine_110 (lv_at hl 0 rfl) ?_
        have n112 := (zd_add (show dF rv2 by omega) (show dF rv3 by omega))
        try have o112 := zd_addB (show dB rv2 by omega) (show dB rv3 by omega)
        refine lv_dadd hx hb d_Sums_combine_112 (vf_N n112) ?_
        refine lv_topd (fun x3 ex3 => ?_)
        rw [show FP.dadd rv2 rv3 = x3 from ex3.symm] at n112
        try rw [show FP.dadd rv2 rv3 = x3 from ex3.symm] at o112
        refine lv_goto (tgt := 134) hx hb d_Sums_combine_113 (by decide) ?_
        exact key1 (x3) _ _ _ ⟨(show dN x3 by omega), hP, hD, hS, lv_sub hl [0, 1, 2, 3] rfl⟩
  · have fc8_1 : rv1.toInt = 0 := zt_eq (show rv1.toInt = _ from rfl) tI_0 c8_1
    refine lv_aload_n hx hb d_Sums_combine_11 rfl (lv_at hl 0 rfl) ?_
    refine va_get (D := D) (ci := 8) (v := .ref (ad 1)) (C := "PageScribe$Sums") (T := F_Sums) (N := 1) hx hb hts i_Sums hown hK hP 73 (ce_73 _ _ _) cl_8 0 (by decide) (hts _ k_2_8) (fun _ h9 => h9) rfl d_Sums_combine_12 ?_
    refine lv_iconst (v := 0) hx hb d_Sums_combine_15 (by decide) ?_
    refine jc_ci (w := (fun _ => S)) hK hP hD hS hA (va_runV (As := [.int 0]) (rest := []) F (c_Stack_kindDown l D T ad S (0 : Int32)  H.size) (j_cV (k := 1) (C := "PageScribe$Stack") hts k_2_120 k_1_3 k_4_145 k_2_118 k_2_119 (by decide +kernel) ⟨Nat.le_of_ble_eq_true rfl, Nat.le_of_ble_eq_true rfl⟩) (j_preV (q0 := 1) (ci := 0) hK hP hD csc csc_all csc_nd cl_0 (ce_1 _ _ _) (fun _ _ _ _ h => h) (fun _ _ _ => trivial)) rfl rfl hl.1 rfl (lv_room (Nat.le_of_ble_eq_true rfl)) d_Sums_combine_16 ⟨Nat.le_of_ble_eq_true rfl, Nat.le_of_ble_eq_true rfl⟩) (fun rv5 u4 H locs hw5 hP hD hS => ?_)
    have hP : va_P D classes (cW T ad S) H := hP
    have hD : va_D A (cW T ad S) := hD
    have rrv5 := zt_rng rv5
    refine lv_if_ne (tgt := 81) hx hb d_Sums_combine_19 (by decide) (fun c19_1 => ?_) (fun c19_1 => ?_)
    · first | have fc19_1 : rv5.toInt < 0 := (by have := zt_ne (show rv5.toInt = _ from rfl) tI_0 c19_1; omega) | have fc19_1 : 0 < rv5.toInt := (by have := zt_ne (show rv5.toInt = _ from rfl) tI_0 c19_1; omega) | skip
      refine lv_aload_n hx hb d_Sums_combine_81 rfl (lv_at hl 0 rfl) ?_
      refine va_get (D := D) (ci := 8) (v := .ref (ad 1)) (C := "PageScribe$Sums") (T := F_Sums) (N := 1) hx hb hts i_Sums hown hK hP 73 (ce_73 _ _ _) cl_8 0 (by decide) (hts _ k_2_8) (fun _ h9 => h9) rfl d_Sums_combine_82 ?_
      refine lv_iconst (v := 1) hx hb d_Sums_combine_85 (by decide) ?_
      refine jc_cd (w := (fun _ => S)) hK hP hD hS hA (va_runV (As := [.int 1]) (rest := []) F (c_Stack_doubleDown l D T ad S (1 : Int32)  H.size ⟨i_vst, i_vc0, i_vc1, i_vc2, i_vc3, i_vv0, i_vv1, i_vv2, i_vv3, i_vg, i_wct, i_wln, i_sd0, i_sd1, i_sd2, i_sd3, i_rln, i_rtx, i_rpl, i_rtk, i_cnv, i_pts, i_cik, i_und⟩) (j_cV (k := 1) (C := "PageScribe$Stack") hts k_4_113 k_1_3 k_4_110 k_4_111 k_4_112 (by decide +kernel) ⟨Nat.le_of_ble_eq_true rfl, Nat.le_of_ble_eq_true rfl⟩) (j_preV (q0 := 1) (ci := 0) hK hP hD csc csc_all csc_nd cl_0 (ce_1 _ _ _) (fun _ _ _ _ h => h) (fun _ _ _ => trivial)) rfl rfl hl.1 rfl (lv_room (Nat.le_of_ble_eq_true rfl)) d_Sums_combine_86 ⟨Nat.le_of_ble_eq_true rfl, Nat.le_of_ble_eq_true rfl⟩) (fun rv6 u5 H locs hw6 hP hD hS => ?_)
      have hP : va_P D classes (cW T ad S) H := hP
      have hD : va_D A (cW T ad S) := hD
      have qhw6 : dB rv6 := by simpa only [tI_1] using hw6
      refine lv_dstore_n (lv' := [(2, .double rv6), (0, .ref (ad 73)), (1, .ref (g_en g op))]) hx hb d_Sums_combine_89 rfl hl (by decide) rfl (fun ls hl => ?_)
      refine lv_aload_n hx hb d_Sums_combine_90 rfl (lv_at hl 1 rfl) ?_
      refine va_get (D := D) (ci := 8) (v := .ref (ad 1)) (C := "PageScribe$Sums") (T := F_Sums) (N := 1) hx hb hts i_Sums hown hK hP 73 (ce_73 _ _ _) cl_8 0 (by decide) (hts _ k_2_8) (fun _ h9 => h9) rfl d_Sums_combine_91 ?_
      refine lv_iconst (v := 0) hx hb d_Sums_combine_94 (by decide) ?_
      refine jc_cd (w := (fun _ => S)) hK hP hD hS hA (va_runV (As := [.int 0]) (rest := []) F (c_Stack_doubleDown l D T ad S (0 : Int32)  H.size ⟨i_vst, i_vc0, i_vc1, i_vc2, i_vc3, i_vv0, i_vv1, i_vv2, i_vv3, i_vg, i_wct, i_wln, i_sd0, i_sd1, i_sd2, i_sd3, i_rln, i_rtx, i_rpl, i_rtk, i_cnv, i_pts, i_cik, i_und⟩) (j_cV (k := 1) (C := "PageScribe$Stack") hts k_4_113 k_1_3 k_4_110 k_4_111 k_4_112 (by decide +kernel) ⟨Nat.le_of_ble_eq_true rfl, Nat.le_of_ble_eq_true rfl⟩) (j_preV (q0 := 1) (ci := 0) hK hP hD csc csc_all csc_nd cl_0 (ce_1 _ _ _) (fun _ _ _ _ h => h) (fun _ _ _ => trivial)) rfl rfl hl.1 rfl (lv_room (Nat.le_of_ble_eq_true rfl)) d_Sums_combine_95 ⟨Nat.le_of_ble_eq_true rfl, Nat.le_of_ble_eq_true rfl⟩) (fun rv7 u6 H locs hw7 hP hD hS => ?_)
      have hP : va_P D classes (cW T ad S) H := hP
      have hD : va_D A (cW T ad S) := hD
      have qhw7 : dB rv7 := by simpa only [tI_0] using hw7
      refine lv_dstore (lv' := [(4, .double rv7), (2, .double rv6), (0, .ref (ad 73)), (1, .ref (g_en g op))]) hx hb d_Sums_combine_98 hl (by decide) rfl (fun ls hl => ?_)
      refine lv_aload_n hx hb d_Sums_combine_100 rfl (lv_at hl 2 rfl) ?_
      refine lv_iconst (v := 2) hx hb d_Sums_combine_101 (by decide) ?_
      refine j_joinH (α := UInt64) (fun x H locs ls => (dN x) ∧ va_P D classes (cW T ad S) H ∧ va_D A (cW T ad S) ∧ va_S A s.heap H locs ∧ lv_has ls 6 [(4, .double rv7), (2, .double rv6), (0, .ref (ad 73)), (1, .ref (g_en g op))]) (fun x ls => F0 m 134 ls (.double x :: [.int 2, .ref (ad 73)])) (fun x H locs ls hI9 => ?_) (fun key2 => ?_)
      · obtain ⟨j2, rfl⟩ : ∃ z, z = x := ⟨_, rfl⟩
        obtain ⟨hj2, hP, hD, hS, hl⟩ := hI9
        have hj2 : dN j2 := hj2
        have hP : va_P D classes (cW T ad S) H := hP
        have hD : va_D A (cW T ad S) := hD
        have hl : lv_has ls 6 [(4, .double rv7), (2, .double rv6), (0, .ref (ad 73)), (1, .ref (g_en g op))] := hl
        refine jc_ci (w := (fun u => u)) hK hP hD hS hA (va_runV (As := [.int 2, .double j2]) (rest := []) F (c_Sums_giveReal l D T ad S (2 : Int32) j2  H.size ⟨i_vst, i_vc0, i_vc1, i_vc2, i_vc3, i_vv0, i_vv1, i_vv2, i_vv3, i_vg, i_wct, i_wln, i_sd0, i_sd1, i_sd2, i_sd3, i_rln, i_rtx, i_rpl, i_rtk, i_cnv, i_pts, i_cik, i_und⟩ (show dN j2 by have := tI_2; omega)) (j_cV (k := 2) (C := "PageScribe$Sums") hts k_4_121 k_1_10 k_4_118 k_4_120 k_0_25 (by decide +kernel) ⟨Nat.le_of_ble_eq_true rfl, Nat.le_of_ble_eq_true rfl⟩) (j_preV (q0 := 73) (ci := 8) hK hP hD csc csc_all csc_nd cl_8 (ce_73 _ _ _) (fun _ _ _ _ h => h) (fun _ _ _ => trivial)) rfl rfl hl.1 rfl (lv_room (Nat.le_of_ble_eq_true rfl)) d_Sums_combine_134 ⟨Nat.le_of_ble_eq_true rfl, Nat.le_of_ble_eq_true rfl⟩) (fun rv8 S2 H locs hw8 hP hD hS => ?_)
        have hP : va_P D classes (cW T ad S2) H := hP
        have hD : va_D A (cW T ad S2) := hD
        obtain ⟨⟨i_vst, i_vc0, i_vc1, i_vc2, i_vc3, i_vv0, i_vv1, i_vv2, i_vv3, i_vg, i_wct, i_wln, i_sd0, i_sd1, i_sd2, i_sd3, i_rln, i_rtx, i_rpl, i_rtk, i_cnv, i_pts, i_cik, i_und⟩, kpcL_S2, kpcP_S2, kpcU_S2, kpcW_S2⟩ := hw8
        have kScL_S2 : kcL S S2 := kcL_t (show kcL S S from (kcL_r S)) kpcL_S2
        have kScP_S2 : kcP S S2 := kcP_t (show kcP S S from (kcP_r S)) kpcP_S2
        have kScU_S2 : kcU S S2 := kcU_t (show kcU S S from (kcU_r S)) kpcU_S2
        have kScW_S2 : kcW S S2 := kcW_t (show kcW S S from (kcW_r S)) kpcW_S2
        have nxr_length_S2 : (f_xr_length S2).toInt = (f_xr_length S).toInt := congrArg Int32.toInt kpcL_S2
        have nxr_length_S2 : (f_xr_length S2).toInt = (f_xr_length S).toInt := congrArg Int32.toInt kpcP_S2.1
        have nxr_place_S2 : (f_xr_place S2).toInt = (f_xr_place S).toInt := congrArg Int32.toInt kpcP_S2.2.1
        have nxe_underWay_S2 : (f_xe_underWay S2).toInt = (f_xe_underWay S).toInt := congrArg Int32.toInt kpcU_S2
        have nxp_columns_S2 : (f_xp_columns S2).toInt = (f_xp_columns S).toInt := congrArg Int32.toInt kpcW_S2.1
        have nxp_rows_S2 : (f_xp_rows S2).toInt = (f_xp_rows S).toInt := congrArg Int32.toInt kpcW_S2.2
        have rrv8 := zt_rng rv8
        exact j_iret F hr hlocks hK hS S2 ⟨⟨i_vst, i_vc0, i_vc1, i_vc2, i_vc3, i_vv0, i_vv1, i_vv2, i_vv3, i_vg, i_wct, i_wln, i_sd0, i_sd1, i_sd2, i_sd3, i_rln, i_rtx, i_rpl, i_rtk, i_cnv, i_pts, i_cik, i_und⟩, kScL_S2, kScP_S2, kScU_S2, kScW_S2⟩ hP hD d_Sums_combine_137
      · refine lv_aload_n hx hb d_Sums_combine_102 rfl (lv_at hl 3 rfl) ?_
        refine va_gets hx hb (v := .ref (g_en g 12)) (hEV.1 12 (by decide)).1.2 hS hown (hts _ k_4_164) (fun _ h9 => h9) d_Sums_combine_103 ?_
        refine lv_acmp_ne (rx := some (g_en g op)) (ry := some (g_en g 12)) (tgt := 116) hx hb d_Sums_combine_106 (by decide) (fun c106_2 => ?_) (fun c106_2 => ?_)
        · refine lv_aload_n hx hb d_Sums_combine_116 rfl (lv_at hl 3 rfl) ?_
          refine va_gets hx hb (v := .ref (g_en g 13)) (hEV.1 13 (by decide)).1.2 hS hown (hts _ k_4_166) (fun _ h9 => h9) d_Sums_combine_117 ?_
          refine lv_acmp_ne (rx := some (g_en g op)) (ry := some (g_en g 13)) (tgt := 130) hx hb d_Sums_combine_120 (by decide) (fun c120_2 => ?_) (fun c120_2 => ?_)
          · refine lv_dload_n hx hb d_Sums_combine_130 rfl (lv_at hl 1 rfl) ?_
            refine lv_dload hx hb d_Sums_combine_131 (lv_at hl 0 rfl) ?_
            have n133 := (zd_mul (show dF rv6 by omega) (show dF rv7 by omega))
            refine lv_dmul hx hb d_Sums_combine_133 (vf_N n133) ?_
            refine lv_topd (fun x4 ex4 => ?_)
            rw [show FP.dmul rv6 rv7 = x4 from ex4.symm] at n133
            exact key2 (x4) _ _ _ ⟨(show dN x4 by omega), hP, hD, hS, lv_sub hl [0, 1, 2, 3] rfl⟩
          · refine lv_dload_n hx hb d_Sums_combine_123 rfl (lv_at hl 1 rfl) ?_
            refine lv_dload hx hb d_Sums_combine_124 (lv_at hl 0 rfl) ?_
            have n126 := (zd_sub (show dF rv6 by omega) (show dF rv7 by omega))
            try have o126 := zd_subB (show dB rv6 by omega) (show dB rv7 by omega)
            refine lv_dsub hx hb d_Sums_combine_126 (vf_N n126) ?_
            refine lv_topd (fun x5 ex5 => ?_)
            rw [show FP.dsub rv6 rv7 = x5 from ex5.symm] at n126
            try rw [show FP.dsub rv6 rv7 = x5 from ex5.symm] at o126
            refine lv_goto (tgt := 134) hx hb d_Sums_combine_127 (by decide) ?_
            exact key2 (x5) _ _ _ ⟨(show dN x5 by omega), hP, hD, hS, lv_sub hl [0, 1, 2, 3] rfl⟩
        · refine lv_dload_n hx hb d_Sums_combine_109 rfl (lv_at hl 1 rfl) ?_
          refine lv_dload hx hb d_Sums_combine_110 (lv_at hl 0 rfl) ?_
          have n112 := (zd_add (show dF rv6 by omega) (show dF rv7 by omega))
          try have o112 := zd_addB (show dB rv6 by omega) (show dB rv7 by omega)
          refine lv_dadd hx hb d_Sums_combine_112 (vf_N n112) ?_
          refine lv_topd (fun x6 ex6 => ?_)
          rw [show FP.dadd rv6 rv7 = x6 from ex6.symm] at n112
          try rw [show FP.dadd rv6 rv7 = x6 from ex6.symm] at o112
          refine lv_goto (tgt := 134) hx hb d_Sums_combine_113 (by decide) ?_
          exact key2 (x6) _ _ _ ⟨(show dN x6 by omega), hP, hD, hS, lv_sub hl [0, 1, 2, 3] rfl⟩
    · have fc19_1 : rv5.toInt = 0 := zt_eq (show rv5.toInt = _ from rfl) tI_0 c19_1
      refine lv_aload_n hx hb d_Sums_combine_22 rfl (lv_at hl 0 rfl) ?_
      refine va_get (D := D) (ci := 8) (v := .ref (ad 1)) (C := "PageScribe$Sums") (T := F_Sums) (N := 1) hx hb hts i_Sums hown hK hP 73 (ce_73 _ _ _) cl_8 0 (by decide) (hts _ k_2_8) (fun _ h9 => h9) rfl d_Sums_combine_23 ?_
      refine lv_iconst (v := 1) hx hb d_Sums_combine_26 (by decide) ?_
      refine jc_ci (w := (fun _ => S)) hK hP hD hS hA (va_runV (As := [.int 1]) (rest := []) F (c_Stack_numberDown l D T ad S (1 : Int32)  H.size) (j_cV (k := 1) (C := "PageScribe$Stack") hts k_2_130 k_1_3 k_4_132 k_2_128 k_2_129 (by decide +kernel) ⟨Nat.le_of_ble_eq_true rfl, Nat.le_of_ble_eq_true rfl⟩) (j_preV (q0 := 1) (ci := 0) hK hP hD csc csc_all csc_nd cl_0 (ce_1 _ _ _) (fun _ _ _ _ h => h) (fun _ _ _ => trivial)) rfl rfl hl.1 rfl (lv_room (Nat.le_of_ble_eq_true rfl)) d_Sums_combine_27 ⟨Nat.le_of_ble_eq_true rfl, Nat.le_of_ble_eq_true rfl⟩) (fun rv9 u7 H locs hw9 hP hD hS => ?_)
      have hP : va_P D classes (cW T ad S) H := hP
      have hD : va_D A (cW T ad S) := hD
      have rrv9 := zt_rng rv9
      refine lv_i2l (v := (rv9).toInt64) hx hb d_Sums_combine_30 rfl ?_
      refine lv_topl (fun x7 ex7 => ?_)
      have fx7 : x7.toInt = rv9.toInt := by rw [ex7]; exact zu_i2l (show rv9.toInt = _ from rfl)
      refine lv_lstore_n (lv' := [(2, .long x7), (0, .ref (ad 73)), (1, .ref (g_en g op))]) hx hb d_Sums_combine_31 rfl hl (by decide) rfl (fun ls hl => ?_)
      refine lv_aload_n hx hb d_Sums_combine_32 rfl (lv_at hl 1 rfl) ?_
      refine va_get (D := D) (ci := 8) (v := .ref (ad 1)) (C := "PageScribe$Sums") (T := F_Sums) (N := 1) hx hb hts i_Sums hown hK hP 73 (ce_73 _ _ _) cl_8 0 (by decide) (hts _ k_2_8) (fun _ h9 => h9) rfl d_Sums_combine_33 ?_
      refine lv_iconst (v := 0) hx hb d_Sums_combine_36 (by decide) ?_
      refine jc_ci (w := (fun _ => S)) hK hP hD hS hA (va_runV (As := [.int 0]) (rest := []) F (c_Stack_numberDown l D T ad S (0 : Int32)  H.size) (j_cV (k := 1) (C := "PageScribe$Stack") hts k_2_130 k_1_3 k_4_132 k_2_128 k_2_129 (by decide +kernel) ⟨Nat.le_of_ble_eq_true rfl, Nat.le_of_ble_eq_true rfl⟩) (j_preV (q0 := 1) (ci := 0) hK hP hD csc csc_all csc_nd cl_0 (ce_1 _ _ _) (fun _ _ _ _ h => h) (fun _ _ _ => trivial)) rfl rfl hl.1 rfl (lv_room (Nat.le_of_ble_eq_true rfl)) d_Sums_combine_37 ⟨Nat.le_of_ble_eq_true rfl, Nat.le_of_ble_eq_true rfl⟩) (fun rv10 u8 H locs hw10 hP hD hS => ?_)
      have hP : va_P D classes (cW T ad S) H := hP
      have hD : va_D A (cW T ad S) := hD
      have rrv10 := zt_rng rv10
      refine lv_i2l (v := (rv10).toInt64) hx hb d_Sums_combine_40 rfl ?_
      refine lv_topl (fun x8 ex8 => ?_)
      have fx8 : x8.toInt = rv10.toInt := by rw [ex8]; exact zu_i2l (show rv10.toInt = _ from rfl)
      refine lv_lstore (lv' := [(4, .long x8), (2, .long x7), (0, .ref (ad 73)), (1, .ref (g_en g op))]) hx hb d_Sums_combine_41 hl (by decide) rfl (fun ls hl => ?_)
      refine lv_aload_n hx hb d_Sums_combine_43 rfl (lv_at hl 2 rfl) ?_
      refine lv_iconst (v := 2) hx hb d_Sums_combine_44 (by decide) ?_
      refine j_joinH (α := Int64) (fun x H locs ls => (True) ∧ va_P D classes (cW T ad S) H ∧ va_D A (cW T ad S) ∧ va_S A s.heap H locs ∧ lv_has ls 6 [(4, .long x8), (2, .long x7), (0, .ref (ad 73)), (1, .ref (g_en g op))]) (fun x ls => F0 m 77 ls (.long x :: [.int 2, .ref (ad 73)])) (fun x H locs ls hI9 => ?_) (fun key3 => ?_)
      · obtain ⟨j3, rfl⟩ : ∃ z, z = x := ⟨_, rfl⟩
        obtain ⟨hj3, hP, hD, hS, hl⟩ := hI9
        have hP : va_P D classes (cW T ad S) H := hP
        have hD : va_D A (cW T ad S) := hD
        have hl : lv_has ls 6 [(4, .long x8), (2, .long x7), (0, .ref (ad 73)), (1, .ref (g_en g op))] := hl
        refine jc_ci (w := (fun u => u)) hK hP hD hS hA (va_runV (As := [.int 2, .long j3]) (rest := []) F (c_Sums_giveExact l D T ad S (2 : Int32) j3  H.size ⟨i_vst, i_vc0, i_vc1, i_vc2, i_vc3, i_vv0, i_vv1, i_vv2, i_vv3, i_vg, i_wct, i_wln, i_sd0, i_sd1, i_sd2, i_sd3, i_rln, i_rtx, i_rpl, i_rtk, i_cnv, i_pts, i_cik, i_und⟩) (j_cV (k := 2) (C := "PageScribe$Sums") hts k_4_136 k_1_10 k_4_133 k_4_135 k_0_27 (by decide +kernel) ⟨Nat.le_of_ble_eq_true rfl, Nat.le_of_ble_eq_true rfl⟩) (j_preV (q0 := 73) (ci := 8) hK hP hD csc csc_all csc_nd cl_8 (ce_73 _ _ _) (fun _ _ _ _ h => h) (fun _ _ _ => trivial)) rfl rfl hl.1 rfl (lv_room (Nat.le_of_ble_eq_true rfl)) d_Sums_combine_77 ⟨Nat.le_of_ble_eq_true rfl, Nat.le_of_ble_eq_true rfl⟩) (fun rv11 S3 H locs hw11 hP hD hS => ?_)
        have hP : va_P D classes (cW T ad S3) H := hP
        have hD : va_D A (cW T ad S3) := hD
        obtain ⟨⟨i_vst, i_vc0, i_vc1, i_vc2, i_vc3, i_vv0, i_vv1, i_vv2, i_vv3, i_vg, i_wct, i_wln, i_sd0, i_sd1, i_sd2, i_sd3, i_rln, i_rtx, i_rpl, i_rtk, i_cnv, i_pts, i_cik, i_und⟩, kpcL_S3, kpcP_S3, kpcU_S3, kpcW_S3⟩ := hw11
        have kScL_S3 : kcL S S3 := kcL_t (show kcL S S from (kcL_r S)) kpcL_S3
        have kScP_S3 : kcP S S3 := kcP_t (show kcP S S from (kcP_r S)) kpcP_S3
        have kScU_S3 : kcU S S3 := kcU_t (show kcU S S from (kcU_r S)) kpcU_S3
        have kScW_S3 : kcW S S3 := kcW_t (show kcW S S from (kcW_r S)) kpcW_S3
        have nxr_length_S3 : (f_xr_length S3).toInt = (f_xr_length S).toInt := congrArg Int32.toInt kpcL_S3
        have nxr_length_S3 : (f_xr_length S3).toInt = (f_xr_length S).toInt := congrArg Int32.toInt kpcP_S3.1
        have nxr_place_S3 : (f_xr_place S3).toInt = (f_xr_place S).toInt := congrArg Int32.toInt kpcP_S3.2.1
        have nxe_underWay_S3 : (f_xe_underWay S3).toInt = (f_xe_underWay S).toInt := congrArg Int32.toInt kpcU_S3
        have nxp_columns_S3 : (f_xp_columns S3).toInt = (f_xp_columns S).toInt := congrArg Int32.toInt kpcW_S3.1
        have nxp_rows_S3 : (f_xp_rows S3).toInt = (f_xp_rows S).toInt := congrArg Int32.toInt kpcW_S3.2
        have rrv11 := zt_rng rv11
        exact j_iret F hr hlocks hK hS S3 ⟨⟨i_vst, i_vc0, i_vc1, i_vc2, i_vc3, i_vv0, i_vv1, i_vv2, i_vv3, i_vg, i_wct, i_wln, i_sd0, i_sd1, i_sd2, i_sd3, i_rln, i_rtx, i_rpl, i_rtk, i_cnv, i_pts, i_cik, i_und⟩, kScL_S3, kScP_S3, kScU_S3, kScW_S3⟩ hP hD d_Sums_combine_80
      · refine lv_aload_n hx hb d_Sums_combine_45 rfl (lv_at hl 3 rfl) ?_
        refine va_gets hx hb (v := .ref (g_en g 12)) (hEV.1 12 (by decide)).1.2 hS hown (hts _ k_4_164) (fun _ h9 => h9) d_Sums_combine_46 ?_
        refine lv_acmp_ne (rx := some (g_en g op)) (ry := some (g_en g 12)) (tgt := 59) hx hb d_Sums_combine_49 (by decide) (fun c49_1 => ?_) (fun c49_1 => ?_)
        · refine lv_aload_n hx hb d_Sums_combine_59 rfl (lv_at hl 3 rfl) ?_
          refine va_gets hx hb (v := .ref (g_en g 13)) (hEV.1 13 (by decide)).1.2 hS hown (hts _ k_4_166) (fun _ h9 => h9) d_Sums_combine_60 ?_
          refine lv_acmp_ne (rx := some (g_en g op)) (ry := some (g_en g 13)) (tgt := 73) hx hb d_Sums_combine_63 (by decide) (fun c63_1 => ?_) (fun c63_1 => ?_)
          · refine lv_lload_n hx hb d_Sums_combine_73 rfl (lv_at hl 1 rfl) ?_
            refine lv_lload hx hb d_Sums_combine_74 (lv_at hl 0 rfl) ?_
            refine lv_lmul hx hb d_Sums_combine_76 ?_
            refine lv_topl (fun x9 ex9 => ?_)
            exact key3 (x9) _ _ _ ⟨trivial, hP, hD, hS, lv_sub hl [0, 1, 2, 3] rfl⟩
          · refine lv_lload_n hx hb d_Sums_combine_66 rfl (lv_at hl 1 rfl) ?_
            refine lv_lload hx hb d_Sums_combine_67 (lv_at hl 0 rfl) ?_
            refine lv_lsub hx hb d_Sums_combine_69 ?_
            refine lv_topl (fun x10 ex10 => ?_)
            refine lv_goto (tgt := 77) hx hb d_Sums_combine_70 (by decide) ?_
            exact key3 (x10) _ _ _ ⟨trivial, hP, hD, hS, lv_sub hl [0, 1, 2, 3] rfl⟩
        · refine lv_lload_n hx hb d_Sums_combine_52 rfl (lv_at hl 1 rfl) ?_
          refine lv_lload hx hb d_Sums_combine_53 (lv_at hl 0 rfl) ?_
          refine lv_ladd hx hb d_Sums_combine_55 ?_
          refine lv_topl (fun x11 ex11 => ?_)
          refine lv_goto (tgt := 77) hx hb d_Sums_combine_56 (by decide) ?_
          exact key3 (x11) _ _ _ ⟨trivial, hP, hD, hS, lv_sub hl [0, 1, 2, 3] rfl⟩
theorem d_Sums_divide_0 : decode prog_11_method_6_code 0 = .ok (.aload_n 0, 1) := by decide +kernel
theorem d_Sums_divide_1 : decode prog_11_method_6_code 1 = .ok (.getfield 9, 3) := by decide +kernel
theorem d_Sums_divide_4 : decode prog_11_method_6_code 4 = .ok (.iconst 0, 1) := by decide +kernel
theorem d_Sums_divide_5 : decode prog_11_method_6_code 5 = .ok (.invokevirtual 50, 3) := by decide +kernel
theorem d_Sums_divide_8 : decode prog_11_method_6_code 8 = .ok (.dstore_n 1, 1) := by decide +kernel
theorem d_Sums_divide_9 : decode prog_11_method_6_code 9 = .ok (.dload_n 1, 1) := by decide +kernel
theorem d_Sums_divide_10 : decode prog_11_method_6_code 10 = .ok (.dconst 0, 1) := by decide +kernel
theorem d_Sums_divide_11 : decode prog_11_method_6_code 11 = .ok (.dcmp .l, 1) := by decide +kernel
theorem d_Sums_divide_12 : decode prog_11_method_6_code 12 = .ok (.ifCond .ne 8, 3) := by decide +kernel
theorem d_Sums_divide_20 : decode prog_11_method_6_code 20 = .ok (.aload_n 0, 1) := by decide +kernel
theorem d_Sums_divide_21 : decode prog_11_method_6_code 21 = .ok (.iconst 2, 1) := by decide +kernel
theorem d_Sums_divide_22 : decode prog_11_method_6_code 22 = .ok (.aload_n 0, 1) := by decide +kernel
theorem d_Sums_divide_23 : decode prog_11_method_6_code 23 = .ok (.getfield 9, 3) := by decide +kernel
theorem d_Sums_divide_26 : decode prog_11_method_6_code 26 = .ok (.iconst 1, 1) := by decide +kernel
theorem d_Sums_divide_27 : decode prog_11_method_6_code 27 = .ok (.invokevirtual 50, 3) := by decide +kernel
theorem d_Sums_divide_30 : decode prog_11_method_6_code 30 = .ok (.dload_n 1, 1) := by decide +kernel
theorem d_Sums_divide_31 : decode prog_11_method_6_code 31 = .ok (.ddiv, 1) := by decide +kernel
theorem d_Sums_divide_32 : decode prog_11_method_6_code 32 = .ok (.invokevirtual 56, 3) := by decide +kernel
theorem d_Sums_divide_35 : decode prog_11_method_6_code 35 = .ok (.ireturn, 1) := by decide +kernel
theorem d_Sums_divide_15 : decode prog_11_method_6_code 15 = .ok (.bipush 6, 2) := by decide +kernel
theorem d_Sums_divide_17 : decode prog_11_method_6_code 17 = .ok (.goto 18, 3) := by decide +kernel
set_option maxHeartbeats 4000000 in
set_option maxRecDepth 100000 in
theorem c_Sums_divide (l : Launch) (D : va_G) (T : Nat → ClassId) (ad : Nat → Nat) (S : CS)  (sz : Nat)  (hI : CIv S) : Met l ⟨"PageScribe$Sums", "divide", "()I"⟩ (wy ⟨"PageScribe$Sums", "divide", "()I"⟩ prog_11_method_6_code 3 (some .int)) ({ frames := 3, cells := 0, slots := 0, locals := 210 }) (va_Pc [.ref (ad 73)] (Pw D T (cW T ad S) sz E0)) (va_Qi (fun (r : Int32) (u : CS) => CIv u ∧ kcL S u ∧ kcP S u ∧ kcU S u ∧ kcW S u) (fun u t => Bw D T (va_A (cW T ad S) sz) (cW T ad u) t) (va_A (cW T ad S) sz)) 0 0 (va_A (cW T ad S) sz) := by
  refine j_met (y := ⟨"PageScribe$Sums", "divide", "()I"⟩) (b := prog_11_method_6_code) (n := 3) (ret := (some .int)) (av := [.ref (ad 73)]) (Qc := fun A => va_Qi (fun (r : Int32) (u : CS) => CIv u ∧ kcL S u ∧ kcP S u ∧ kcU S u ∧ kcW S u) (fun u t => Bw D T A (cW T ad u) t) A) (by decide +kernel) (Nat.le_of_ble_eq_true rfl) (fun p e s m args below meth c A ls F hr hlocks hnm hK hP hD hS hA hN hE hl => ?_)
  obtain ⟨hx, hb, hml, hown, hts⟩ := id F
  have hl : lv_has ls 3 [(0, .ref (ad 73))] := hl
  obtain ⟨i_vst, i_vc0, i_vc1, i_vc2, i_vc3, i_vv0, i_vv1, i_vv2, i_vv3, i_vg, i_wct, i_wln, i_sd0, i_sd1, i_sd2, i_sd3, i_rln, i_rtx, i_rpl, i_rtk, i_cnv, i_pts, i_cik, i_und⟩ := id hI
  refine lv_aload_n hx hb d_Sums_divide_0 rfl (lv_at hl 0 rfl) ?_
  refine va_get (D := D) (ci := 8) (v := .ref (ad 1)) (C := "PageScribe$Sums") (T := F_Sums) (N := 1) hx hb hts i_Sums hown hK hP 73 (ce_73 _ _ _) cl_8 0 (by decide) (hts _ k_2_8) (fun _ h9 => h9) rfl d_Sums_divide_1 ?_
  refine lv_iconst (v := 0) hx hb d_Sums_divide_4 (by decide) ?_
  refine jc_cd (w := (fun _ => S)) hK hP hD hS hA (va_runV (As := [.int 0]) (rest := []) F (c_Stack_doubleDown l D T ad S (0 : Int32)  s.heap.size ⟨i_vst, i_vc0, i_vc1, i_vc2, i_vc3, i_vv0, i_vv1, i_vv2, i_vv3, i_vg, i_wct, i_wln, i_sd0, i_sd1, i_sd2, i_sd3, i_rln, i_rtx, i_rpl, i_rtk, i_cnv, i_pts, i_cik, i_und⟩) (j_cV (k := 1) (C := "PageScribe$Stack") hts k_4_113 k_1_3 k_4_110 k_4_111 k_4_112 (by decide +kernel) ⟨Nat.le_of_ble_eq_true rfl, Nat.le_of_ble_eq_true rfl⟩) (j_preV (q0 := 1) (ci := 0) hK hP hD csc csc_all csc_nd cl_0 (ce_1 _ _ _) (fun _ _ _ _ h => h) (fun _ _ _ => trivial)) rfl rfl hl.1 rfl (lv_room (Nat.le_of_ble_eq_true rfl)) d_Sums_divide_5 ⟨Nat.le_of_ble_eq_true rfl, Nat.le_of_ble_eq_true rfl⟩) (fun rv1 u1 H locs hw1 hP hD hS => ?_)
  have hP : va_P D classes (cW T ad S) H := hP
  have hD : va_D A (cW T ad S) := hD
  have qhw1 : dB rv1 := by simpa only [tI_0] using hw1
  refine lv_dstore_n (lv' := [(1, .double rv1), (0, .ref (ad 73))]) hx hb d_Sums_divide_8 rfl hl (by decide) rfl (fun ls hl => ?_)
  refine lv_dload_n hx hb d_Sums_divide_9 rfl (lv_at hl 0 rfl) ?_
  refine lv_dconst0 hx hb d_Sums_divide_10 ?_
  have := tD_0
  refine lv_dcmp hx hb d_Sums_divide_11 ?_
  refine lv_topi (fun x1 ex1 => ?_)
  refine lv_if_ne (tgt := 20) hx hb d_Sums_divide_12 (by decide) (fun c12_1 => ?_) (fun c12_1 => ?_)
  · first | have fc12_1 : x1.toInt < 0 := (by have := zt_ne (show x1.toInt = _ from rfl) tI_0 c12_1; omega) | have fc12_1 : 0 < x1.toInt := (by have := zt_ne (show x1.toInt = _ from rfl) tI_0 c12_1; omega) | skip
    have vc12_1 : ¬ dk rv1 = dk 0 := by have := zr_dcmp (a := rv1) (b := 0) ex1 (show dN rv1 by omega) (show dN 0 by omega); have := zt_ne (show x1.toInt = _ from rfl) tI_0 c12_1; omega
    refine lv_aload_n hx hb d_Sums_divide_20 rfl (lv_at hl 1 rfl) ?_
    refine lv_iconst (v := 2) hx hb d_Sums_divide_21 (by decide) ?_
    refine lv_aload_n hx hb d_Sums_divide_22 rfl (lv_at hl 1 rfl) ?_
    refine va_get (D := D) (ci := 8) (v := .ref (ad 1)) (C := "PageScribe$Sums") (T := F_Sums) (N := 1) hx hb hts i_Sums hown hK hP 73 (ce_73 _ _ _) cl_8 0 (by decide) (hts _ k_2_8) (fun _ h9 => h9) rfl d_Sums_divide_23 ?_
    refine lv_iconst (v := 1) hx hb d_Sums_divide_26 (by decide) ?_
    refine jc_cd (w := (fun _ => S)) hK hP hD hS hA (va_runV (As := [.int 1]) (rest := [.int 2, .ref (ad 73)]) F (c_Stack_doubleDown l D T ad S (1 : Int32)  H.size ⟨i_vst, i_vc0, i_vc1, i_vc2, i_vc3, i_vv0, i_vv1, i_vv2, i_vv3, i_vg, i_wct, i_wln, i_sd0, i_sd1, i_sd2, i_sd3, i_rln, i_rtx, i_rpl, i_rtk, i_cnv, i_pts, i_cik, i_und⟩) (j_cV (k := 1) (C := "PageScribe$Stack") hts k_4_113 k_1_3 k_4_110 k_4_111 k_4_112 (by decide +kernel) ⟨Nat.le_of_ble_eq_true rfl, Nat.le_of_ble_eq_true rfl⟩) (j_preV (q0 := 1) (ci := 0) hK hP hD csc csc_all csc_nd cl_0 (ce_1 _ _ _) (fun _ _ _ _ h => h) (fun _ _ _ => trivial)) rfl rfl hl.1 rfl (lv_room (Nat.le_of_ble_eq_true rfl)) d_Sums_divide_27 ⟨Nat.le_of_ble_eq_true rfl, Nat.le_of_ble_eq_true rfl⟩) (fun rv2 u2 H locs hw2 hP hD hS => ?_)
    have hP : va_P D classes (cW T ad S) H := hP
    have hD : va_D A (cW T ad S) := hD
    have qhw2 : dB rv2 := by simpa only [tI_1] using hw2
    refine lv_dload_n hx hb d_Sums_divide_30 rfl (lv_at hl 0 rfl) ?_
    have n31 := (zd_div (show dF rv2 by omega) (show dF rv1 by omega) (by omega))
    refine lv_ddiv hx hb d_Sums_divide_31 (vf_N n31) ?_
    refine lv_topd (fun x2 ex2 => ?_)
    rw [show FP.ddiv rv2 rv1 = x2 from ex2.symm] at n31
    refine jc_ci (w := (fun u => u)) hK hP hD hS hA (va_runV (As := [.int 2, .double x2]) (rest := []) F (c_Sums_giveReal l D T ad S (2 : Int32) x2  H.size ⟨i_vst, i_vc0, i_vc1, i_vc2, i_vc3, i_vv0, i_vv1, i_vv2, i_vv3, i_vg, i_wct, i_wln, i_sd0, i_sd1, i_sd2, i_sd3, i_rln, i_rtx, i_rpl, i_rtk, i_cnv, i_pts, i_cik, i_und⟩ (show dN x2 by have := tI_2; omega)) (j_cV (k := 2) (C := "PageScribe$Sums") hts k_4_121 k_1_10 k_4_118 k_4_120 k_0_25 (by decide +kernel) ⟨Nat.le_of_ble_eq_true rfl, Nat.le_of_ble_eq_true rfl⟩) (j_preV (q0 := 73) (ci := 8) hK hP hD csc csc_all csc_nd cl_8 (ce_73 _ _ _) (fun _ _ _ _ h => h) (fun _ _ _ => trivial)) rfl rfl hl.1 rfl (lv_room (Nat.le_of_ble_eq_true rfl)) d_Sums_divide_32 ⟨Nat.le_of_ble_eq_true rfl, Nat.le_of_ble_eq_true rfl⟩) (fun rv3 S1 H locs hw3 hP hD hS => ?_)
    have hP : va_P D classes (cW T ad S1) H := hP
    have hD : va_D A (cW T ad S1) := hD
    obtain ⟨⟨i_vst, i_vc0, i_vc1, i_vc2, i_vc3, i_vv0, i_vv1, i_vv2, i_vv3, i_vg, i_wct, i_wln, i_sd0, i_sd1, i_sd2, i_sd3, i_rln, i_rtx, i_rpl, i_rtk, i_cnv, i_pts, i_cik, i_und⟩, kpcL_S1, kpcP_S1, kpcU_S1, kpcW_S1⟩ := hw3
    have kScL_S1 : kcL S S1 := kcL_t (show kcL S S from (kcL_r S)) kpcL_S1
    have kScP_S1 : kcP S S1 := kcP_t (show kcP S S from (kcP_r S)) kpcP_S1
    have kScU_S1 : kcU S S1 := kcU_t (show kcU S S from (kcU_r S)) kpcU_S1
    have kScW_S1 : kcW S S1 := kcW_t (show kcW S S from (kcW_r S)) kpcW_S1
    have nxr_length_S1 : (f_xr_length S1).toInt = (f_xr_length S).toInt := congrArg Int32.toInt kpcL_S1
    have nxr_length_S1 : (f_xr_length S1).toInt = (f_xr_length S).toInt := congrArg Int32.toInt kpcP_S1.1
    have nxr_place_S1 : (f_xr_place S1).toInt = (f_xr_place S).toInt := congrArg Int32.toInt kpcP_S1.2.1
    have nxe_underWay_S1 : (f_xe_underWay S1).toInt = (f_xe_underWay S).toInt := congrArg Int32.toInt kpcU_S1
    have nxp_columns_S1 : (f_xp_columns S1).toInt = (f_xp_columns S).toInt := congrArg Int32.toInt kpcW_S1.1
    have nxp_rows_S1 : (f_xp_rows S1).toInt = (f_xp_rows S).toInt := congrArg Int32.toInt kpcW_S1.2
    have rrv3 := zt_rng rv3
    exact j_iret F hr hlocks hK hS S1 ⟨⟨i_vst, i_vc0, i_vc1, i_vc2, i_vc3, i_vv0, i_vv1, i_vv2, i_vv3, i_vg, i_wct, i_wln, i_sd0, i_sd1, i_sd2, i_sd3, i_rln, i_rtx, i_rpl, i_rtk, i_cnv, i_pts, i_cik, i_und⟩, kScL_S1, kScP_S1, kScU_S1, kScW_S1⟩ hP hD d_Sums_divide_35
  · have fc12_1 : x1.toInt = 0 := zt_eq (show x1.toInt = _ from rfl) tI_0 c12_1
    have vc12_1 : dk rv1 = dk 0 := by have := zr_dcmp (a := rv1) (b := 0) ex1 (show dN rv1 by omega) (show dN 0 by omega); have := zt_eq (show x1.toInt = _ from rfl) tI_0 c12_1; omega
    refine lv_bipush (v := 6) hx hb d_Sums_divide_15 (by decide) ?_
    refine lv_goto (tgt := 35) hx hb d_Sums_divide_17 (by decide) ?_
    exact j_iret F hr hlocks hK hS S ⟨⟨i_vst, i_vc0, i_vc1, i_vc2, i_vc3, i_vv0, i_vv1, i_vv2, i_vv3, i_vg, i_wct, i_wln, i_sd0, i_sd1, i_sd2, i_sd3, i_rln, i_rtx, i_rpl, i_rtk, i_cnv, i_pts, i_cik, i_und⟩, (kcL_r S), (kcP_r S), (kcU_r S), (kcW_r S)⟩ hP hD d_Sums_divide_35
theorem d_Sums_divideInts_0 : decode prog_11_method_7_code 0 = .ok (.aload_n 0, 1) := by decide +kernel
theorem d_Sums_divideInts_1 : decode prog_11_method_7_code 1 = .ok (.getfield 9, 3) := by decide +kernel
theorem d_Sums_divideInts_4 : decode prog_11_method_7_code 4 = .ok (.iconst 1, 1) := by decide +kernel
theorem d_Sums_divideInts_5 : decode prog_11_method_7_code 5 = .ok (.invokevirtual 87, 3) := by decide +kernel
theorem d_Sums_divideInts_8 : decode prog_11_method_7_code 8 = .ok (.i2l, 1) := by decide +kernel
theorem d_Sums_divideInts_9 : decode prog_11_method_7_code 9 = .ok (.lstore_n 2, 1) := by decide +kernel
theorem d_Sums_divideInts_10 : decode prog_11_method_7_code 10 = .ok (.aload_n 0, 1) := by decide +kernel
theorem d_Sums_divideInts_11 : decode prog_11_method_7_code 11 = .ok (.getfield 9, 3) := by decide +kernel
theorem d_Sums_divideInts_14 : decode prog_11_method_7_code 14 = .ok (.iconst 0, 1) := by decide +kernel
theorem d_Sums_divideInts_15 : decode prog_11_method_7_code 15 = .ok (.invokevirtual 87, 3) := by decide +kernel
theorem d_Sums_divideInts_18 : decode prog_11_method_7_code 18 = .ok (.i2l, 1) := by decide +kernel
theorem d_Sums_divideInts_19 : decode prog_11_method_7_code 19 = .ok (.lstore 4, 2) := by decide +kernel
theorem d_Sums_divideInts_21 : decode prog_11_method_7_code 21 = .ok (.lload 4, 2) := by decide +kernel
theorem d_Sums_divideInts_23 : decode prog_11_method_7_code 23 = .ok (.lconst 0, 1) := by decide +kernel
theorem d_Sums_divideInts_24 : decode prog_11_method_7_code 24 = .ok (.lcmp, 1) := by decide +kernel
theorem d_Sums_divideInts_25 : decode prog_11_method_7_code 25 = .ok (.ifCond .ne 6, 3) := by decide +kernel
theorem d_Sums_divideInts_31 : decode prog_11_method_7_code 31 = .ok (.aload_n 0, 1) := by decide +kernel
theorem d_Sums_divideInts_32 : decode prog_11_method_7_code 32 = .ok (.iconst 2, 1) := by decide +kernel
theorem d_Sums_divideInts_48 : decode prog_11_method_7_code 48 = .ok (.invokevirtual 96, 3) := by decide +kernel
theorem d_Sums_divideInts_51 : decode prog_11_method_7_code 51 = .ok (.ireturn, 1) := by decide +kernel
theorem d_Sums_divideInts_33 : decode prog_11_method_7_code 33 = .ok (.iload_n 1, 1) := by decide +kernel
theorem d_Sums_divideInts_34 : decode prog_11_method_7_code 34 = .ok (.ifCond .eq 10, 3) := by decide +kernel
theorem d_Sums_divideInts_44 : decode prog_11_method_7_code 44 = .ok (.lload_n 2, 1) := by decide +kernel
theorem d_Sums_divideInts_45 : decode prog_11_method_7_code 45 = .ok (.lload 4, 2) := by decide +kernel
theorem d_Sums_divideInts_47 : decode prog_11_method_7_code 47 = .ok (.lrem, 1) := by decide +kernel
theorem d_Sums_divideInts_37 : decode prog_11_method_7_code 37 = .ok (.lload_n 2, 1) := by decide +kernel
theorem d_Sums_divideInts_38 : decode prog_11_method_7_code 38 = .ok (.lload 4, 2) := by decide +kernel
theorem d_Sums_divideInts_40 : decode prog_11_method_7_code 40 = .ok (.ldiv, 1) := by decide +kernel
theorem d_Sums_divideInts_41 : decode prog_11_method_7_code 41 = .ok (.goto 7, 3) := by decide +kernel
theorem d_Sums_divideInts_28 : decode prog_11_method_7_code 28 = .ok (.bipush 6, 2) := by decide +kernel
theorem d_Sums_divideInts_30 : decode prog_11_method_7_code 30 = .ok (.ireturn, 1) := by decide +kernel
set_option maxHeartbeats 4000000 in
set_option maxRecDepth 100000 in
theorem c_Sums_divideInts (l : Launch) (D : va_G) (T : Nat → ClassId) (ad : Nat → Nat) (S : CS) (p0 : Int32) (sz : Nat)  (hI : CIv S) : Met l ⟨"PageScribe$Sums", "divideInts", "(Z)I"⟩ (wy ⟨"PageScribe$Sums", "divideInts", "(Z)I"⟩ prog_11_method_7_code 6 (some .int)) ({ frames := 4, cells := 0, slots := 0, locals := 280 }) (va_Pc [.ref (ad 73), .int p0] (Pw D T (cW T ad S) sz E0)) (va_Qi (fun (r : Int32) (u : CS) => CIv u ∧ kcL S u ∧ kcP S u ∧ kcU S u ∧ kcW S u) (fun u t => Bw D T (va_A (cW T ad S) sz) (cW T ad u) t) (va_A (cW T ad S) sz)) 0 0 (va_A (cW T ad S) sz) := by
  refine j_met (y := ⟨"PageScribe$Sums", "divideInts", "(Z)I"⟩) (b := prog_11_method_7_code) (n := 6) (ret := (some .int)) (av := [.ref (ad 73), .int p0]) (Qc := fun A => va_Qi (fun (r : Int32) (u : CS) => CIv u ∧ kcL S u ∧ kcP S u ∧ kcU S u ∧ kcW S u) (fun u t => Bw D T A (cW T ad u) t) A) (by decide +kernel) (Nat.le_of_ble_eq_true rfl) (fun p e s m args below meth c A ls F hr hlocks hnm hK hP hD hS hA hN hE hl => ?_)
  obtain ⟨hx, hb, hml, hown, hts⟩ := id F
  have hl : lv_has ls 6 [(0, .ref (ad 73)), (1, .int p0)] := hl
  obtain ⟨i_vst, i_vc0, i_vc1, i_vc2, i_vc3, i_vv0, i_vv1, i_vv2, i_vv3, i_vg, i_wct, i_wln, i_sd0, i_sd1, i_sd2, i_sd3, i_rln, i_rtx, i_rpl, i_rtk, i_cnv, i_pts, i_cik, i_und⟩ := id hI
  have rp0 := zt_rng p0
  refine lv_aload_n hx hb d_Sums_divideInts_0 rfl (lv_at hl 0 rfl) ?_
  refine va_get (D := D) (ci := 8) (v := .ref (ad 1)) (C := "PageScribe$Sums") (T := F_Sums) (N := 1) hx hb hts i_Sums hown hK hP 73 (ce_73 _ _ _) cl_8 0 (by decide) (hts _ k_2_8) (fun _ h9 => h9) rfl d_Sums_divideInts_1 ?_
  refine lv_iconst (v := 1) hx hb d_Sums_divideInts_4 (by decide) ?_
  refine jc_ci (w := (fun _ => S)) hK hP hD hS hA (va_runV (As := [.int 1]) (rest := []) F (c_Stack_numberDown l D T ad S (1 : Int32)  s.heap.size) (j_cV (k := 1) (C := "PageScribe$Stack") hts k_2_130 k_1_3 k_4_132 k_2_128 k_2_129 (by decide +kernel) ⟨Nat.le_of_ble_eq_true rfl, Nat.le_of_ble_eq_true rfl⟩) (j_preV (q0 := 1) (ci := 0) hK hP hD csc csc_all csc_nd cl_0 (ce_1 _ _ _) (fun _ _ _ _ h => h) (fun _ _ _ => trivial)) rfl rfl hl.1 rfl (lv_room (Nat.le_of_ble_eq_true rfl)) d_Sums_divideInts_5 ⟨Nat.le_of_ble_eq_true rfl, Nat.le_of_ble_eq_true rfl⟩) (fun rv1 u1 H locs hw1 hP hD hS => ?_)
  have hP : va_P D classes (cW T ad S) H := hP
  have hD : va_D A (cW T ad S) := hD
  have rrv1 := zt_rng rv1
  refine lv_i2l (v := (rv1).toInt64) hx hb d_Sums_divideInts_8 rfl ?_
  refine lv_topl (fun x1 ex1 => ?_)
  have fx1 : x1.toInt = rv1.toInt := by rw [ex1]; exact zu_i2l (show rv1.toInt = _ from rfl)
  refine lv_lstore_n (lv' := [(2, .long x1), (0, .ref (ad 73)), (1, .int p0)]) hx hb d_Sums_divideInts_9 rfl hl (by decide) rfl (fun ls hl => ?_)
  refine lv_aload_n hx hb d_Sums_divideInts_10 rfl (lv_at hl 1 rfl) ?_
  refine va_get (D := D) (ci := 8) (v := .ref (ad 1)) (C := "PageScribe$Sums") (T := F_Sums) (N := 1) hx hb hts i_Sums hown hK hP 73 (ce_73 _ _ _) cl_8 0 (by decide) (hts _ k_2_8) (fun _ h9 => h9) rfl d_Sums_divideInts_11 ?_
  refine lv_iconst (v := 0) hx hb d_Sums_divideInts_14 (by decide) ?_
  refine jc_ci (w := (fun _ => S)) hK hP hD hS hA (va_runV (As := [.int 0]) (rest := []) F (c_Stack_numberDown l D T ad S (0 : Int32)  H.size) (j_cV (k := 1) (C := "PageScribe$Stack") hts k_2_130 k_1_3 k_4_132 k_2_128 k_2_129 (by decide +kernel) ⟨Nat.le_of_ble_eq_true rfl, Nat.le_of_ble_eq_true rfl⟩) (j_preV (q0 := 1) (ci := 0) hK hP hD csc csc_all csc_nd cl_0 (ce_1 _ _ _) (fun _ _ _ _ h => h) (fun _ _ _ => trivial)) rfl rfl hl.1 rfl (lv_room (Nat.le_of_ble_eq_true rfl)) d_Sums_divideInts_15 ⟨Nat.le_of_ble_eq_true rfl, Nat.le_of_ble_eq_true rfl⟩) (fun rv2 u2 H locs hw2 hP hD hS => ?_)
  have hP : va_P D classes (cW T ad S) H := hP
  have hD : va_D A (cW T ad S) := hD
  have rrv2 := zt_rng rv2
  refine lv_i2l (v := (rv2).toInt64) hx hb d_Sums_divideInts_18 rfl ?_
  refine lv_topl (fun x2 ex2 => ?_)
  have fx2 : x2.toInt = rv2.toInt := by rw [ex2]; exact zu_i2l (show rv2.toInt = _ from rfl)
  refine lv_lstore (lv' := [(4, .long x2), (2, .long x1), (0, .ref (ad 73)), (1, .int p0)]) hx hb d_Sums_divideInts_19 hl (by decide) rfl (fun ls hl => ?_)
  refine lv_lload hx hb d_Sums_divideInts_21 (lv_at hl 0 rfl) ?_
  refine lv_lconst (v := 0) hx hb d_Sums_divideInts_23 (by decide) ?_
  refine W.lcmp hx hb d_Sums_divideInts_24 ?_
  refine lv_topi (fun x3 ex3 => ?_)
  refine lv_if_ne (tgt := 31) hx hb d_Sums_divideInts_25 (by decide) (fun c25_1 => ?_) (fun c25_1 => ?_)
  · first | have fc25_1 : x3.toInt < 0 := (by have := zt_ne (show x3.toInt = _ from rfl) tI_0 c25_1; omega) | have fc25_1 : 0 < x3.toInt := (by have := zt_ne (show x3.toInt = _ from rfl) tI_0 c25_1; omega) | skip
    have vc25_1 : ¬ rv2.toInt = 0 := by have := zr_cmp ex3 fx2 tJ_0; have := zt_ne (show x3.toInt = _ from rfl) tI_0 c25_1; omega
    refine lv_aload_n hx hb d_Sums_divideInts_31 rfl (lv_at hl 2 rfl) ?_
    refine lv_iconst (v := 2) hx hb d_Sums_divideInts_32 (by decide) ?_
    refine j_joinH (α := Int64) (fun x H locs ls => (True) ∧ va_P D classes (cW T ad S) H ∧ va_D A (cW T ad S) ∧ va_S A s.heap H locs ∧ lv_has ls 6 [(4, .long x2), (2, .long x1), (0, .ref (ad 73)), (1, .int p0)]) (fun x ls => F0 m 48 ls (.long x :: [.int 2, .ref (ad 73)])) (fun x H locs ls hI9 => ?_) (fun key1 => ?_)
    · obtain ⟨j1, rfl⟩ : ∃ z, z = x := ⟨_, rfl⟩
      obtain ⟨hj1, hP, hD, hS, hl⟩ := hI9
      have hP : va_P D classes (cW T ad S) H := hP
      have hD : va_D A (cW T ad S) := hD
      have hl : lv_has ls 6 [(4, .long x2), (2, .long x1), (0, .ref (ad 73)), (1, .int p0)] := hl
      refine jc_ci (w := (fun u => u)) hK hP hD hS hA (va_runV (As := [.int 2, .long j1]) (rest := []) F (c_Sums_giveExact l D T ad S (2 : Int32) j1  H.size ⟨i_vst, i_vc0, i_vc1, i_vc2, i_vc3, i_vv0, i_vv1, i_vv2, i_vv3, i_vg, i_wct, i_wln, i_sd0, i_sd1, i_sd2, i_sd3, i_rln, i_rtx, i_rpl, i_rtk, i_cnv, i_pts, i_cik, i_und⟩) (j_cV (k := 2) (C := "PageScribe$Sums") hts k_4_136 k_1_10 k_4_133 k_4_135 k_0_27 (by decide +kernel) ⟨Nat.le_of_ble_eq_true rfl, Nat.le_of_ble_eq_true rfl⟩) (j_preV (q0 := 73) (ci := 8) hK hP hD csc csc_all csc_nd cl_8 (ce_73 _ _ _) (fun _ _ _ _ h => h) (fun _ _ _ => trivial)) rfl rfl hl.1 rfl (lv_room (Nat.le_of_ble_eq_true rfl)) d_Sums_divideInts_48 ⟨Nat.le_of_ble_eq_true rfl, Nat.le_of_ble_eq_true rfl⟩) (fun rv3 S1 H locs hw3 hP hD hS => ?_)
      have hP : va_P D classes (cW T ad S1) H := hP
      have hD : va_D A (cW T ad S1) := hD
      obtain ⟨⟨i_vst, i_vc0, i_vc1, i_vc2, i_vc3, i_vv0, i_vv1, i_vv2, i_vv3, i_vg, i_wct, i_wln, i_sd0, i_sd1, i_sd2, i_sd3, i_rln, i_rtx, i_rpl, i_rtk, i_cnv, i_pts, i_cik, i_und⟩, kpcL_S1, kpcP_S1, kpcU_S1, kpcW_S1⟩ := hw3
      have kScL_S1 : kcL S S1 := kcL_t (show kcL S S from (kcL_r S)) kpcL_S1
      have kScP_S1 : kcP S S1 := kcP_t (show kcP S S from (kcP_r S)) kpcP_S1
      have kScU_S1 : kcU S S1 := kcU_t (show kcU S S from (kcU_r S)) kpcU_S1
      have kScW_S1 : kcW S S1 := kcW_t (show kcW S S from (kcW_r S)) kpcW_S1
      have nxr_length_S1 : (f_xr_length S1).toInt = (f_xr_length S).toInt := congrArg Int32.toInt kpcL_S1
      have nxr_length_S1 : (f_xr_length S1).toInt = (f_xr_length S).toInt := congrArg Int32.toInt kpcP_S1.1
      have nxr_place_S1 : (f_xr_place S1).toInt = (f_xr_place S).toInt := congrArg Int32.toInt kpcP_S1.2.1
      have nxe_underWay_S1 : (f_xe_underWay S1).toInt = (f_xe_underWay S).toInt := congrArg Int32.toInt kpcU_S1
      have nxp_columns_S1 : (f_xp_columns S1).toInt = (f_xp_columns S).toInt := congrArg Int32.toInt kpcW_S1.1
      have nxp_rows_S1 : (f_xp_rows S1).toInt = (f_xp_rows S).toInt := congrArg Int32.toInt kpcW_S1.2
      have rrv3 := zt_rng rv3
      exact j_iret F hr hlocks hK hS S1 ⟨⟨i_vst, i_vc0, i_vc1, i_vc2, i_vc3, i_vv0, i_vv1, i_vv2, i_vv3, i_vg, i_wct, i_wln, i_sd0, i_sd1, i_sd2, i_sd3, i_rln, i_rtx, i_rpl, i_rtk, i_cnv, i_pts, i_cik, i_und⟩, kScL_S1, kScP_S1, kScU_S1, kScW_S1⟩ hP hD d_Sums_divideInts_51
    · refine lv_iload_n hx hb d_Sums_divideInts_33 rfl (lv_at hl 3 rfl) ?_
      refine lv_if_eq (tgt := 44) hx hb d_Sums_divideInts_34 (by decide) (fun c34_1 => ?_) (fun c34_1 => ?_)
      · have fc34_1 : p0.toInt = 0 := zt_eq (show p0.toInt = _ from rfl) tI_0 c34_1
        refine lv_lload_n hx hb d_Sums_divideInts_44 rfl (lv_at hl 1 rfl) ?_
        refine lv_lload hx hb d_Sums_divideInts_45 (lv_at hl 0 rfl) ?_
        refine lv_lrem hx hb d_Sums_divideInts_47 (zu_n0 fx2 (by omega)) ?_
        refine lv_topl (fun x4 ex4 => ?_)
        try have fx4 := zu_rem fx1 fx2 (show 1 ≤ rv2.toInt by omega)
        try rw [← ex4] at fx4
        exact key1 (x4) _ _ _ ⟨trivial, hP, hD, hS, lv_sub hl [0, 1, 2, 3] rfl⟩
      · first | have fc34_1 : p0.toInt < 0 := (by have := zt_ne (show p0.toInt = _ from rfl) tI_0 c34_1; omega) | have fc34_1 : 0 < p0.toInt := (by have := zt_ne (show p0.toInt = _ from rfl) tI_0 c34_1; omega) | skip
        refine lv_lload_n hx hb d_Sums_divideInts_37 rfl (lv_at hl 1 rfl) ?_
        refine lv_lload hx hb d_Sums_divideInts_38 (lv_at hl 0 rfl) ?_
        refine lv_ldiv hx hb d_Sums_divideInts_40 (zu_n0 fx2 (by omega)) ?_
        refine lv_topl (fun x5 ex5 => ?_)
        refine lv_goto (tgt := 48) hx hb d_Sums_divideInts_41 (by decide) ?_
        exact key1 (x5) _ _ _ ⟨trivial, hP, hD, hS, lv_sub hl [0, 1, 2, 3] rfl⟩
  · have fc25_1 : x3.toInt = 0 := zt_eq (show x3.toInt = _ from rfl) tI_0 c25_1
    have vc25_1 : rv2.toInt = 0 := by have := zr_cmp ex3 fx2 tJ_0; have := zt_eq (show x3.toInt = _ from rfl) tI_0 c25_1; omega
    refine lv_bipush (v := 6) hx hb d_Sums_divideInts_28 (by decide) ?_
    exact j_iret F hr hlocks hK hS S ⟨⟨i_vst, i_vc0, i_vc1, i_vc2, i_vc3, i_vv0, i_vv1, i_vv2, i_vv3, i_vg, i_wct, i_wln, i_sd0, i_sd1, i_sd2, i_sd3, i_rln, i_rtx, i_rpl, i_rtk, i_cnv, i_pts, i_cik, i_und⟩, (kcL_r S), (kcP_r S), (kcU_r S), (kcW_r S)⟩ hP hD d_Sums_divideInts_30
theorem d_Sums_negate_0 : decode prog_11_method_8_code 0 = .ok (.aload_n 0, 1) := by decide +kernel
theorem d_Sums_negate_1 : decode prog_11_method_8_code 1 = .ok (.getfield 9, 3) := by decide +kernel
theorem d_Sums_negate_4 : decode prog_11_method_8_code 4 = .ok (.iconst 0, 1) := by decide +kernel
theorem d_Sums_negate_5 : decode prog_11_method_8_code 5 = .ok (.invokevirtual 83, 3) := by decide +kernel
theorem d_Sums_negate_8 : decode prog_11_method_8_code 8 = .ok (.ifCond .ne 20, 3) := by decide +kernel
theorem d_Sums_negate_28 : decode prog_11_method_8_code 28 = .ok (.aload_n 0, 1) := by decide +kernel
theorem d_Sums_negate_29 : decode prog_11_method_8_code 29 = .ok (.iconst 1, 1) := by decide +kernel
theorem d_Sums_negate_30 : decode prog_11_method_8_code 30 = .ok (.dconst 0, 1) := by decide +kernel
theorem d_Sums_negate_31 : decode prog_11_method_8_code 31 = .ok (.aload_n 0, 1) := by decide +kernel
theorem d_Sums_negate_32 : decode prog_11_method_8_code 32 = .ok (.getfield 9, 3) := by decide +kernel
theorem d_Sums_negate_35 : decode prog_11_method_8_code 35 = .ok (.iconst 0, 1) := by decide +kernel
theorem d_Sums_negate_36 : decode prog_11_method_8_code 36 = .ok (.invokevirtual 100, 3) := by decide +kernel
theorem k_4_146 : Cond.methodLink "PageScribe$Sums" 100 ⟨"PageScribe$Stack", "realDown", "(I)D"⟩ ∈ gw := gw_of (tb_4 (List.mem_of_getElem? (i := 146) (by decide +kernel))) (by decide +kernel)
theorem d_Sums_negate_39 : decode prog_11_method_8_code 39 = .ok (.dsub, 1) := by decide +kernel
theorem d_Sums_negate_40 : decode prog_11_method_8_code 40 = .ok (.invokevirtual 56, 3) := by decide +kernel
theorem d_Sums_negate_43 : decode prog_11_method_8_code 43 = .ok (.ireturn, 1) := by decide +kernel
theorem d_Sums_negate_11 : decode prog_11_method_8_code 11 = .ok (.aload_n 0, 1) := by decide +kernel
theorem d_Sums_negate_12 : decode prog_11_method_8_code 12 = .ok (.iconst 1, 1) := by decide +kernel
theorem d_Sums_negate_13 : decode prog_11_method_8_code 13 = .ok (.lconst 0, 1) := by decide +kernel
theorem d_Sums_negate_14 : decode prog_11_method_8_code 14 = .ok (.aload_n 0, 1) := by decide +kernel
theorem d_Sums_negate_15 : decode prog_11_method_8_code 15 = .ok (.getfield 9, 3) := by decide +kernel
theorem d_Sums_negate_18 : decode prog_11_method_8_code 18 = .ok (.iconst 0, 1) := by decide +kernel
theorem d_Sums_negate_19 : decode prog_11_method_8_code 19 = .ok (.invokevirtual 87, 3) := by decide +kernel
theorem d_Sums_negate_22 : decode prog_11_method_8_code 22 = .ok (.i2l, 1) := by decide +kernel
theorem d_Sums_negate_23 : decode prog_11_method_8_code 23 = .ok (.lsub, 1) := by decide +kernel
theorem d_Sums_negate_24 : decode prog_11_method_8_code 24 = .ok (.invokevirtual 96, 3) := by decide +kernel
theorem d_Sums_negate_27 : decode prog_11_method_8_code 27 = .ok (.ireturn, 1) := by decide +kernel
set_option maxHeartbeats 4000000 in
set_option maxRecDepth 100000 in
theorem c_Sums_negate (l : Launch) (D : va_G) (T : Nat → ClassId) (ad : Nat → Nat) (S : CS)  (sz : Nat)  (hI : CIv S) : Met l ⟨"PageScribe$Sums", "negate", "()I"⟩ (wy ⟨"PageScribe$Sums", "negate", "()I"⟩ prog_11_method_8_code 1 (some .int)) ({ frames := 4, cells := 0, slots := 0, locals := 280 }) (va_Pc [.ref (ad 73)] (Pw D T (cW T ad S) sz E0)) (va_Qi (fun (r : Int32) (u : CS) => CIv u ∧ kcL S u ∧ kcP S u ∧ kcU S u ∧ kcW S u) (fun u t => Bw D T (va_A (cW T ad S) sz) (cW T ad u) t) (va_A (cW T ad S) sz)) 0 0 (va_A (cW T ad S) sz) := by
  refine j_met (y := ⟨"PageScribe$Sums", "negate", "()I"⟩) (b := prog_11_method_8_code) (n := 1) (ret := (some .int)) (av := [.ref (ad 73)]) (Qc := fun A => va_Qi (fun (r : Int32) (u : CS) => CIv u ∧ kcL S u ∧ kcP S u ∧ kcU S u ∧ kcW S u) (fun u t => Bw D T A (cW T ad u) t) A) (by decide +kernel) (Nat.le_of_ble_eq_true rfl) (fun p e s m args below meth c A ls F hr hlocks hnm hK hP hD hS hA hN hE hl => ?_)
  obtain ⟨hx, hb, hml, hown, hts⟩ := id F
  have hl : lv_has ls 1 [(0, .ref (ad 73))] := hl
  obtain ⟨i_vst, i_vc0, i_vc1, i_vc2, i_vc3, i_vv0, i_vv1, i_vv2, i_vv3, i_vg, i_wct, i_wln, i_sd0, i_sd1, i_sd2, i_sd3, i_rln, i_rtx, i_rpl, i_rtk, i_cnv, i_pts, i_cik, i_und⟩ := id hI
  refine lv_aload_n hx hb d_Sums_negate_0 rfl (lv_at hl 0 rfl) ?_
  refine va_get (D := D) (ci := 8) (v := .ref (ad 1)) (C := "PageScribe$Sums") (T := F_Sums) (N := 1) hx hb hts i_Sums hown hK hP 73 (ce_73 _ _ _) cl_8 0 (by decide) (hts _ k_2_8) (fun _ h9 => h9) rfl d_Sums_negate_1 ?_
  refine lv_iconst (v := 0) hx hb d_Sums_negate_4 (by decide) ?_
  refine jc_ci (w := (fun _ => S)) hK hP hD hS hA (va_runV (As := [.int 0]) (rest := []) F (c_Stack_kindDown l D T ad S (0 : Int32)  s.heap.size) (j_cV (k := 1) (C := "PageScribe$Stack") hts k_2_120 k_1_3 k_4_145 k_2_118 k_2_119 (by decide +kernel) ⟨Nat.le_of_ble_eq_true rfl, Nat.le_of_ble_eq_true rfl⟩) (j_preV (q0 := 1) (ci := 0) hK hP hD csc csc_all csc_nd cl_0 (ce_1 _ _ _) (fun _ _ _ _ h => h) (fun _ _ _ => trivial)) rfl rfl hl.1 rfl (lv_room (Nat.le_of_ble_eq_true rfl)) d_Sums_negate_5 ⟨Nat.le_of_ble_eq_true rfl, Nat.le_of_ble_eq_true rfl⟩) (fun rv1 u1 H locs hw1 hP hD hS => ?_)
  have hP : va_P D classes (cW T ad S) H := hP
  have hD : va_D A (cW T ad S) := hD
  have rrv1 := zt_rng rv1
  refine lv_if_ne (tgt := 28) hx hb d_Sums_negate_8 (by decide) (fun c8_1 => ?_) (fun c8_1 => ?_)
  · first | have fc8_1 : rv1.toInt < 0 := (by have := zt_ne (show rv1.toInt = _ from rfl) tI_0 c8_1; omega) | have fc8_1 : 0 < rv1.toInt := (by have := zt_ne (show rv1.toInt = _ from rfl) tI_0 c8_1; omega) | skip
    refine lv_aload_n hx hb d_Sums_negate_28 rfl (lv_at hl 0 rfl) ?_
    refine lv_iconst (v := 1) hx hb d_Sums_negate_29 (by decide) ?_
    refine lv_dconst0 hx hb d_Sums_negate_30 ?_
    have := tD_0
    refine lv_aload_n hx hb d_Sums_negate_31 rfl (lv_at hl 0 rfl) ?_
    refine va_get (D := D) (ci := 8) (v := .ref (ad 1)) (C := "PageScribe$Sums") (T := F_Sums) (N := 1) hx hb hts i_Sums hown hK hP 73 (ce_73 _ _ _) cl_8 0 (by decide) (hts _ k_2_8) (fun _ h9 => h9) rfl d_Sums_negate_32 ?_
    refine lv_iconst (v := 0) hx hb d_Sums_negate_35 (by decide) ?_
    refine jc_cd (w := (fun _ => S)) hK hP hD hS hA (va_runV (As := [.int 0]) (rest := [.double 0, .int 1, .ref (ad 73)]) F (c_Stack_realDown l D T ad S (0 : Int32)  H.size ⟨i_vst, i_vc0, i_vc1, i_vc2, i_vc3, i_vv0, i_vv1, i_vv2, i_vv3, i_vg, i_wct, i_wln, i_sd0, i_sd1, i_sd2, i_sd3, i_rln, i_rtx, i_rpl, i_rtk, i_cnv, i_pts, i_cik, i_und⟩) (j_cV (k := 1) (C := "PageScribe$Stack") hts k_4_117 k_1_3 k_4_146 k_4_115 k_4_116 (by decide +kernel) ⟨Nat.le_of_ble_eq_true rfl, Nat.le_of_ble_eq_true rfl⟩) (j_preV (q0 := 1) (ci := 0) hK hP hD csc csc_all csc_nd cl_0 (ce_1 _ _ _) (fun _ _ _ _ h => h) (fun _ _ _ => trivial)) rfl rfl hl.1 rfl (lv_room (Nat.le_of_ble_eq_true rfl)) d_Sums_negate_36 ⟨Nat.le_of_ble_eq_true rfl, Nat.le_of_ble_eq_true rfl⟩) (fun rv2 u2 H locs hw2 hP hD hS => ?_)
    have hP : va_P D classes (cW T ad S) H := hP
    have hD : va_D A (cW T ad S) := hD
    have qhw2 : dB rv2 := by simpa only [tI_0] using hw2
    have n39 := (zd_sub (show dF 0 by omega) (show dF rv2 by omega))
    try have o39 := zd_subB (show dB 0 by omega) (show dB rv2 by omega)
    refine lv_dsub hx hb d_Sums_negate_39 (vf_N n39) ?_
    refine lv_topd (fun x1 ex1 => ?_)
    rw [show FP.dsub 0 rv2 = x1 from ex1.symm] at n39
    try rw [show FP.dsub 0 rv2 = x1 from ex1.symm] at o39
    refine jc_ci (w := (fun u => u)) hK hP hD hS hA (va_runV (As := [.int 1, .double x1]) (rest := []) F (c_Sums_giveReal l D T ad S (1 : Int32) x1  H.size ⟨i_vst, i_vc0, i_vc1, i_vc2, i_vc3, i_vv0, i_vv1, i_vv2, i_vv3, i_vg, i_wct, i_wln, i_sd0, i_sd1, i_sd2, i_sd3, i_rln, i_rtx, i_rpl, i_rtk, i_cnv, i_pts, i_cik, i_und⟩ (show dN x1 by have := tI_1; omega)) (j_cV (k := 2) (C := "PageScribe$Sums") hts k_4_121 k_1_10 k_4_118 k_4_120 k_0_25 (by decide +kernel) ⟨Nat.le_of_ble_eq_true rfl, Nat.le_of_ble_eq_true rfl⟩) (j_preV (q0 := 73) (ci := 8) hK hP hD csc csc_all csc_nd cl_8 (ce_73 _ _ _) (fun _ _ _ _ h => h) (fun _ _ _ => trivial)) rfl rfl hl.1 rfl (lv_room (Nat.le_of_ble_eq_true rfl)) d_Sums_negate_40 ⟨Nat.le_of_ble_eq_true rfl, Nat.le_of_ble_eq_true rfl⟩) (fun rv3 S1 H locs hw3 hP hD hS => ?_)
    have hP : va_P D classes (cW T ad S1) H := hP
    have hD : va_D A (cW T ad S1) := hD
    obtain ⟨⟨i_vst, i_vc0, i_vc1, i_vc2, i_vc3, i_vv0, i_vv1, i_vv2, i_vv3, i_vg, i_wct, i_wln, i_sd0, i_sd1, i_sd2, i_sd3, i_rln, i_rtx, i_rpl, i_rtk, i_cnv, i_pts, i_cik, i_und⟩, kpcL_S1, kpcP_S1, kpcU_S1, kpcW_S1⟩ := hw3
    have kScL_S1 : kcL S S1 := kcL_t (show kcL S S from (kcL_r S)) kpcL_S1
    have kScP_S1 : kcP S S1 := kcP_t (show kcP S S from (kcP_r S)) kpcP_S1
    have kScU_S1 : kcU S S1 := kcU_t (show kcU S S from (kcU_r S)) kpcU_S1
    have kScW_S1 : kcW S S1 := kcW_t (show kcW S S from (kcW_r S)) kpcW_S1
    have nxr_length_S1 : (f_xr_length S1).toInt = (f_xr_length S).toInt := congrArg Int32.toInt kpcL_S1
    have nxr_length_S1 : (f_xr_length S1).toInt = (f_xr_length S).toInt := congrArg Int32.toInt kpcP_S1.1
    have nxr_place_S1 : (f_xr_place S1).toInt = (f_xr_place S).toInt := congrArg Int32.toInt kpcP_S1.2.1
    have nxe_underWay_S1 : (f_xe_underWay S1).toInt = (f_xe_underWay S).toInt := congrArg Int32.toInt kpcU_S1
    have nxp_columns_S1 : (f_xp_columns S1).toInt = (f_xp_columns S).toInt := congrArg Int32.toInt kpcW_S1.1
    have nxp_rows_S1 : (f_xp_rows S1).toInt = (f_xp_rows S).toInt := congrArg Int32.toInt kpcW_S1.2
    have rrv3 := zt_rng rv3
    exact j_iret F hr hlocks hK hS S1 ⟨⟨i_vst, i_vc0, i_vc1, i_vc2, i_vc3, i_vv0, i_vv1, i_vv2, i_vv3, i_vg, i_wct, i_wln, i_sd0, i_sd1, i_sd2, i_sd3, i_rln, i_rtx, i_rpl, i_rtk, i_cnv, i_pts, i_cik, i_und⟩, kScL_S1, kScP_S1, kScU_S1, kScW_S1⟩ hP hD d_Sums_negate_43
  · have fc8_1 : rv1.toInt = 0 := zt_eq (show rv1.toInt = _ from rfl) tI_0 c8_1
    refine lv_aload_n hx hb d_Sums_negate_11 rfl (lv_at hl 0 rfl) ?_
    refine lv_iconst (v := 1) hx hb d_Sums_negate_12 (by decide) ?_
    refine lv_lconst (v := 0) hx hb d_Sums_negate_13 (by decide) ?_
    refine lv_aload_n hx hb d_Sums_negate_14 rfl (lv_at hl 0 rfl) ?_
    refine va_get (D := D) (ci := 8) (v := .ref (ad 1)) (C := "PageScribe$Sums") (T := F_Sums) (N := 1) hx hb hts i_Sums hown hK hP 73 (ce_73 _ _ _) cl_8 0 (by decide) (hts _ k_2_8) (fun _ h9 => h9) rfl d_Sums_negate_15 ?_
    refine lv_iconst (v := 0) hx hb d_Sums_negate_18 (by decide) ?_
    refine jc_ci (w := (fun _ => S)) hK hP hD hS hA (va_runV (As := [.int 0]) (rest := [.long 0, .int 1, .ref (ad 73)]) F (c_Stack_numberDown l D T ad S (0 : Int32)  H.size) (j_cV (k := 1) (C := "PageScribe$Stack") hts k_2_130 k_1_3 k_4_132 k_2_128 k_2_129 (by decide +kernel) ⟨Nat.le_of_ble_eq_true rfl, Nat.le_of_ble_eq_true rfl⟩) (j_preV (q0 := 1) (ci := 0) hK hP hD csc csc_all csc_nd cl_0 (ce_1 _ _ _) (fun _ _ _ _ h => h) (fun _ _ _ => trivial)) rfl rfl hl.1 rfl (lv_room (Nat.le_of_ble_eq_true rfl)) d_Sums_negate_19 ⟨Nat.le_of_ble_eq_true rfl, Nat.le_of_ble_eq_true rfl⟩) (fun rv4 u3 H locs hw4 hP hD hS => ?_)
    have hP : va_P D classes (cW T ad S) H := hP
    have hD : va_D A (cW T ad S) := hD
    have rrv4 := zt_rng rv4
    refine lv_i2l (v := (rv4).toInt64) hx hb d_Sums_negate_22 rfl ?_
    refine lv_topl (fun x2 ex2 => ?_)
    have fx2 : x2.toInt = rv4.toInt := by rw [ex2]; exact zu_i2l (show rv4.toInt = _ from rfl)
    refine lv_lsub hx hb d_Sums_negate_23 ?_
    refine lv_topl (fun x3 ex3 => ?_)
    refine jc_ci (w := (fun u => u)) hK hP hD hS hA (va_runV (As := [.int 1, .long x3]) (rest := []) F (c_Sums_giveExact l D T ad S (1 : Int32) x3  H.size ⟨i_vst, i_vc0, i_vc1, i_vc2, i_vc3, i_vv0, i_vv1, i_vv2, i_vv3, i_vg, i_wct, i_wln, i_sd0, i_sd1, i_sd2, i_sd3, i_rln, i_rtx, i_rpl, i_rtk, i_cnv, i_pts, i_cik, i_und⟩) (j_cV (k := 2) (C := "PageScribe$Sums") hts k_4_136 k_1_10 k_4_133 k_4_135 k_0_27 (by decide +kernel) ⟨Nat.le_of_ble_eq_true rfl, Nat.le_of_ble_eq_true rfl⟩) (j_preV (q0 := 73) (ci := 8) hK hP hD csc csc_all csc_nd cl_8 (ce_73 _ _ _) (fun _ _ _ _ h => h) (fun _ _ _ => trivial)) rfl rfl hl.1 rfl (lv_room (Nat.le_of_ble_eq_true rfl)) d_Sums_negate_24 ⟨Nat.le_of_ble_eq_true rfl, Nat.le_of_ble_eq_true rfl⟩) (fun rv5 S2 H locs hw5 hP hD hS => ?_)
    have hP : va_P D classes (cW T ad S2) H := hP
    have hD : va_D A (cW T ad S2) := hD
    obtain ⟨⟨i_vst, i_vc0, i_vc1, i_vc2, i_vc3, i_vv0, i_vv1, i_vv2, i_vv3, i_vg, i_wct, i_wln, i_sd0, i_sd1, i_sd2, i_sd3, i_rln, i_rtx, i_rpl, i_rtk, i_cnv, i_pts, i_cik, i_und⟩, kpcL_S2, kpcP_S2, kpcU_S2, kpcW_S2⟩ := hw5
    have kScL_S2 : kcL S S2 := kcL_t (show kcL S S from (kcL_r S)) kpcL_S2
    have kScP_S2 : kcP S S2 := kcP_t (show kcP S S from (kcP_r S)) kpcP_S2
    have kScU_S2 : kcU S S2 := kcU_t (show kcU S S from (kcU_r S)) kpcU_S2
    have kScW_S2 : kcW S S2 := kcW_t (show kcW S S from (kcW_r S)) kpcW_S2
    have nxr_length_S2 : (f_xr_length S2).toInt = (f_xr_length S).toInt := congrArg Int32.toInt kpcL_S2
    have nxr_length_S2 : (f_xr_length S2).toInt = (f_xr_length S).toInt := congrArg Int32.toInt kpcP_S2.1
    have nxr_place_S2 : (f_xr_place S2).toInt = (f_xr_place S).toInt := congrArg Int32.toInt kpcP_S2.2.1
    have nxe_underWay_S2 : (f_xe_underWay S2).toInt = (f_xe_underWay S).toInt := congrArg Int32.toInt kpcU_S2
    have nxp_columns_S2 : (f_xp_columns S2).toInt = (f_xp_columns S).toInt := congrArg Int32.toInt kpcW_S2.1
    have nxp_rows_S2 : (f_xp_rows S2).toInt = (f_xp_rows S).toInt := congrArg Int32.toInt kpcW_S2.2
    have rrv5 := zt_rng rv5
    exact j_iret F hr hlocks hK hS S2 ⟨⟨i_vst, i_vc0, i_vc1, i_vc2, i_vc3, i_vv0, i_vv1, i_vv2, i_vv3, i_vg, i_wct, i_wln, i_sd0, i_sd1, i_sd2, i_sd3, i_rln, i_rtx, i_rpl, i_rtk, i_cnv, i_pts, i_cik, i_und⟩, kScL_S2, kScP_S2, kScU_S2, kScW_S2⟩ hP hD d_Sums_negate_27
theorem d_Sums_wholeBelow_0 : decode prog_11_method_9_code 0 = .ok (.aload_n 0, 1) := by decide +kernel
theorem d_Sums_wholeBelow_1 : decode prog_11_method_9_code 1 = .ok (.getfield 9, 3) := by decide +kernel
theorem d_Sums_wholeBelow_4 : decode prog_11_method_9_code 4 = .ok (.iconst 0, 1) := by decide +kernel
theorem d_Sums_wholeBelow_5 : decode prog_11_method_9_code 5 = .ok (.invokevirtual 83, 3) := by decide +kernel
theorem d_Sums_wholeBelow_8 : decode prog_11_method_9_code 8 = .ok (.ifCond .ne 5, 3) := by decide +kernel
theorem d_Sums_wholeBelow_13 : decode prog_11_method_9_code 13 = .ok (.aload_n 0, 1) := by decide +kernel
theorem d_Sums_wholeBelow_14 : decode prog_11_method_9_code 14 = .ok (.getfield 9, 3) := by decide +kernel
theorem d_Sums_wholeBelow_17 : decode prog_11_method_9_code 17 = .ok (.iconst 0, 1) := by decide +kernel
theorem d_Sums_wholeBelow_18 : decode prog_11_method_9_code 18 = .ok (.invokevirtual 100, 3) := by decide +kernel
theorem d_Sums_wholeBelow_21 : decode prog_11_method_9_code 21 = .ok (.dload_n 1, 1) := by decide +kernel
theorem d_Sums_wholeBelow_22 : decode prog_11_method_9_code 22 = .ok (.dadd, 1) := by decide +kernel
theorem d_Sums_wholeBelow_23 : decode prog_11_method_9_code 23 = .ok (.dstore_n 3, 1) := by decide +kernel
theorem d_Sums_wholeBelow_24 : decode prog_11_method_9_code 24 = .ok (.dload_n 3, 1) := by decide +kernel
theorem d_Sums_wholeBelow_25 : decode prog_11_method_9_code 25 = .ok (.d2l, 1) := by decide +kernel
theorem d_Sums_wholeBelow_26 : decode prog_11_method_9_code 26 = .ok (.lstore 5, 2) := by decide +kernel
theorem d_Sums_wholeBelow_28 : decode prog_11_method_9_code 28 = .ok (.aload_n 0, 1) := by decide +kernel
theorem d_Sums_wholeBelow_29 : decode prog_11_method_9_code 29 = .ok (.iconst 1, 1) := by decide +kernel
theorem d_Sums_wholeBelow_47 : decode prog_11_method_9_code 47 = .ok (.l2d, 1) := by decide +kernel
theorem d_Sums_wholeBelow_48 : decode prog_11_method_9_code 48 = .ok (.invokevirtual 56, 3) := by decide +kernel
theorem d_Sums_wholeBelow_51 : decode prog_11_method_9_code 51 = .ok (.ireturn, 1) := by decide +kernel
theorem d_Sums_wholeBelow_30 : decode prog_11_method_9_code 30 = .ok (.lload 5, 2) := by decide +kernel
theorem d_Sums_wholeBelow_32 : decode prog_11_method_9_code 32 = .ok (.l2d, 1) := by decide +kernel
theorem d_Sums_wholeBelow_33 : decode prog_11_method_9_code 33 = .ok (.dload_n 3, 1) := by decide +kernel
theorem d_Sums_wholeBelow_34 : decode prog_11_method_9_code 34 = .ok (.dcmp .l, 1) := by decide +kernel
theorem d_Sums_wholeBelow_35 : decode prog_11_method_9_code 35 = .ok (.ifCond .le 10, 3) := by decide +kernel
theorem d_Sums_wholeBelow_45 : decode prog_11_method_9_code 45 = .ok (.lload 5, 2) := by decide +kernel
theorem d_Sums_wholeBelow_38 : decode prog_11_method_9_code 38 = .ok (.lload 5, 2) := by decide +kernel
theorem d_Sums_wholeBelow_40 : decode prog_11_method_9_code 40 = .ok (.lconst 1, 1) := by decide +kernel
theorem d_Sums_wholeBelow_41 : decode prog_11_method_9_code 41 = .ok (.lsub, 1) := by decide +kernel
theorem d_Sums_wholeBelow_42 : decode prog_11_method_9_code 42 = .ok (.goto 5, 3) := by decide +kernel
theorem d_Sums_wholeBelow_11 : decode prog_11_method_9_code 11 = .ok (.iconst 0, 1) := by decide +kernel
theorem d_Sums_wholeBelow_12 : decode prog_11_method_9_code 12 = .ok (.ireturn, 1) := by decide +kernel
set_option maxHeartbeats 4000000 in
set_option maxRecDepth 100000 in
theorem c_Sums_wholeBelow (l : Launch) (D : va_G) (T : Nat → ClassId) (ad : Nat → Nat) (S : CS) (d0 : UInt64) (sz : Nat)  (hI : CIv S) (h1 : dB d0) : Met l ⟨"PageScribe$Sums", "wholeBelow", "(D)I"⟩ (wy ⟨"PageScribe$Sums", "wholeBelow", "(D)I"⟩ prog_11_method_9_code 7 (some .int)) ({ frames := 3, cells := 0, slots := 0, locals := 210 }) (va_Pc [.ref (ad 73), .double d0] (Pw D T (cW T ad S) sz E0)) (va_Qi (fun (r : Int32) (u : CS) => CIv u ∧ kcL S u ∧ kcP S u ∧ kcU S u ∧ kcW S u) (fun u t => Bw D T (va_A (cW T ad S) sz) (cW T ad u) t) (va_A (cW T ad S) sz)) 0 0 (va_A (cW T ad S) sz) := by
  refine j_met (y := ⟨"PageScribe$Sums", "wholeBelow", "(D)I"⟩) (b := prog_11_method_9_code) (n := 7) (ret := (some .int)) (av := [.ref (ad 73), .double d0]) (Qc := fun A => va_Qi (fun (r : Int32) (u : CS) => CIv u ∧ kcL S u ∧ kcP S u ∧ kcU S u ∧ kcW S u) (fun u t => Bw D T A (cW T ad u) t) A) (by decide +kernel) (Nat.le_of_ble_eq_true rfl) (fun p e s m args below meth c A ls F hr hlocks hnm hK hP hD hS hA hN hE hl => ?_)
  obtain ⟨hx, hb, hml, hown, hts⟩ := id F
  have hl : lv_has ls 7 [(0, .ref (ad 73)), (1, .double d0)] := hl
  obtain ⟨i_vst, i_vc0, i_vc1, i_vc2, i_vc3, i_vv0, i_vv1, i_vv2, i_vv3, i_vg, i_wct, i_wln, i_sd0, i_sd1, i_sd2, i_sd3, i_rln, i_rtx, i_rpl, i_rtk, i_cnv, i_pts, i_cik, i_und⟩ := id hI
  refine lv_aload_n hx hb d_Sums_wholeBelow_0 rfl (lv_at hl 0 rfl) ?_
  refine va_get (D := D) (ci := 8) (v := .ref (ad 1)) (C := "PageScribe$Sums") (T := F_Sums) (N := 1) hx hb hts i_Sums hown hK hP 73 (ce_73 _ _ _) cl_8 0 (by decide) (hts _ k_2_8) (fun _ h9 => h9) rfl d_Sums_wholeBelow_1 ?_
  refine lv_iconst (v := 0) hx hb d_Sums_wholeBelow_4 (by decide) ?_
  refine jc_ci (w := (fun _ => S)) hK hP hD hS hA (va_runV (As := [.int 0]) (rest := []) F (c_Stack_kindDown l D T ad S (0 : Int32)  s.heap.size) (j_cV (k := 1) (C := "PageScribe$Stack") hts k_2_120 k_1_3 k_4_145 k_2_118 k_2_119 (by decide +kernel) ⟨Nat.le_of_ble_eq_true rfl, Nat.le_of_ble_eq_true rfl⟩) (j_preV (q0 := 1) (ci := 0) hK hP hD csc csc_all csc_nd cl_0 (ce_1 _ _ _) (fun _ _ _ _ h => h) (fun _ _ _ => trivial)) rfl rfl hl.1 rfl (lv_room (Nat.le_of_ble_eq_true rfl)) d_Sums_wholeBelow_5 ⟨Nat.le_of_ble_eq_true rfl, Nat.le_of_ble_eq_true rfl⟩) (fun rv1 u1 H locs hw1 hP hD hS => ?_)
  have hP : va_P D classes (cW T ad S) H := hP
  have hD : va_D A (cW T ad S) := hD
  have rrv1 := zt_rng rv1
  refine lv_if_ne (tgt := 13) hx hb d_Sums_wholeBelow_8 (by decide) (fun c8_1 => ?_) (fun c8_1 => ?_)
  · first | have fc8_1 : rv1.toInt < 0 := (by have := zt_ne (show rv1.toInt = _ from rfl) tI_0 c8_1; omega) | have fc8_1 : 0 < rv1.toInt := (by have := zt_ne (show rv1.toInt = _ from rfl) tI_0 c8_1; omega) | skip
    refine lv_aload_n hx hb d_Sums_wholeBelow_13 rfl (lv_at hl 0 rfl) ?_
    refine va_get (D := D) (ci := 8) (v := .ref (ad 1)) (C := "PageScribe$Sums") (T := F_Sums) (N := 1) hx hb hts i_Sums hown hK hP 73 (ce_73 _ _ _) cl_8 0 (by decide) (hts _ k_2_8) (fun _ h9 => h9) rfl d_Sums_wholeBelow_14 ?_
    refine lv_iconst (v := 0) hx hb d_Sums_wholeBelow_17 (by decide) ?_
    refine jc_cd (w := (fun _ => S)) hK hP hD hS hA (va_runV (As := [.int 0]) (rest := []) F (c_Stack_realDown l D T ad S (0 : Int32)  H.size ⟨i_vst, i_vc0, i_vc1, i_vc2, i_vc3, i_vv0, i_vv1, i_vv2, i_vv3, i_vg, i_wct, i_wln, i_sd0, i_sd1, i_sd2, i_sd3, i_rln, i_rtx, i_rpl, i_rtk, i_cnv, i_pts, i_cik, i_und⟩) (j_cV (k := 1) (C := "PageScribe$Stack") hts k_4_117 k_1_3 k_4_146 k_4_115 k_4_116 (by decide +kernel) ⟨Nat.le_of_ble_eq_true rfl, Nat.le_of_ble_eq_true rfl⟩) (j_preV (q0 := 1) (ci := 0) hK hP hD csc csc_all csc_nd cl_0 (ce_1 _ _ _) (fun _ _ _ _ h => h) (fun _ _ _ => trivial)) rfl rfl hl.1 rfl (lv_room (Nat.le_of_ble_eq_true rfl)) d_Sums_wholeBelow_18 ⟨Nat.le_of_ble_eq_true rfl, Nat.le_of_ble_eq_true rfl⟩) (fun rv2 u2 H locs hw2 hP hD hS => ?_)
    have hP : va_P D classes (cW T ad S) H := hP
    have hD : va_D A (cW T ad S) := hD
    have qhw2 : dB rv2 := by simpa only [tI_0] using hw2
    refine lv_dload_n hx hb d_Sums_wholeBelow_21 rfl (lv_at hl 1 rfl) ?_
    have n22 := (zd_add (show dF rv2 by omega) (show dF d0 by omega))
    try have o22 := zd_addB (show dB rv2 by omega) (show dB d0 by omega)
    refine lv_dadd hx hb d_Sums_wholeBelow_22 (vf_N n22) ?_
    refine lv_topd (fun x1 ex1 => ?_)
    rw [show FP.dadd rv2 d0 = x1 from ex1.symm] at n22
    try rw [show FP.dadd rv2 d0 = x1 from ex1.symm] at o22
    refine lv_dstore_n (lv' := [(3, .double x1), (0, .ref (ad 73)), (1, .double d0)]) hx hb d_Sums_wholeBelow_23 rfl hl (by decide) rfl (fun ls hl => ?_)
    refine lv_dload_n hx hb d_Sums_wholeBelow_24 rfl (lv_at hl 0 rfl) ?_
    refine lv_d2l hx hb d_Sums_wholeBelow_25 ?_
    refine lv_topl (fun x2 ex2 => ?_)
    refine lv_lstore (lv' := [(5, .long x2), (3, .double x1), (0, .ref (ad 73)), (1, .double d0)]) hx hb d_Sums_wholeBelow_26 hl (by decide) rfl (fun ls hl => ?_)
    refine lv_aload_n hx hb d_Sums_wholeBelow_28 rfl (lv_at hl 2 rfl) ?_
    refine lv_iconst (v := 1) hx hb d_Sums_wholeBelow_29 (by decide) ?_
    refine j_joinH (α := Int64) (fun x H locs ls => (True) ∧ va_P D classes (cW T ad S) H ∧ va_D A (cW T ad S) ∧ va_S A s.heap H locs ∧ lv_has ls 7 [(5, .long x2), (3, .double x1), (0, .ref (ad 73)), (1, .double d0)]) (fun x ls => F0 m 47 ls (.long x :: [.int 1, .ref (ad 73)])) (fun x H locs ls hI9 => ?_) (fun key1 => ?_)
    · obtain ⟨j1, rfl⟩ : ∃ z, z = x := ⟨_, rfl⟩
      obtain ⟨hj1, hP, hD, hS, hl⟩ := hI9
      have hP : va_P D classes (cW T ad S) H := hP
      have hD : va_D A (cW T ad S) := hD
      have hl : lv_has ls 7 [(5, .long x2), (3, .double x1), (0, .ref (ad 73)), (1, .double d0)] := hl
      refine lv_l2d hx hb d_Sums_wholeBelow_47 ?_
      refine lv_topd (fun x3 ex3 => ?_)
      have fx3 : dB x3 := by rw [ex3]; exact zd_l2d _
      refine jc_ci (w := (fun u => u)) hK hP hD hS hA (va_runV (As := [.int 1, .double x3]) (rest := []) F (c_Sums_giveReal l D T ad S (1 : Int32) x3  H.size ⟨i_vst, i_vc0, i_vc1, i_vc2, i_vc3, i_vv0, i_vv1, i_vv2, i_vv3, i_vg, i_wct, i_wln, i_sd0, i_sd1, i_sd2, i_sd3, i_rln, i_rtx, i_rpl, i_rtk, i_cnv, i_pts, i_cik, i_und⟩ (show dN x3 by have := tI_1; omega)) (j_cV (k := 2) (C := "PageScribe$Sums") hts k_4_121 k_1_10 k_4_118 k_4_120 k_0_25 (by decide +kernel) ⟨Nat.le_of_ble_eq_true rfl, Nat.le_of_ble_eq_true rfl⟩) (j_preV (q0 := 73) (ci := 8) hK hP hD csc csc_all csc_nd cl_8 (ce_73 _ _ _) (fun _ _ _ _ h => h) (fun _ _ _ => trivial)) rfl rfl hl.1 rfl (lv_room (Nat.le_of_ble_eq_true rfl)) d_Sums_wholeBelow_48 ⟨Nat.le_of_ble_eq_true rfl, Nat.le_of_ble_eq_true rfl⟩) (fun rv3 S1 H locs hw3 hP hD hS => ?_)
      have hP : va_P D classes (cW T ad S1) H := hP
      have hD : va_D A (cW T ad S1) := hD
      obtain ⟨⟨i_vst, i_vc0, i_vc1, i_vc2, i_vc3, i_vv0, i_vv1, i_vv2, i_vv3, i_vg, i_wct, i_wln, i_sd0, i_sd1, i_sd2, i_sd3, i_rln, i_rtx, i_rpl, i_rtk, i_cnv, i_pts, i_cik, i_und⟩, kpcL_S1, kpcP_S1, kpcU_S1, kpcW_S1⟩ := hw3
      have kScL_S1 : kcL S S1 := kcL_t (show kcL S S from (kcL_r S)) kpcL_S1
      have kScP_S1 : kcP S S1 := kcP_t (show kcP S S from (kcP_r S)) kpcP_S1
      have kScU_S1 : kcU S S1 := kcU_t (show kcU S S from (kcU_r S)) kpcU_S1
      have kScW_S1 : kcW S S1 := kcW_t (show kcW S S from (kcW_r S)) kpcW_S1
      have nxr_length_S1 : (f_xr_length S1).toInt = (f_xr_length S).toInt := congrArg Int32.toInt kpcL_S1
      have nxr_length_S1 : (f_xr_length S1).toInt = (f_xr_length S).toInt := congrArg Int32.toInt kpcP_S1.1
      have nxr_place_S1 : (f_xr_place S1).toInt = (f_xr_place S).toInt := congrArg Int32.toInt kpcP_S1.2.1
      have nxe_underWay_S1 : (f_xe_underWay S1).toInt = (f_xe_underWay S).toInt := congrArg Int32.toInt kpcU_S1
      have nxp_columns_S1 : (f_xp_columns S1).toInt = (f_xp_columns S).toInt := congrArg Int32.toInt kpcW_S1.1
      have nxp_rows_S1 : (f_xp_rows S1).toInt = (f_xp_rows S).toInt := congrArg Int32.toInt kpcW_S1.2
      have rrv3 := zt_rng rv3
      exact j_iret F hr hlocks hK hS S1 ⟨⟨i_vst, i_vc0, i_vc1, i_vc2, i_vc3, i_vv0, i_vv1, i_vv2, i_vv3, i_vg, i_wct, i_wln, i_sd0, i_sd1, i_sd2, i_sd3, i_rln, i_rtx, i_rpl, i_rtk, i_cnv, i_pts, i_cik, i_und⟩, kScL_S1, kScP_S1, kScU_S1, kScW_S1⟩ hP hD d_Sums_wholeBelow_51
    · refine lv_lload hx hb d_Sums_wholeBelow_30 (lv_at hl 0 rfl) ?_
      refine lv_l2d hx hb d_Sums_wholeBelow_32 ?_
      refine lv_topd (fun x4 ex4 => ?_)
      have fx4 : dB x4 := by rw [ex4]; exact zd_l2d _
      refine lv_dload_n hx hb d_Sums_wholeBelow_33 rfl (lv_at hl 1 rfl) ?_
      refine lv_dcmp hx hb d_Sums_wholeBelow_34 ?_
      refine lv_topi (fun x5 ex5 => ?_)
      refine lv_if_le (tgt := 45) hx hb d_Sums_wholeBelow_35 (by decide) (fun c35_1 => ?_) (fun c35_1 => ?_)
      · have fc35_1 : x5.toInt ≤ 0 := zt_le (show x5.toInt = _ from rfl) tI_0 c35_1
        have vc35_1 : dk x4 ≤ dk x1 := by have := zr_dcmp (a := x4) (b := x1) ex5 (show dN x4 by omega) (show dN x1 by omega); have := zt_le (show x5.toInt = _ from rfl) tI_0 c35_1; omega
        refine lv_lload hx hb d_Sums_wholeBelow_45 (lv_at hl 0 rfl) ?_
        exact key1 (x2) _ _ _ ⟨trivial, hP, hD, hS, lv_sub hl [0, 1, 2, 3] rfl⟩
      · have fc35_1 : 0 < x5.toInt := Int.not_le.mp (zt_nle (show x5.toInt = _ from rfl) tI_0 c35_1)
        have vc35_1 : dk x4 > dk x1 := by have := zr_dcmp (a := x4) (b := x1) ex5 (show dN x4 by omega) (show dN x1 by omega); have := Int.not_le.mp (zt_nle (show x5.toInt = _ from rfl) tI_0 c35_1); omega
        refine lv_lload hx hb d_Sums_wholeBelow_38 (lv_at hl 0 rfl) ?_
        refine lv_lconst (v := 1) hx hb d_Sums_wholeBelow_40 (by decide) ?_
        refine lv_lsub hx hb d_Sums_wholeBelow_41 ?_
        refine lv_topl (fun x6 ex6 => ?_)
        refine lv_goto (tgt := 47) hx hb d_Sums_wholeBelow_42 (by decide) ?_
        exact key1 (x6) _ _ _ ⟨trivial, hP, hD, hS, lv_sub hl [0, 1, 2, 3] rfl⟩
  · have fc8_1 : rv1.toInt = 0 := zt_eq (show rv1.toInt = _ from rfl) tI_0 c8_1
    refine lv_iconst (v := 0) hx hb d_Sums_wholeBelow_11 (by decide) ?_
    exact j_iret F hr hlocks hK hS S ⟨⟨i_vst, i_vc0, i_vc1, i_vc2, i_vc3, i_vv0, i_vv1, i_vv2, i_vv3, i_vg, i_wct, i_wln, i_sd0, i_sd1, i_sd2, i_sd3, i_rln, i_rtx, i_rpl, i_rtk, i_cnv, i_pts, i_cik, i_und⟩, (kcL_r S), (kcP_r S), (kcU_r S), (kcW_r S)⟩ hP hD d_Sums_wholeBelow_12
theorem d_Sums_cut_0 : decode prog_11_method_10_code 0 = .ok (.aload_n 0, 1) := by decide +kernel
theorem d_Sums_cut_1 : decode prog_11_method_10_code 1 = .ok (.getfield 9, 3) := by decide +kernel
theorem d_Sums_cut_4 : decode prog_11_method_10_code 4 = .ok (.iconst 0, 1) := by decide +kernel
theorem d_Sums_cut_5 : decode prog_11_method_10_code 5 = .ok (.invokevirtual 50, 3) := by decide +kernel
theorem d_Sums_cut_8 : decode prog_11_method_10_code 8 = .ok (.d2l, 1) := by decide +kernel
theorem d_Sums_cut_9 : decode prog_11_method_10_code 9 = .ok (.lstore_n 1, 1) := by decide +kernel
theorem d_Sums_cut_10 : decode prog_11_method_10_code 10 = .ok (.lload_n 1, 1) := by decide +kernel
theorem d_Sums_cut_11 : decode prog_11_method_10_code 11 = .ok (.lload_n 1, 1) := by decide +kernel
theorem d_Sums_cut_12 : decode prog_11_method_10_code 12 = .ok (.l2i, 1) := by decide +kernel
theorem d_Sums_cut_13 : decode prog_11_method_10_code 13 = .ok (.i2l, 1) := by decide +kernel
theorem d_Sums_cut_14 : decode prog_11_method_10_code 14 = .ok (.lcmp, 1) := by decide +kernel
theorem d_Sums_cut_15 : decode prog_11_method_10_code 15 = .ok (.ifCond .ne 16, 3) := by decide +kernel
theorem d_Sums_cut_31 : decode prog_11_method_10_code 31 = .ok (.iconst 4, 1) := by decide +kernel
theorem d_Sums_cut_32 : decode prog_11_method_10_code 32 = .ok (.ireturn, 1) := by decide +kernel
theorem d_Sums_cut_18 : decode prog_11_method_10_code 18 = .ok (.aload_n 0, 1) := by decide +kernel
theorem d_Sums_cut_19 : decode prog_11_method_10_code 19 = .ok (.getfield 9, 3) := by decide +kernel
theorem d_Sums_cut_22 : decode prog_11_method_10_code 22 = .ok (.iconst 1, 1) := by decide +kernel
theorem d_Sums_cut_23 : decode prog_11_method_10_code 23 = .ok (.lload_n 1, 1) := by decide +kernel
theorem d_Sums_cut_24 : decode prog_11_method_10_code 24 = .ok (.l2i, 1) := by decide +kernel
theorem d_Sums_cut_25 : decode prog_11_method_10_code 25 = .ok (.invokevirtual 79, 3) := by decide +kernel
theorem d_Sums_cut_28 : decode prog_11_method_10_code 28 = .ok (.goto 4, 3) := by decide +kernel
set_option maxHeartbeats 4000000 in
set_option maxRecDepth 100000 in
theorem c_Sums_cut (l : Launch) (D : va_G) (T : Nat → ClassId) (ad : Nat → Nat) (S : CS)  (sz : Nat)  (hI : CIv S) : Met l ⟨"PageScribe$Sums", "cut", "()I"⟩ (wy ⟨"PageScribe$Sums", "cut", "()I"⟩ prog_11_method_10_code 3 (some .int)) ({ frames := 3, cells := 0, slots := 0, locals := 210 }) (va_Pc [.ref (ad 73)] (Pw D T (cW T ad S) sz E0)) (va_Qi (fun (r : Int32) (u : CS) => CIv u ∧ kcL S u ∧ kcP S u ∧ kcU S u ∧ kcW S u) (fun u t => Bw D T (va_A (cW T ad S) sz) (cW T ad u) t) (va_A (cW T ad S) sz)) 0 0 (va_A (cW T ad S) sz) := by
  refine j_met (y := ⟨"PageScribe$Sums", "cut", "()I"⟩) (b := prog_11_method_10_code) (n := 3) (ret := (some .int)) (av := [.ref (ad 73)]) (Qc := fun A => va_Qi (fun (r : Int32) (u : CS) => CIv u ∧ kcL S u ∧ kcP S u ∧ kcU S u ∧ kcW S u) (fun u t => Bw D T A (cW T ad u) t) A) (by decide +kernel) (Nat.le_of_ble_eq_true rfl) (fun p e s m args below meth c A ls F hr hlocks hnm hK hP hD hS hA hN hE hl => ?_)
  obtain ⟨hx, hb, hml, hown, hts⟩ := id F
  have hl : lv_has ls 3 [(0, .ref (ad 73))] := hl
  obtain ⟨i_vst, i_vc0, i_vc1, i_vc2, i_vc3, i_vv0, i_vv1, i_vv2, i_vv3, i_vg, i_wct, i_wln, i_sd0, i_sd1, i_sd2, i_sd3, i_rln, i_rtx, i_rpl, i_rtk, i_cnv, i_pts, i_cik, i_und⟩ := id hI
  refine lv_aload_n hx hb d_Sums_cut_0 rfl (lv_at hl 0 rfl) ?_
  refine va_get (D := D) (ci := 8) (v := .ref (ad 1)) (C := "PageScribe$Sums") (T := F_Sums) (N := 1) hx hb hts i_Sums hown hK hP 73 (ce_73 _ _ _) cl_8 0 (by decide) (hts _ k_2_8) (fun _ h9 => h9) rfl d_Sums_cut_1 ?_
  refine lv_iconst (v := 0) hx hb d_Sums_cut_4 (by decide) ?_
  refine jc_cd (w := (fun _ => S)) hK hP hD hS hA (va_runV (As := [.int 0]) (rest := []) F (c_Stack_doubleDown l D T ad S (0 : Int32)  s.heap.size ⟨i_vst, i_vc0, i_vc1, i_vc2, i_vc3, i_vv0, i_vv1, i_vv2, i_vv3, i_vg, i_wct, i_wln, i_sd0, i_sd1, i_sd2, i_sd3, i_rln, i_rtx, i_rpl, i_rtk, i_cnv, i_pts, i_cik, i_und⟩) (j_cV (k := 1) (C := "PageScribe$Stack") hts k_4_113 k_1_3 k_4_110 k_4_111 k_4_112 (by decide +kernel) ⟨Nat.le_of_ble_eq_true rfl, Nat.le_of_ble_eq_true rfl⟩) (j_preV (q0 := 1) (ci := 0) hK hP hD csc csc_all csc_nd cl_0 (ce_1 _ _ _) (fun _ _ _ _ h => h) (fun _ _ _ => trivial)) rfl rfl hl.1 rfl (lv_room (Nat.le_of_ble_eq_true rfl)) d_Sums_cut_5 ⟨Nat.le_of_ble_eq_true rfl, Nat.le_of_ble_eq_true rfl⟩) (fun rv1 u1 H locs hw1 hP hD hS => ?_)
  have hP : va_P D classes (cW T ad S) H := hP
  have hD : va_D A (cW T ad S) := hD
  have qhw1 : dB rv1 := by simpa only [tI_0] using hw1
  refine lv_d2l hx hb d_Sums_cut_8 ?_
  refine lv_topl (fun x1 ex1 => ?_)
  refine lv_lstore_n (lv' := [(1, .long x1), (0, .ref (ad 73))]) hx hb d_Sums_cut_9 rfl hl (by decide) rfl (fun ls hl => ?_)
  refine lv_lload_n hx hb d_Sums_cut_10 rfl (lv_at hl 0 rfl) ?_
  refine lv_lload_n hx hb d_Sums_cut_11 rfl (lv_at hl 0 rfl) ?_
  refine lv_l2i (v := (x1).toInt32) hx hb d_Sums_cut_12 rfl ?_
  refine lv_topi (fun x2 ex2 => ?_)
  have wx2 := zt_rng x2
  refine lv_i2l (v := (x2).toInt64) hx hb d_Sums_cut_13 rfl ?_
  refine lv_topl (fun x3 ex3 => ?_)
  have fx3 : x3.toInt = x2.toInt := by rw [ex3]; exact zu_i2l (show x2.toInt = _ from rfl)
  refine W.lcmp hx hb d_Sums_cut_14 ?_
  refine lv_topi (fun x4 ex4 => ?_)
  refine lv_if_ne (tgt := 31) hx hb d_Sums_cut_15 (by decide) (fun c15_1 => ?_) (fun c15_1 => ?_)
  · first | have fc15_1 : x4.toInt < 0 := (by have := zt_ne (show x4.toInt = _ from rfl) tI_0 c15_1; omega) | have fc15_1 : 0 < x4.toInt := (by have := zt_ne (show x4.toInt = _ from rfl) tI_0 c15_1; omega) | skip
    have vc15_1 : ¬ x1.toInt = x2.toInt := by have := zr_cmp ex4 (show x1.toInt = _ from rfl) fx3; have := zt_ne (show x4.toInt = _ from rfl) tI_0 c15_1; omega
    refine lv_iconst (v := 4) hx hb d_Sums_cut_31 (by decide) ?_
    exact j_iret F hr hlocks hK hS S ⟨⟨i_vst, i_vc0, i_vc1, i_vc2, i_vc3, i_vv0, i_vv1, i_vv2, i_vv3, i_vg, i_wct, i_wln, i_sd0, i_sd1, i_sd2, i_sd3, i_rln, i_rtx, i_rpl, i_rtk, i_cnv, i_pts, i_cik, i_und⟩, (kcL_r S), (kcP_r S), (kcU_r S), (kcW_r S)⟩ hP hD d_Sums_cut_32
  · have fc15_1 : x4.toInt = 0 := zt_eq (show x4.toInt = _ from rfl) tI_0 c15_1
    have vc15_1 : x1.toInt = x2.toInt := by have := zr_cmp ex4 (show x1.toInt = _ from rfl) fx3; have := zt_eq (show x4.toInt = _ from rfl) tI_0 c15_1; omega
    refine lv_aload_n hx hb d_Sums_cut_18 rfl (lv_at hl 1 rfl) ?_
    refine va_get (D := D) (ci := 8) (v := .ref (ad 1)) (C := "PageScribe$Sums") (T := F_Sums) (N := 1) hx hb hts i_Sums hown hK hP 73 (ce_73 _ _ _) cl_8 0 (by decide) (hts _ k_2_8) (fun _ h9 => h9) rfl d_Sums_cut_19 ?_
    refine lv_iconst (v := 1) hx hb d_Sums_cut_22 (by decide) ?_
    refine lv_lload_n hx hb d_Sums_cut_23 rfl (lv_at hl 0 rfl) ?_
    refine lv_l2i (v := (x1).toInt32) hx hb d_Sums_cut_24 rfl ?_
    refine lv_topi (fun x5 ex5 => ?_)
    have wx5 := zt_rng x5
    refine jc_ci (w := (fun u => u)) hK hP hD hS hA (va_runV (As := [.int 1, .int x5]) (rest := []) F (c_Stack_giveInt l D T ad S (1 : Int32) x5  H.size ⟨i_vst, i_vc0, i_vc1, i_vc2, i_vc3, i_vv0, i_vv1, i_vv2, i_vv3, i_vg, i_wct, i_wln, i_sd0, i_sd1, i_sd2, i_sd3, i_rln, i_rtx, i_rpl, i_rtk, i_cnv, i_pts, i_cik, i_und⟩) (j_cV (k := 2) (C := "PageScribe$Stack") hts k_4_140 k_1_3 k_4_137 k_4_138 k_4_139 (by decide +kernel) ⟨Nat.le_of_ble_eq_true rfl, Nat.le_of_ble_eq_true rfl⟩) (j_preV (q0 := 1) (ci := 0) hK hP hD csc csc_all csc_nd cl_0 (ce_1 _ _ _) (fun _ _ _ _ h => h) (fun _ _ _ => trivial)) rfl rfl hl.1 rfl (lv_room (Nat.le_of_ble_eq_true rfl)) d_Sums_cut_25 ⟨Nat.le_of_ble_eq_true rfl, Nat.le_of_ble_eq_true rfl⟩) (fun rv2 S1 H locs hw2 hP hD hS => ?_)
    have hP : va_P D classes (cW T ad S1) H := hP
    have hD : va_D A (cW T ad S1) := hD
    obtain ⟨⟨i_vst, i_vc0, i_vc1, i_vc2, i_vc3, i_vv0, i_vv1, i_vv2, i_vv3, i_vg, i_wct, i_wln, i_sd0, i_sd1, i_sd2, i_sd3, i_rln, i_rtx, i_rpl, i_rtk, i_cnv, i_pts, i_cik, i_und⟩, kpcL_S1, kpcP_S1, kpcU_S1, kpcW_S1⟩ := hw2
    have kScL_S1 : kcL S S1 := kcL_t (show kcL S S from (kcL_r S)) kpcL_S1
    have kScP_S1 : kcP S S1 := kcP_t (show kcP S S from (kcP_r S)) kpcP_S1
    have kScU_S1 : kcU S S1 := kcU_t (show kcU S S from (kcU_r S)) kpcU_S1
    have kScW_S1 : kcW S S1 := kcW_t (show kcW S S from (kcW_r S)) kpcW_S1
    have nxr_length_S1 : (f_xr_length S1).toInt = (f_xr_length S).toInt := congrArg Int32.toInt kpcL_S1
    have nxr_length_S1 : (f_xr_length S1).toInt = (f_xr_length S).toInt := congrArg Int32.toInt kpcP_S1.1
    have nxr_place_S1 : (f_xr_place S1).toInt = (f_xr_place S).toInt := congrArg Int32.toInt kpcP_S1.2.1
    have nxe_underWay_S1 : (f_xe_underWay S1).toInt = (f_xe_underWay S).toInt := congrArg Int32.toInt kpcU_S1
    have nxp_columns_S1 : (f_xp_columns S1).toInt = (f_xp_columns S).toInt := congrArg Int32.toInt kpcW_S1.1
    have nxp_rows_S1 : (f_xp_rows S1).toInt = (f_xp_rows S).toInt := congrArg Int32.toInt kpcW_S1.2
    have rrv2 := zt_rng rv2
    refine lv_goto (tgt := 32) hx hb d_Sums_cut_28 (by decide) ?_
    exact j_iret F hr hlocks hK hS S1 ⟨⟨i_vst, i_vc0, i_vc1, i_vc2, i_vc3, i_vv0, i_vv1, i_vv2, i_vv3, i_vg, i_wct, i_wln, i_sd0, i_sd1, i_sd2, i_sd3, i_rln, i_rtx, i_rpl, i_rtk, i_cnv, i_pts, i_cik, i_und⟩, kScL_S1, kScP_S1, kScU_S1, kScW_S1⟩ hP hD d_Sums_cut_32
theorem d_Sums_shift_0 : decode prog_11_method_11_code 0 = .ok (.aload_n 0, 1) := by decide +kernel
theorem d_Sums_shift_1 : decode prog_11_method_11_code 1 = .ok (.getfield 9, 3) := by decide +kernel
theorem d_Sums_shift_4 : decode prog_11_method_11_code 4 = .ok (.iconst 1, 1) := by decide +kernel
theorem d_Sums_shift_5 : decode prog_11_method_11_code 5 = .ok (.invokevirtual 87, 3) := by decide +kernel
theorem d_Sums_shift_8 : decode prog_11_method_11_code 8 = .ok (.istore_n 1, 1) := by decide +kernel
theorem d_Sums_shift_9 : decode prog_11_method_11_code 9 = .ok (.aload_n 0, 1) := by decide +kernel
theorem d_Sums_shift_10 : decode prog_11_method_11_code 10 = .ok (.getfield 9, 3) := by decide +kernel
theorem d_Sums_shift_13 : decode prog_11_method_11_code 13 = .ok (.iconst 0, 1) := by decide +kernel
theorem d_Sums_shift_14 : decode prog_11_method_11_code 14 = .ok (.invokevirtual 87, 3) := by decide +kernel
theorem d_Sums_shift_17 : decode prog_11_method_11_code 17 = .ok (.istore_n 2, 1) := by decide +kernel
theorem d_Sums_shift_18 : decode prog_11_method_11_code 18 = .ok (.iload_n 2, 1) := by decide +kernel
theorem d_Sums_shift_19 : decode prog_11_method_11_code 19 = .ok (.bipush 31, 2) := by decide +kernel
theorem d_Sums_shift_21 : decode prog_11_method_11_code 21 = .ok (.if_icmp .gt 9, 3) := by decide +kernel
theorem d_Sums_shift_30 : decode prog_11_method_11_code 30 = .ok (.aload_n 0, 1) := by decide +kernel
theorem d_Sums_shift_31 : decode prog_11_method_11_code 31 = .ok (.getfield 9, 3) := by decide +kernel
theorem d_Sums_shift_34 : decode prog_11_method_11_code 34 = .ok (.iconst 2, 1) := by decide +kernel
theorem d_Sums_shift_35 : decode prog_11_method_11_code 35 = .ok (.iconst 0, 1) := by decide +kernel
theorem d_Sums_shift_36 : decode prog_11_method_11_code 36 = .ok (.invokevirtual 79, 3) := by decide +kernel
theorem d_Sums_shift_39 : decode prog_11_method_11_code 39 = .ok (.ireturn, 1) := by decide +kernel
theorem d_Sums_shift_24 : decode prog_11_method_11_code 24 = .ok (.iload_n 2, 1) := by decide +kernel
theorem d_Sums_shift_25 : decode prog_11_method_11_code 25 = .ok (.bipush (-31), 2) := by decide +kernel
theorem d_Sums_shift_27 : decode prog_11_method_11_code 27 = .ok (.if_icmp .ge 13, 3) := by decide +kernel
theorem tI_m31 : (-31 : Int32).toInt = -31 := by decide +kernel
theorem d_Sums_shift_40 : decode prog_11_method_11_code 40 = .ok (.aload_n 0, 1) := by decide +kernel
theorem d_Sums_shift_41 : decode prog_11_method_11_code 41 = .ok (.getfield 9, 3) := by decide +kernel
theorem d_Sums_shift_44 : decode prog_11_method_11_code 44 = .ok (.iconst 2, 1) := by decide +kernel
theorem d_Sums_shift_59 : decode prog_11_method_11_code 59 = .ok (.invokevirtual 79, 3) := by decide +kernel
theorem d_Sums_shift_62 : decode prog_11_method_11_code 62 = .ok (.ireturn, 1) := by decide +kernel
theorem d_Sums_shift_45 : decode prog_11_method_11_code 45 = .ok (.iload_n 2, 1) := by decide +kernel
theorem d_Sums_shift_46 : decode prog_11_method_11_code 46 = .ok (.ifCond .lt 9, 3) := by decide +kernel
theorem d_Sums_shift_55 : decode prog_11_method_11_code 55 = .ok (.iload_n 1, 1) := by decide +kernel
theorem d_Sums_shift_56 : decode prog_11_method_11_code 56 = .ok (.iload_n 2, 1) := by decide +kernel
theorem d_Sums_shift_57 : decode prog_11_method_11_code 57 = .ok (.ineg, 1) := by decide +kernel
theorem d_Sums_shift_58 : decode prog_11_method_11_code 58 = .ok (.iushr, 1) := by decide +kernel
theorem d_Sums_shift_49 : decode prog_11_method_11_code 49 = .ok (.iload_n 1, 1) := by decide +kernel
theorem d_Sums_shift_50 : decode prog_11_method_11_code 50 = .ok (.iload_n 2, 1) := by decide +kernel
theorem d_Sums_shift_51 : decode prog_11_method_11_code 51 = .ok (.ishl, 1) := by decide +kernel
theorem d_Sums_shift_52 : decode prog_11_method_11_code 52 = .ok (.goto 7, 3) := by decide +kernel
set_option maxHeartbeats 4000000 in
set_option maxRecDepth 100000 in
theorem c_Sums_shift (l : Launch) (D : va_G) (T : Nat → ClassId) (ad : Nat → Nat) (S : CS)  (sz : Nat)  (hI : CIv S) : Met l ⟨"PageScribe$Sums", "shift", "()I"⟩ (wy ⟨"PageScribe$Sums", "shift", "()I"⟩ prog_11_method_11_code 3 (some .int)) ({ frames := 3, cells := 0, slots := 0, locals := 210 }) (va_Pc [.ref (ad 73)] (Pw D T (cW T ad S) sz E0)) (va_Qi (fun (r : Int32) (u : CS) => CIv u ∧ kcL S u ∧ kcP S u ∧ kcU S u ∧ kcW S u) (fun u t => Bw D T (va_A (cW T ad S) sz) (cW T ad u) t) (va_A (cW T ad S) sz)) 0 0 (va_A (cW T ad S) sz) := by
  refine j_met (y := ⟨"PageScribe$Sums", "shift", "()I"⟩) (b := prog_11_method_11_code) (n := 3) (ret := (some .int)) (av := [.ref (ad 73)]) (Qc := fun A => va_Qi (fun (r : Int32) (u : CS) => CIv u ∧ kcL S u ∧ kcP S u ∧ kcU S u ∧ kcW S u) (fun u t => Bw D T A (cW T ad u) t) A) (by decide +kernel) (Nat.le_of_ble_eq_true rfl) (fun p e s m args below meth c A ls F hr hlocks hnm hK hP hD hS hA hN hE hl => ?_)
  obtain ⟨hx, hb, hml, hown, hts⟩ := id F
  have hl : lv_has ls 3 [(0, .ref (ad 73))] := hl
  obtain ⟨i_vst, i_vc0, i_vc1, i_vc2, i_vc3, i_vv0, i_vv1, i_vv2, i_vv3, i_vg, i_wct, i_wln, i_sd0, i_sd1, i_sd2, i_sd3, i_rln, i_rtx, i_rpl, i_rtk, i_cnv, i_pts, i_cik, i_und⟩ := id hI
  refine lv_aload_n hx hb d_Sums_shift_0 rfl (lv_at hl 0 rfl) ?_
  refine va_get (D := D) (ci := 8) (v := .ref (ad 1)) (C := "PageScribe$Sums") (T := F_Sums) (N := 1) hx hb hts i_Sums hown hK hP 73 (ce_73 _ _ _) cl_8 0 (by decide) (hts _ k_2_8) (fun _ h9 => h9) rfl d_Sums_shift_1 ?_
  refine lv_iconst (v := 1) hx hb d_Sums_shift_4 (by decide) ?_
  refine jc_ci (w := (fun _ => S)) hK hP hD hS hA (va_runV (As := [.int 1]) (rest := []) F (c_Stack_numberDown l D T ad S (1 : Int32)  s.heap.size) (j_cV (k := 1) (C := "PageScribe$Stack") hts k_2_130 k_1_3 k_4_132 k_2_128 k_2_129 (by decide +kernel) ⟨Nat.le_of_ble_eq_true rfl, Nat.le_of_ble_eq_true rfl⟩) (j_preV (q0 := 1) (ci := 0) hK hP hD csc csc_all csc_nd cl_0 (ce_1 _ _ _) (fun _ _ _ _ h => h) (fun _ _ _ => trivial)) rfl rfl hl.1 rfl (lv_room (Nat.le_of_ble_eq_true rfl)) d_Sums_shift_5 ⟨Nat.le_of_ble_eq_true rfl, Nat.le_of_ble_eq_true rfl⟩) (fun rv1 u1 H locs hw1 hP hD hS => ?_)
  have hP : va_P D classes (cW T ad S) H := hP
  have hD : va_D A (cW T ad S) := hD
  have rrv1 := zt_rng rv1
  refine lv_istore_n (lv' := [(1, .int rv1), (0, .ref (ad 73))]) hx hb d_Sums_shift_8 rfl hl (by decide) rfl (fun ls hl => ?_)
  refine lv_aload_n hx hb d_Sums_shift_9 rfl (lv_at hl 1 rfl) ?_
  refine va_get (D := D) (ci := 8) (v := .ref (ad 1)) (C := "PageScribe$Sums") (T := F_Sums) (N := 1) hx hb hts i_Sums hown hK hP 73 (ce_73 _ _ _) cl_8 0 (by decide) (hts _ k_2_8) (fun _ h9 => h9) rfl d_Sums_shift_10 ?_
  refine lv_iconst (v := 0) hx hb d_Sums_shift_13 (by decide) ?_
  refine jc_ci (w := (fun _ => S)) hK hP hD hS hA (va_runV (As := [.int 0]) (rest := []) F (c_Stack_numberDown l D T ad S (0 : Int32)  H.size) (j_cV (k := 1) (C := "PageScribe$Stack") hts k_2_130 k_1_3 k_4_132 k_2_128 k_2_129 (by decide +kernel) ⟨Nat.le_of_ble_eq_true rfl, Nat.le_of_ble_eq_true rfl⟩) (j_preV (q0 := 1) (ci := 0) hK hP hD csc csc_all csc_nd cl_0 (ce_1 _ _ _) (fun _ _ _ _ h => h) (fun _ _ _ => trivial)) rfl rfl hl.1 rfl (lv_room (Nat.le_of_ble_eq_true rfl)) d_Sums_shift_14 ⟨Nat.le_of_ble_eq_true rfl, Nat.le_of_ble_eq_true rfl⟩) (fun rv2 u2 H locs hw2 hP hD hS => ?_)
  have hP : va_P D classes (cW T ad S) H := hP
  have hD : va_D A (cW T ad S) := hD
  have rrv2 := zt_rng rv2
  refine lv_istore_n (lv' := [(2, .int rv2), (1, .int rv1), (0, .ref (ad 73))]) hx hb d_Sums_shift_17 rfl hl (by decide) rfl (fun ls hl => ?_)
  refine lv_iload_n hx hb d_Sums_shift_18 rfl (lv_at hl 0 rfl) ?_
  refine lv_bipush (v := 31) hx hb d_Sums_shift_19 (by decide) ?_
  refine lv_icmp_gt (tgt := 30) hx hb d_Sums_shift_21 (by decide) (fun c21_1 => ?_) (fun c21_1 => ?_)
  · have fc21_1 : 31 < rv2.toInt := zt_lt tI_31 (show rv2.toInt = _ from rfl) c21_1
    refine lv_aload_n hx hb d_Sums_shift_30 rfl (lv_at hl 2 rfl) ?_
    refine va_get (D := D) (ci := 8) (v := .ref (ad 1)) (C := "PageScribe$Sums") (T := F_Sums) (N := 1) hx hb hts i_Sums hown hK hP 73 (ce_73 _ _ _) cl_8 0 (by decide) (hts _ k_2_8) (fun _ h9 => h9) rfl d_Sums_shift_31 ?_
    refine lv_iconst (v := 2) hx hb d_Sums_shift_34 (by decide) ?_
    refine lv_iconst (v := 0) hx hb d_Sums_shift_35 (by decide) ?_
    refine jc_ci (w := (fun u => u)) hK hP hD hS hA (va_runV (As := [.int 2, .int 0]) (rest := []) F (c_Stack_giveInt l D T ad S (2 : Int32) (0 : Int32)  H.size ⟨i_vst, i_vc0, i_vc1, i_vc2, i_vc3, i_vv0, i_vv1, i_vv2, i_vv3, i_vg, i_wct, i_wln, i_sd0, i_sd1, i_sd2, i_sd3, i_rln, i_rtx, i_rpl, i_rtk, i_cnv, i_pts, i_cik, i_und⟩) (j_cV (k := 2) (C := "PageScribe$Stack") hts k_4_140 k_1_3 k_4_137 k_4_138 k_4_139 (by decide +kernel) ⟨Nat.le_of_ble_eq_true rfl, Nat.le_of_ble_eq_true rfl⟩) (j_preV (q0 := 1) (ci := 0) hK hP hD csc csc_all csc_nd cl_0 (ce_1 _ _ _) (fun _ _ _ _ h => h) (fun _ _ _ => trivial)) rfl rfl hl.1 rfl (lv_room (Nat.le_of_ble_eq_true rfl)) d_Sums_shift_36 ⟨Nat.le_of_ble_eq_true rfl, Nat.le_of_ble_eq_true rfl⟩) (fun rv3 S1 H locs hw3 hP hD hS => ?_)
    have hP : va_P D classes (cW T ad S1) H := hP
    have hD : va_D A (cW T ad S1) := hD
    obtain ⟨⟨i_vst, i_vc0, i_vc1, i_vc2, i_vc3, i_vv0, i_vv1, i_vv2, i_vv3, i_vg, i_wct, i_wln, i_sd0, i_sd1, i_sd2, i_sd3, i_rln, i_rtx, i_rpl, i_rtk, i_cnv, i_pts, i_cik, i_und⟩, kpcL_S1, kpcP_S1, kpcU_S1, kpcW_S1⟩ := hw3
    have kScL_S1 : kcL S S1 := kcL_t (show kcL S S from (kcL_r S)) kpcL_S1
    have kScP_S1 : kcP S S1 := kcP_t (show kcP S S from (kcP_r S)) kpcP_S1
    have kScU_S1 : kcU S S1 := kcU_t (show kcU S S from (kcU_r S)) kpcU_S1
    have kScW_S1 : kcW S S1 := kcW_t (show kcW S S from (kcW_r S)) kpcW_S1
    have nxr_length_S1 : (f_xr_length S1).toInt = (f_xr_length S).toInt := congrArg Int32.toInt kpcL_S1
    have nxr_length_S1 : (f_xr_length S1).toInt = (f_xr_length S).toInt := congrArg Int32.toInt kpcP_S1.1
    have nxr_place_S1 : (f_xr_place S1).toInt = (f_xr_place S).toInt := congrArg Int32.toInt kpcP_S1.2.1
    have nxe_underWay_S1 : (f_xe_underWay S1).toInt = (f_xe_underWay S).toInt := congrArg Int32.toInt kpcU_S1
    have nxp_columns_S1 : (f_xp_columns S1).toInt = (f_xp_columns S).toInt := congrArg Int32.toInt kpcW_S1.1
    have nxp_rows_S1 : (f_xp_rows S1).toInt = (f_xp_rows S).toInt := congrArg Int32.toInt kpcW_S1.2
    have rrv3 := zt_rng rv3
    exact j_iret F hr hlocks hK hS S1 ⟨⟨i_vst, i_vc0, i_vc1, i_vc2, i_vc3, i_vv0, i_vv1, i_vv2, i_vv3, i_vg, i_wct, i_wln, i_sd0, i_sd1, i_sd2, i_sd3, i_rln, i_rtx, i_rpl, i_rtk, i_cnv, i_pts, i_cik, i_und⟩, kScL_S1, kScP_S1, kScU_S1, kScW_S1⟩ hP hD d_Sums_shift_39
  · have fc21_1 : rv2.toInt ≤ 31 := Int.not_lt.mp (zt_nlt tI_31 (show rv2.toInt = _ from rfl) c21_1)
    refine lv_iload_n hx hb d_Sums_shift_24 rfl (lv_at hl 0 rfl) ?_
    refine lv_bipush (v := (-31)) hx hb d_Sums_shift_25 (by decide) ?_
    refine lv_icmp_ge (tgt := 40) hx hb d_Sums_shift_27 (by decide) (fun c27_1 => ?_) (fun c27_1 => ?_)
    · have fc27_1 : (-31) ≤ rv2.toInt := zt_le tI_m31 (show rv2.toInt = _ from rfl) c27_1
      refine lv_aload_n hx hb d_Sums_shift_40 rfl (lv_at hl 2 rfl) ?_
      refine va_get (D := D) (ci := 8) (v := .ref (ad 1)) (C := "PageScribe$Sums") (T := F_Sums) (N := 1) hx hb hts i_Sums hown hK hP 73 (ce_73 _ _ _) cl_8 0 (by decide) (hts _ k_2_8) (fun _ h9 => h9) rfl d_Sums_shift_41 ?_
      refine lv_iconst (v := 2) hx hb d_Sums_shift_44 (by decide) ?_
      refine j_joinH (α := Int32) (fun x H locs ls => (True) ∧ va_P D classes (cW T ad S) H ∧ va_D A (cW T ad S) ∧ va_S A s.heap H locs ∧ lv_has ls 3 [(2, .int rv2), (1, .int rv1), (0, .ref (ad 73))]) (fun x ls => F0 m 59 ls (.int x :: [.int 2, .ref (ad 1)])) (fun x H locs ls hI9 => ?_) (fun key1 => ?_)
      · obtain ⟨j1, rfl⟩ : ∃ z, z = x := ⟨_, rfl⟩
        obtain ⟨hj1, hP, hD, hS, hl⟩ := hI9
        have hP : va_P D classes (cW T ad S) H := hP
        have hD : va_D A (cW T ad S) := hD
        have hl : lv_has ls 3 [(2, .int rv2), (1, .int rv1), (0, .ref (ad 73))] := hl
        refine jc_ci (w := (fun u => u)) hK hP hD hS hA (va_runV (As := [.int 2, .int j1]) (rest := []) F (c_Stack_giveInt l D T ad S (2 : Int32) j1  H.size ⟨i_vst, i_vc0, i_vc1, i_vc2, i_vc3, i_vv0, i_vv1, i_vv2, i_vv3, i_vg, i_wct, i_wln, i_sd0, i_sd1, i_sd2, i_sd3, i_rln, i_rtx, i_rpl, i_rtk, i_cnv, i_pts, i_cik, i_und⟩) (j_cV (k := 2) (C := "PageScribe$Stack") hts k_4_140 k_1_3 k_4_137 k_4_138 k_4_139 (by decide +kernel) ⟨Nat.le_of_ble_eq_true rfl, Nat.le_of_ble_eq_true rfl⟩) (j_preV (q0 := 1) (ci := 0) hK hP hD csc csc_all csc_nd cl_0 (ce_1 _ _ _) (fun _ _ _ _ h => h) (fun _ _ _ => trivial)) rfl rfl hl.1 rfl (lv_room (Nat.le_of_ble_eq_true rfl)) d_Sums_shift_59 ⟨Nat.le_of_ble_eq_true rfl, Nat.le_of_ble_eq_true rfl⟩) (fun rv4 S2 H locs hw4 hP hD hS => ?_)
        have hP : va_P D classes (cW T ad S2) H := hP
        have hD : va_D A (cW T ad S2) := hD
        obtain ⟨⟨i_vst, i_vc0, i_vc1, i_vc2, i_vc3, i_vv0, i_vv1, i_vv2, i_vv3, i_vg, i_wct, i_wln, i_sd0, i_sd1, i_sd2, i_sd3, i_rln, i_rtx, i_rpl, i_rtk, i_cnv, i_pts, i_cik, i_und⟩, kpcL_S2, kpcP_S2, kpcU_S2, kpcW_S2⟩ := hw4
        have kScL_S2 : kcL S S2 := kcL_t (show kcL S S from (kcL_r S)) kpcL_S2
        have kScP_S2 : kcP S S2 := kcP_t (show kcP S S from (kcP_r S)) kpcP_S2
        have kScU_S2 : kcU S S2 := kcU_t (show kcU S S from (kcU_r S)) kpcU_S2
        have kScW_S2 : kcW S S2 := kcW_t (show kcW S S from (kcW_r S)) kpcW_S2
        have nxr_length_S2 : (f_xr_length S2).toInt = (f_xr_length S).toInt := congrArg Int32.toInt kpcL_S2
        have nxr_length_S2 : (f_xr_length S2).toInt = (f_xr_length S).toInt := congrArg Int32.toInt kpcP_S2.1
        have nxr_place_S2 : (f_xr_place S2).toInt = (f_xr_place S).toInt := congrArg Int32.toInt kpcP_S2.2.1
        have nxe_underWay_S2 : (f_xe_underWay S2).toInt = (f_xe_underWay S).toInt := congrArg Int32.toInt kpcU_S2
        have nxp_columns_S2 : (f_xp_columns S2).toInt = (f_xp_columns S).toInt := congrArg Int32.toInt kpcW_S2.1
        have nxp_rows_S2 : (f_xp_rows S2).toInt = (f_xp_rows S).toInt := congrArg Int32.toInt kpcW_S2.2
        have rrv4 := zt_rng rv4
        exact j_iret F hr hlocks hK hS S2 ⟨⟨i_vst, i_vc0, i_vc1, i_vc2, i_vc3, i_vv0, i_vv1, i_vv2, i_vv3, i_vg, i_wct, i_wln, i_sd0, i_sd1, i_sd2, i_sd3, i_rln, i_rtx, i_rpl, i_rtk, i_cnv, i_pts, i_cik, i_und⟩, kScL_S2, kScP_S2, kScU_S2, kScW_S2⟩ hP hD d_Sums_shift_62
      · refine lv_iload_n hx hb d_Sums_shift_45 rfl (lv_at hl 0 rfl) ?_
        refine lv_if_lt (tgt := 55) hx hb d_Sums_shift_46 (by decide) (fun c46_1 => ?_) (fun c46_1 => ?_)
        · have fc46_1 : rv2.toInt < 0 := zt_lt (show rv2.toInt = _ from rfl) tI_0 c46_1
          refine lv_iload_n hx hb d_Sums_shift_55 rfl (lv_at hl 1 rfl) ?_
          refine lv_iload_n hx hb d_Sums_shift_56 rfl (lv_at hl 0 rfl) ?_
          refine lv_ineg hx hb d_Sums_shift_57 ?_
          refine lv_topi (fun x1 ex1 => ?_)
          have rx1 := zt_rng x1
          refine lv_iushr (v := ((rv1 : Int32).toUInt32 >>> ((x1 : Int32).toUInt32 &&& Int32.toUInt32 31)).toInt32) hx hb d_Sums_shift_58 rfl ?_
          refine lv_topi (fun x2 ex2 => ?_)
          have wx2 := zt_rng x2
          exact key1 (x2) _ _ _ ⟨trivial, hP, hD, hS, lv_sub hl [0, 1, 2] rfl⟩
        · have fc46_1 : 0 ≤ rv2.toInt := Int.not_lt.mp (zt_nlt (show rv2.toInt = _ from rfl) tI_0 c46_1)
          refine lv_iload_n hx hb d_Sums_shift_49 rfl (lv_at hl 1 rfl) ?_
          refine lv_iload_n hx hb d_Sums_shift_50 rfl (lv_at hl 0 rfl) ?_
          refine lv_ishl hx hb d_Sums_shift_51 ?_
          refine lv_topi (fun x3 ex3 => ?_)
          have wx3 := zt_rng x3
          refine lv_goto (tgt := 59) hx hb d_Sums_shift_52 (by decide) ?_
          exact key1 (x3) _ _ _ ⟨trivial, hP, hD, hS, lv_sub hl [0, 1, 2] rfl⟩
    · have fc27_1 : rv2.toInt < (-31) := Int.not_le.mp (zt_nle tI_m31 (show rv2.toInt = _ from rfl) c27_1)
      refine lv_aload_n hx hb d_Sums_shift_30 rfl (lv_at hl 2 rfl) ?_
      refine va_get (D := D) (ci := 8) (v := .ref (ad 1)) (C := "PageScribe$Sums") (T := F_Sums) (N := 1) hx hb hts i_Sums hown hK hP 73 (ce_73 _ _ _) cl_8 0 (by decide) (hts _ k_2_8) (fun _ h9 => h9) rfl d_Sums_shift_31 ?_
      refine lv_iconst (v := 2) hx hb d_Sums_shift_34 (by decide) ?_
      refine lv_iconst (v := 0) hx hb d_Sums_shift_35 (by decide) ?_
      refine jc_ci (w := (fun u => u)) hK hP hD hS hA (va_runV (As := [.int 2, .int 0]) (rest := []) F (c_Stack_giveInt l D T ad S (2 : Int32) (0 : Int32)  H.size ⟨i_vst, i_vc0, i_vc1, i_vc2, i_vc3, i_vv0, i_vv1, i_vv2, i_vv3, i_vg, i_wct, i_wln, i_sd0, i_sd1, i_sd2, i_sd3, i_rln, i_rtx, i_rpl, i_rtk, i_cnv, i_pts, i_cik, i_und⟩) (j_cV (k := 2) (C := "PageScribe$Stack") hts k_4_140 k_1_3 k_4_137 k_4_138 k_4_139 (by decide +kernel) ⟨Nat.le_of_ble_eq_true rfl, Nat.le_of_ble_eq_true rfl⟩) (j_preV (q0 := 1) (ci := 0) hK hP hD csc csc_all csc_nd cl_0 (ce_1 _ _ _) (fun _ _ _ _ h => h) (fun _ _ _ => trivial)) rfl rfl hl.1 rfl (lv_room (Nat.le_of_ble_eq_true rfl)) d_Sums_shift_36 ⟨Nat.le_of_ble_eq_true rfl, Nat.le_of_ble_eq_true rfl⟩) (fun rv5 S3 H locs hw5 hP hD hS => ?_)
      have hP : va_P D classes (cW T ad S3) H := hP
      have hD : va_D A (cW T ad S3) := hD
      obtain ⟨⟨i_vst, i_vc0, i_vc1, i_vc2, i_vc3, i_vv0, i_vv1, i_vv2, i_vv3, i_vg, i_wct, i_wln, i_sd0, i_sd1, i_sd2, i_sd3, i_rln, i_rtx, i_rpl, i_rtk, i_cnv, i_pts, i_cik, i_und⟩, kpcL_S3, kpcP_S3, kpcU_S3, kpcW_S3⟩ := hw5
      have kScL_S3 : kcL S S3 := kcL_t (show kcL S S from (kcL_r S)) kpcL_S3
      have kScP_S3 : kcP S S3 := kcP_t (show kcP S S from (kcP_r S)) kpcP_S3
      have kScU_S3 : kcU S S3 := kcU_t (show kcU S S from (kcU_r S)) kpcU_S3
      have kScW_S3 : kcW S S3 := kcW_t (show kcW S S from (kcW_r S)) kpcW_S3
      have nxr_length_S3 : (f_xr_length S3).toInt = (f_xr_length S).toInt := congrArg Int32.toInt kpcL_S3
      have nxr_length_S3 : (f_xr_length S3).toInt = (f_xr_length S).toInt := congrArg Int32.toInt kpcP_S3.1
      have nxr_place_S3 : (f_xr_place S3).toInt = (f_xr_place S).toInt := congrArg Int32.toInt kpcP_S3.2.1
      have nxe_underWay_S3 : (f_xe_underWay S3).toInt = (f_xe_underWay S).toInt := congrArg Int32.toInt kpcU_S3
      have nxp_columns_S3 : (f_xp_columns S3).toInt = (f_xp_columns S).toInt := congrArg Int32.toInt kpcW_S3.1
      have nxp_rows_S3 : (f_xp_rows S3).toInt = (f_xp_rows S).toInt := congrArg Int32.toInt kpcW_S3.2
      have rrv5 := zt_rng rv5
      exact j_iret F hr hlocks hK hS S3 ⟨⟨i_vst, i_vc0, i_vc1, i_vc2, i_vc3, i_vv0, i_vv1, i_vv2, i_vv3, i_vg, i_wct, i_wln, i_sd0, i_sd1, i_sd2, i_sd3, i_rln, i_rtx, i_rpl, i_rtk, i_cnv, i_pts, i_cik, i_und⟩, kScL_S3, kScP_S3, kScU_S3, kScW_S3⟩ hP hD d_Sums_shift_39
theorem d_Sums_act_0 : decode prog_11_method_2_code 0 = .ok (.getstatic 15, 3) := by decide +kernel
theorem k_4_104 : Cond.fieldLink "PageScribe$Sums" 15 "PageScribe$1" "$SwitchMap$PageScribe$Op" "[I" ∈ gw := gw_of (tb_4 (List.mem_of_getElem? (i := 104) (by decide +kernel))) (by decide +kernel)
theorem d_Sums_act_3 : decode prog_11_method_2_code 3 = .ok (.aload_n 1, 1) := by decide +kernel
theorem d_Sums_act_4 : decode prog_11_method_2_code 4 = .ok (.invokevirtual 21, 3) := by decide +kernel
theorem k_4_105 : Cond.methodLink "PageScribe$Sums" 21 ⟨"PageScribe$Op", "ordinal", "()I"⟩ ∈ gw := gw_of (tb_4 (List.mem_of_getElem? (i := 105) (by decide +kernel))) (by decide +kernel)
theorem d_Sums_act_7 : decode prog_11_method_2_code 7 = .ok (.iaload, 1) := by decide +kernel
theorem d_Sums_act_8 : decode prog_11_method_2_code 8 = .ok (.tableswitch 117 10 18 #[52, 57, 57, 74, 79, 85, 93, 98, 112], 52) := by decide +kernel
theorem d_Sums_act_60 : decode prog_11_method_2_code 60 = .ok (.aload_n 0, 1) := by decide +kernel
theorem d_Sums_act_61 : decode prog_11_method_2_code 61 = .ok (.invokevirtual 27, 3) := by decide +kernel
theorem k_4_109 : Cond.code ⟨"PageScribe$Sums", "divide", "()I"⟩ prog_11_method_6_code 3 (some .int) ∈ gw := gw_of (tb_4 (List.mem_of_getElem? (i := 109) (by decide +kernel))) (by decide +kernel)
theorem k_4_106 : Cond.methodLink "PageScribe$Sums" 27 ⟨"PageScribe$Sums", "divide", "()I"⟩ ∈ gw := gw_of (tb_4 (List.mem_of_getElem? (i := 106) (by decide +kernel))) (by decide +kernel)
theorem k_4_108 : Cond.instanceMethod ⟨"PageScribe$Sums", "divide", "()I"⟩ ∈ gw := gw_of (tb_4 (List.mem_of_getElem? (i := 108) (by decide +kernel))) (by decide +kernel)
theorem k_0_24 : Cond.selects "PageScribe$Sums" ⟨"PageScribe$Sums", "divide", "()I"⟩ ⟨"PageScribe$Sums", "divide", "()I"⟩ ∈ gw := gw_of (tb_0 (List.mem_of_getElem? (i := 24) (by decide +kernel))) (by decide +kernel)
theorem d_Sums_act_64 : decode prog_11_method_2_code 64 = .ok (.ireturn, 1) := by decide +kernel
theorem d_Sums_act_65 : decode prog_11_method_2_code 65 = .ok (.aload_n 0, 1) := by decide +kernel
theorem d_Sums_act_66 : decode prog_11_method_2_code 66 = .ok (.aload_n 1, 1) := by decide +kernel
theorem d_Sums_act_67 : decode prog_11_method_2_code 67 = .ok (.getstatic 30, 3) := by decide +kernel
theorem k_4_126 : Cond.fieldLink "PageScribe$Sums" 30 "PageScribe$Op" "IDIV" "LPageScribe$Op;" ∈ gw := gw_of (tb_4 (List.mem_of_getElem? (i := 126) (by decide +kernel))) (by decide +kernel)
theorem d_Sums_act_70 : decode prog_11_method_2_code 70 = .ok (.if_acmp .ne 7, 3) := by decide +kernel
theorem d_Sums_act_77 : decode prog_11_method_2_code 77 = .ok (.iconst 0, 1) := by decide +kernel
theorem d_Sums_act_78 : decode prog_11_method_2_code 78 = .ok (.invokevirtual 34, 3) := by decide +kernel
theorem k_4_131 : Cond.code ⟨"PageScribe$Sums", "divideInts", "(Z)I"⟩ prog_11_method_7_code 6 (some .int) ∈ gw := gw_of (tb_4 (List.mem_of_getElem? (i := 131) (by decide +kernel))) (by decide +kernel)
theorem k_4_128 : Cond.methodLink "PageScribe$Sums" 34 ⟨"PageScribe$Sums", "divideInts", "(Z)I"⟩ ∈ gw := gw_of (tb_4 (List.mem_of_getElem? (i := 128) (by decide +kernel))) (by decide +kernel)
theorem k_4_130 : Cond.instanceMethod ⟨"PageScribe$Sums", "divideInts", "(Z)I"⟩ ∈ gw := gw_of (tb_4 (List.mem_of_getElem? (i := 130) (by decide +kernel))) (by decide +kernel)
theorem k_0_26 : Cond.selects "PageScribe$Sums" ⟨"PageScribe$Sums", "divideInts", "(Z)I"⟩ ⟨"PageScribe$Sums", "divideInts", "(Z)I"⟩ ∈ gw := gw_of (tb_0 (List.mem_of_getElem? (i := 26) (by decide +kernel))) (by decide +kernel)
theorem d_Sums_act_81 : decode prog_11_method_2_code 81 = .ok (.ireturn, 1) := by decide +kernel
theorem d_Sums_act_73 : decode prog_11_method_2_code 73 = .ok (.iconst 1, 1) := by decide +kernel
theorem d_Sums_act_74 : decode prog_11_method_2_code 74 = .ok (.goto 4, 3) := by decide +kernel
theorem d_Sums_act_82 : decode prog_11_method_2_code 82 = .ok (.aload_n 0, 1) := by decide +kernel
theorem d_Sums_act_83 : decode prog_11_method_2_code 83 = .ok (.invokevirtual 38, 3) := by decide +kernel
theorem k_4_144 : Cond.code ⟨"PageScribe$Sums", "negate", "()I"⟩ prog_11_method_8_code 1 (some .int) ∈ gw := gw_of (tb_4 (List.mem_of_getElem? (i := 144) (by decide +kernel))) (by decide +kernel)
theorem k_4_141 : Cond.methodLink "PageScribe$Sums" 38 ⟨"PageScribe$Sums", "negate", "()I"⟩ ∈ gw := gw_of (tb_4 (List.mem_of_getElem? (i := 141) (by decide +kernel))) (by decide +kernel)
theorem k_4_143 : Cond.instanceMethod ⟨"PageScribe$Sums", "negate", "()I"⟩ ∈ gw := gw_of (tb_4 (List.mem_of_getElem? (i := 143) (by decide +kernel))) (by decide +kernel)
theorem k_0_28 : Cond.selects "PageScribe$Sums" ⟨"PageScribe$Sums", "negate", "()I"⟩ ⟨"PageScribe$Sums", "negate", "()I"⟩ ∈ gw := gw_of (tb_0 (List.mem_of_getElem? (i := 28) (by decide +kernel))) (by decide +kernel)
theorem d_Sums_act_86 : decode prog_11_method_2_code 86 = .ok (.ireturn, 1) := by decide +kernel
theorem d_Sums_act_87 : decode prog_11_method_2_code 87 = .ok (.aload_n 0, 1) := by decide +kernel
theorem d_Sums_act_88 : decode prog_11_method_2_code 88 = .ok (.dconst 0, 1) := by decide +kernel
theorem d_Sums_act_89 : decode prog_11_method_2_code 89 = .ok (.invokevirtual 41, 3) := by decide +kernel
theorem k_4_150 : Cond.code ⟨"PageScribe$Sums", "wholeBelow", "(D)I"⟩ prog_11_method_9_code 7 (some .int) ∈ gw := gw_of (tb_4 (List.mem_of_getElem? (i := 150) (by decide +kernel))) (by decide +kernel)
theorem k_4_147 : Cond.methodLink "PageScribe$Sums" 41 ⟨"PageScribe$Sums", "wholeBelow", "(D)I"⟩ ∈ gw := gw_of (tb_4 (List.mem_of_getElem? (i := 147) (by decide +kernel))) (by decide +kernel)
theorem k_4_149 : Cond.instanceMethod ⟨"PageScribe$Sums", "wholeBelow", "(D)I"⟩ ∈ gw := gw_of (tb_4 (List.mem_of_getElem? (i := 149) (by decide +kernel))) (by decide +kernel)
theorem k_0_29 : Cond.selects "PageScribe$Sums" ⟨"PageScribe$Sums", "wholeBelow", "(D)I"⟩ ⟨"PageScribe$Sums", "wholeBelow", "(D)I"⟩ ∈ gw := gw_of (tb_0 (List.mem_of_getElem? (i := 29) (by decide +kernel))) (by decide +kernel)
theorem d_Sums_act_92 : decode prog_11_method_2_code 92 = .ok (.ireturn, 1) := by decide +kernel
theorem d_Sums_act_93 : decode prog_11_method_2_code 93 = .ok (.aload_n 0, 1) := by decide +kernel
theorem d_Sums_act_94 : decode prog_11_method_2_code 94 = .ok (.ldc2_w 45, 3) := by decide +kernel
theorem k_4_151 : Cond.constantDouble "PageScribe$Sums" 45 (4602678819172646912 : UInt64) ∈ gw := gw_of (tb_4 (List.mem_of_getElem? (i := 151) (by decide +kernel))) (by decide +kernel)
theorem d_Sums_act_97 : decode prog_11_method_2_code 97 = .ok (.invokevirtual 41, 3) := by decide +kernel
theorem d_Sums_act_100 : decode prog_11_method_2_code 100 = .ok (.ireturn, 1) := by decide +kernel
theorem d_Sums_act_101 : decode prog_11_method_2_code 101 = .ok (.aload_n 0, 1) := by decide +kernel
theorem d_Sums_act_102 : decode prog_11_method_2_code 102 = .ok (.invokevirtual 47, 3) := by decide +kernel
theorem k_4_155 : Cond.code ⟨"PageScribe$Sums", "cut", "()I"⟩ prog_11_method_10_code 3 (some .int) ∈ gw := gw_of (tb_4 (List.mem_of_getElem? (i := 155) (by decide +kernel))) (by decide +kernel)
theorem k_4_152 : Cond.methodLink "PageScribe$Sums" 47 ⟨"PageScribe$Sums", "cut", "()I"⟩ ∈ gw := gw_of (tb_4 (List.mem_of_getElem? (i := 152) (by decide +kernel))) (by decide +kernel)
theorem k_4_154 : Cond.instanceMethod ⟨"PageScribe$Sums", "cut", "()I"⟩ ∈ gw := gw_of (tb_4 (List.mem_of_getElem? (i := 154) (by decide +kernel))) (by decide +kernel)
theorem k_0_30 : Cond.selects "PageScribe$Sums" ⟨"PageScribe$Sums", "cut", "()I"⟩ ⟨"PageScribe$Sums", "cut", "()I"⟩ ∈ gw := gw_of (tb_0 (List.mem_of_getElem? (i := 30) (by decide +kernel))) (by decide +kernel)
theorem d_Sums_act_105 : decode prog_11_method_2_code 105 = .ok (.ireturn, 1) := by decide +kernel
theorem d_Sums_act_106 : decode prog_11_method_2_code 106 = .ok (.aload_n 0, 1) := by decide +kernel
theorem d_Sums_act_107 : decode prog_11_method_2_code 107 = .ok (.iconst 1, 1) := by decide +kernel
theorem d_Sums_act_108 : decode prog_11_method_2_code 108 = .ok (.aload_n 0, 1) := by decide +kernel
theorem d_Sums_act_109 : decode prog_11_method_2_code 109 = .ok (.getfield 9, 3) := by decide +kernel
theorem d_Sums_act_112 : decode prog_11_method_2_code 112 = .ok (.iconst 0, 1) := by decide +kernel
theorem d_Sums_act_113 : decode prog_11_method_2_code 113 = .ok (.invokevirtual 50, 3) := by decide +kernel
theorem d_Sums_act_116 : decode prog_11_method_2_code 116 = .ok (.invokevirtual 56, 3) := by decide +kernel
theorem d_Sums_act_119 : decode prog_11_method_2_code 119 = .ok (.ireturn, 1) := by decide +kernel
theorem d_Sums_act_120 : decode prog_11_method_2_code 120 = .ok (.aload_n 0, 1) := by decide +kernel
theorem d_Sums_act_121 : decode prog_11_method_2_code 121 = .ok (.invokevirtual 60, 3) := by decide +kernel
theorem k_4_159 : Cond.code ⟨"PageScribe$Sums", "shift", "()I"⟩ prog_11_method_11_code 3 (some .int) ∈ gw := gw_of (tb_4 (List.mem_of_getElem? (i := 159) (by decide +kernel))) (by decide +kernel)
theorem k_4_156 : Cond.methodLink "PageScribe$Sums" 60 ⟨"PageScribe$Sums", "shift", "()I"⟩ ∈ gw := gw_of (tb_4 (List.mem_of_getElem? (i := 156) (by decide +kernel))) (by decide +kernel)
theorem k_4_158 : Cond.instanceMethod ⟨"PageScribe$Sums", "shift", "()I"⟩ ∈ gw := gw_of (tb_4 (List.mem_of_getElem? (i := 158) (by decide +kernel))) (by decide +kernel)
theorem k_0_31 : Cond.selects "PageScribe$Sums" ⟨"PageScribe$Sums", "shift", "()I"⟩ ⟨"PageScribe$Sums", "shift", "()I"⟩ ∈ gw := gw_of (tb_0 (List.mem_of_getElem? (i := 31) (by decide +kernel))) (by decide +kernel)
theorem d_Sums_act_124 : decode prog_11_method_2_code 124 = .ok (.ireturn, 1) := by decide +kernel
theorem d_Sums_act_125 : decode prog_11_method_2_code 125 = .ok (.aload_n 0, 1) := by decide +kernel
theorem d_Sums_act_126 : decode prog_11_method_2_code 126 = .ok (.aload_n 1, 1) := by decide +kernel
theorem d_Sums_act_127 : decode prog_11_method_2_code 127 = .ok (.invokevirtual 63, 3) := by decide +kernel
theorem k_4_163 : Cond.code ⟨"PageScribe$Sums", "combine", "(LPageScribe$Op;)I"⟩ prog_11_method_5_code 6 (some .int) ∈ gw := gw_of (tb_4 (List.mem_of_getElem? (i := 163) (by decide +kernel))) (by decide +kernel)
theorem k_4_160 : Cond.methodLink "PageScribe$Sums" 63 ⟨"PageScribe$Sums", "combine", "(LPageScribe$Op;)I"⟩ ∈ gw := gw_of (tb_4 (List.mem_of_getElem? (i := 160) (by decide +kernel))) (by decide +kernel)
theorem k_4_162 : Cond.instanceMethod ⟨"PageScribe$Sums", "combine", "(LPageScribe$Op;)I"⟩ ∈ gw := gw_of (tb_4 (List.mem_of_getElem? (i := 162) (by decide +kernel))) (by decide +kernel)
theorem k_0_32 : Cond.selects "PageScribe$Sums" ⟨"PageScribe$Sums", "combine", "(LPageScribe$Op;)I"⟩ ⟨"PageScribe$Sums", "combine", "(LPageScribe$Op;)I"⟩ ∈ gw := gw_of (tb_0 (List.mem_of_getElem? (i := 32) (by decide +kernel))) (by decide +kernel)
theorem d_Sums_act_130 : decode prog_11_method_2_code 130 = .ok (.ireturn, 1) := by decide +kernel
set_option maxHeartbeats 4000000 in
set_option maxRecDepth 100000 in
theorem c_Sums_act (l : Launch) (D : va_G) (T : Nat → ClassId) (ad : Nat → Nat) (g : GE) (Bq : Nat → Prop) (S : CS) (op : Nat) (sz : Nat) (hi_op : op < 72) (hI : CIv S) : Met l ⟨"PageScribe$Sums", "act", "(LPageScribe$Op;)I"⟩ (wy ⟨"PageScribe$Sums", "act", "(LPageScribe$Op;)I"⟩ prog_11_method_2_code 2 (some .int)) ({ frames := 5, cells := 0, slots := 0, locals := 350 }) (va_Pc [.ref (ad 73), .ref (g_en g op)] (Pw D T (cW T ad S) sz (EC g Bq ad))) (va_Qi (fun (r : Int32) (u : CS) => CIv u ∧ kcL S u ∧ kcP S u ∧ kcU S u ∧ kcW S u) (fun u t => Bw D T (va_A (cW T ad S) sz) (cW T ad u) t) (va_A (cW T ad S) sz)) 0 0 (va_A (cW T ad S) sz) := by
  refine j_met (y := ⟨"PageScribe$Sums", "act", "(LPageScribe$Op;)I"⟩) (b := prog_11_method_2_code) (n := 2) (ret := (some .int)) (av := [.ref (ad 73), .ref (g_en g op)]) (Qc := fun A => va_Qi (fun (r : Int32) (u : CS) => CIv u ∧ kcL S u ∧ kcP S u ∧ kcU S u ∧ kcW S u) (fun u t => Bw D T A (cW T ad u) t) A) (by decide +kernel) (Nat.le_of_ble_eq_true rfl) (fun p e s m args below meth c A ls F hr hlocks hnm hK hP hD hS hA hN hE hl => ?_)
  obtain ⟨hx, hb, hml, hown, hts⟩ := id F
  have hl : lv_has ls 2 [(0, .ref (ad 73)), (1, .ref (g_en g op))] := hl
  obtain ⟨i_vst, i_vc0, i_vc1, i_vc2, i_vc3, i_vv0, i_vv1, i_vv2, i_vv3, i_vg, i_wct, i_wln, i_sd0, i_sd1, i_sd2, i_sd3, i_rln, i_rtx, i_rpl, i_rtk, i_cnv, i_pts, i_cik, i_und⟩ := id hI
  have hAB : ∀ q, A q → Bq q := EC.ab hE hN
  have hEV := hE.1.narrow hAB
  refine va_gets hx hb hEV.2.2.1.1 hS hown (hts _ k_4_104) (fun _ h9 => h9) d_Sums_act_0 ?_
  refine lv_aload_n hx hb d_Sums_act_3 rfl (lv_at hl 1 rfl) ?_
  refine jc_ci (w := (fun _ => S)) hK hP hD hS hA (va_runU (As := []) (rest := [.ref (g_tS g)]) F (c_Enum_ordinal l D T ad g Bq S op  s.heap.size hi_op) (j_cU (k := 0) (C := "PageScribe$Op") (owner := "java/lang/Enum") (x := ⟨"PageScribe$Op", "ordinal", "()I"⟩) hts k_4_41 k_4_105 k_4_37 k_4_39 k_4_40 k_1_24 rfl (by decide +kernel) ⟨Nat.le_of_ble_eq_true rfl, Nat.le_of_ble_eq_true rfl⟩) (jc_preO (j_preS hK hP hD csc csc_all csc_nd (fun _ _ _ _ h => EC.calling h) (fun U hU hW => EC.at hS hAB hU hW hE)) (hEV.1 _ hi_op).1.1 hS) rfl rfl hl.1 rfl (lv_room (Nat.le_of_ble_eq_true rfl)) d_Sums_act_4 ⟨Nat.le_of_ble_eq_true rfl, Nat.le_of_ble_eq_true rfl⟩) (fun rv1 u1 H locs hw1 hP hD hS => ?_)
  have hP : va_P D classes (cW T ad S) H := hP
  have hD : va_D A (cW T ad S) := hD
  have qhw1 : rv1.toInt = (op : Int) := hw1
  have rrv1 := zt_rng rv1
  refine va_ti hx hb hEV.2.2.1.2 hS (zt_in (show rv1.toInt = _ from rfl) (by omega) (by omega)) rfl d_Sums_act_7 ?_
  refine lv_topi (fun x1 ex1 => ?_)
  have rx1 := zt_rng x1
  by_cases h_10_1 : x1.toInt = 10
  · refine lv_tableIn (off := 52) (tgt := 60) hx hb d_Sums_act_8 (by omega) (by omega) (by rw [show x1.toInt = 10 from h_10_1]; decide +kernel) (by decide) ?_
    refine lv_aload_n hx hb d_Sums_act_60 rfl (lv_at hl 0 rfl) ?_
    refine jc_ci (w := (fun u => u)) hK hP hD hS hA (va_runV (As := []) (rest := []) F (c_Sums_divide l D T ad S  H.size ⟨i_vst, i_vc0, i_vc1, i_vc2, i_vc3, i_vv0, i_vv1, i_vv2, i_vv3, i_vg, i_wct, i_wln, i_sd0, i_sd1, i_sd2, i_sd3, i_rln, i_rtx, i_rpl, i_rtk, i_cnv, i_pts, i_cik, i_und⟩) (j_cV (k := 0) (C := "PageScribe$Sums") hts k_4_109 k_1_10 k_4_106 k_4_108 k_0_24 (by decide +kernel) ⟨Nat.le_of_ble_eq_true rfl, Nat.le_of_ble_eq_true rfl⟩) (j_preV (q0 := 73) (ci := 8) hK hP hD csc csc_all csc_nd cl_8 (ce_73 _ _ _) (fun _ _ _ _ h => h) (fun _ _ _ => trivial)) rfl rfl hl.1 rfl (lv_room (Nat.le_of_ble_eq_true rfl)) d_Sums_act_61 ⟨Nat.le_of_ble_eq_true rfl, Nat.le_of_ble_eq_true rfl⟩) (fun rv2 S1 H locs hw2 hP hD hS => ?_)
    have hP : va_P D classes (cW T ad S1) H := hP
    have hD : va_D A (cW T ad S1) := hD
    obtain ⟨⟨i_vst, i_vc0, i_vc1, i_vc2, i_vc3, i_vv0, i_vv1, i_vv2, i_vv3, i_vg, i_wct, i_wln, i_sd0, i_sd1, i_sd2, i_sd3, i_rln, i_rtx, i_rpl, i_rtk, i_cnv, i_pts, i_cik, i_und⟩, kpcL_S1, kpcP_S1, kpcU_S1, kpcW_S1⟩ := hw2
    have kScL_S1 : kcL S S1 := kcL_t (show kcL S S from (kcL_r S)) kpcL_S1
    have kScP_S1 : kcP S S1 := kcP_t (show kcP S S from (kcP_r S)) kpcP_S1
    have kScU_S1 : kcU S S1 := kcU_t (show kcU S S from (kcU_r S)) kpcU_S1
    have kScW_S1 : kcW S S1 := kcW_t (show kcW S S from (kcW_r S)) kpcW_S1
    have nxr_length_S1 : (f_xr_length S1).toInt = (f_xr_length S).toInt := congrArg Int32.toInt kpcL_S1
    have nxr_length_S1 : (f_xr_length S1).toInt = (f_xr_length S).toInt := congrArg Int32.toInt kpcP_S1.1
    have nxr_place_S1 : (f_xr_place S1).toInt = (f_xr_place S).toInt := congrArg Int32.toInt kpcP_S1.2.1
    have nxe_underWay_S1 : (f_xe_underWay S1).toInt = (f_xe_underWay S).toInt := congrArg Int32.toInt kpcU_S1
    have nxp_columns_S1 : (f_xp_columns S1).toInt = (f_xp_columns S).toInt := congrArg Int32.toInt kpcW_S1.1
    have nxp_rows_S1 : (f_xp_rows S1).toInt = (f_xp_rows S).toInt := congrArg Int32.toInt kpcW_S1.2
    have rrv2 := zt_rng rv2
    exact j_iret F hr hlocks hK hS S1 ⟨⟨i_vst, i_vc0, i_vc1, i_vc2, i_vc3, i_vv0, i_vv1, i_vv2, i_vv3, i_vg, i_wct, i_wln, i_sd0, i_sd1, i_sd2, i_sd3, i_rln, i_rtx, i_rpl, i_rtk, i_cnv, i_pts, i_cik, i_und⟩, kScL_S1, kScP_S1, kScU_S1, kScW_S1⟩ hP hD d_Sums_act_64
  by_cases h_11_1 : x1.toInt = 11
  · refine lv_tableIn (off := 57) (tgt := 65) hx hb d_Sums_act_8 (by omega) (by omega) (by rw [show x1.toInt = 11 from h_11_1]; decide +kernel) (by decide) ?_
    refine lv_aload_n hx hb d_Sums_act_65 rfl (lv_at hl 0 rfl) ?_
    refine lv_aload_n hx hb d_Sums_act_66 rfl (lv_at hl 1 rfl) ?_
    refine va_gets hx hb (v := .ref (g_en g 16)) (hEV.1 16 (by decide)).1.2 hS hown (hts _ k_4_126) (fun _ h9 => h9) d_Sums_act_67 ?_
    refine lv_acmp_ne (rx := some (g_en g op)) (ry := some (g_en g 16)) (tgt := 77) hx hb d_Sums_act_70 (by decide) (fun c70_1 => ?_) (fun c70_1 => ?_)
    · refine lv_iconst (v := 0) hx hb d_Sums_act_77 (by decide) ?_
      refine jc_ci (w := (fun u => u)) hK hP hD hS hA (va_runV (As := [.int 0]) (rest := []) F (c_Sums_divideInts l D T ad S (0 : Int32)  H.size ⟨i_vst, i_vc0, i_vc1, i_vc2, i_vc3, i_vv0, i_vv1, i_vv2, i_vv3, i_vg, i_wct, i_wln, i_sd0, i_sd1, i_sd2, i_sd3, i_rln, i_rtx, i_rpl, i_rtk, i_cnv, i_pts, i_cik, i_und⟩) (j_cV (k := 1) (C := "PageScribe$Sums") hts k_4_131 k_1_10 k_4_128 k_4_130 k_0_26 (by decide +kernel) ⟨Nat.le_of_ble_eq_true rfl, Nat.le_of_ble_eq_true rfl⟩) (j_preV (q0 := 73) (ci := 8) hK hP hD csc csc_all csc_nd cl_8 (ce_73 _ _ _) (fun _ _ _ _ h => h) (fun _ _ _ => trivial)) rfl rfl hl.1 rfl (lv_room (Nat.le_of_ble_eq_true rfl)) d_Sums_act_78 ⟨Nat.le_of_ble_eq_true rfl, Nat.le_of_ble_eq_true rfl⟩) (fun rv3 S2 H locs hw3 hP hD hS => ?_)
      have hP : va_P D classes (cW T ad S2) H := hP
      have hD : va_D A (cW T ad S2) := hD
      obtain ⟨⟨i_vst, i_vc0, i_vc1, i_vc2, i_vc3, i_vv0, i_vv1, i_vv2, i_vv3, i_vg, i_wct, i_wln, i_sd0, i_sd1, i_sd2, i_sd3, i_rln, i_rtx, i_rpl, i_rtk, i_cnv, i_pts, i_cik, i_und⟩, kpcL_S2, kpcP_S2, kpcU_S2, kpcW_S2⟩ := hw3
      have kScL_S2 : kcL S S2 := kcL_t (show kcL S S from (kcL_r S)) kpcL_S2
      have kScP_S2 : kcP S S2 := kcP_t (show kcP S S from (kcP_r S)) kpcP_S2
      have kScU_S2 : kcU S S2 := kcU_t (show kcU S S from (kcU_r S)) kpcU_S2
      have kScW_S2 : kcW S S2 := kcW_t (show kcW S S from (kcW_r S)) kpcW_S2
      have nxr_length_S2 : (f_xr_length S2).toInt = (f_xr_length S).toInt := congrArg Int32.toInt kpcL_S2
      have nxr_length_S2 : (f_xr_length S2).toInt = (f_xr_length S).toInt := congrArg Int32.toInt kpcP_S2.1
      have nxr_place_S2 : (f_xr_place S2).toInt = (f_xr_place S).toInt := congrArg Int32.toInt kpcP_S2.2.1
      have nxe_underWay_S2 : (f_xe_underWay S2).toInt = (f_xe_underWay S).toInt := congrArg Int32.toInt kpcU_S2
      have nxp_columns_S2 : (f_xp_columns S2).toInt = (f_xp_columns S).toInt := congrArg Int32.toInt kpcW_S2.1
      have nxp_rows_S2 : (f_xp_rows S2).toInt = (f_xp_rows S).toInt := congrArg Int32.toInt kpcW_S2.2
      have rrv3 := zt_rng rv3
      exact j_iret F hr hlocks hK hS S2 ⟨⟨i_vst, i_vc0, i_vc1, i_vc2, i_vc3, i_vv0, i_vv1, i_vv2, i_vv3, i_vg, i_wct, i_wln, i_sd0, i_sd1, i_sd2, i_sd3, i_rln, i_rtx, i_rpl, i_rtk, i_cnv, i_pts, i_cik, i_und⟩, kScL_S2, kScP_S2, kScU_S2, kScW_S2⟩ hP hD d_Sums_act_81
    · refine lv_iconst (v := 1) hx hb d_Sums_act_73 (by decide) ?_
      refine lv_goto (tgt := 78) hx hb d_Sums_act_74 (by decide) ?_
      refine jc_ci (w := (fun u => u)) hK hP hD hS hA (va_runV (As := [.int 1]) (rest := []) F (c_Sums_divideInts l D T ad S (1 : Int32)  H.size ⟨i_vst, i_vc0, i_vc1, i_vc2, i_vc3, i_vv0, i_vv1, i_vv2, i_vv3, i_vg, i_wct, i_wln, i_sd0, i_sd1, i_sd2, i_sd3, i_rln, i_rtx, i_rpl, i_rtk, i_cnv, i_pts, i_cik, i_und⟩) (j_cV (k := 1) (C := "PageScribe$Sums") hts k_4_131 k_1_10 k_4_128 k_4_130 k_0_26 (by decide +kernel) ⟨Nat.le_of_ble_eq_true rfl, Nat.le_of_ble_eq_true rfl⟩) (j_preV (q0 := 73) (ci := 8) hK hP hD csc csc_all csc_nd cl_8 (ce_73 _ _ _) (fun _ _ _ _ h => h) (fun _ _ _ => trivial)) rfl rfl hl.1 rfl (lv_room (Nat.le_of_ble_eq_true rfl)) d_Sums_act_78 ⟨Nat.le_of_ble_eq_true rfl, Nat.le_of_ble_eq_true rfl⟩) (fun rv4 S3 H locs hw4 hP hD hS => ?_)
      have hP : va_P D classes (cW T ad S3) H := hP
      have hD : va_D A (cW T ad S3) := hD
      obtain ⟨⟨i_vst, i_vc0, i_vc1, i_vc2, i_vc3, i_vv0, i_vv1, i_vv2, i_vv3, i_vg, i_wct, i_wln, i_sd0, i_sd1, i_sd2, i_sd3, i_rln, i_rtx, i_rpl, i_rtk, i_cnv, i_pts, i_cik, i_und⟩, kpcL_S3, kpcP_S3, kpcU_S3, kpcW_S3⟩ := hw4
      have kScL_S3 : kcL S S3 := kcL_t (show kcL S S from (kcL_r S)) kpcL_S3
      have kScP_S3 : kcP S S3 := kcP_t (show kcP S S from (kcP_r S)) kpcP_S3
      have kScU_S3 : kcU S S3 := kcU_t (show kcU S S from (kcU_r S)) kpcU_S3
      have kScW_S3 : kcW S S3 := kcW_t (show kcW S S from (kcW_r S)) kpcW_S3
      have nxr_length_S3 : (f_xr_length S3).toInt = (f_xr_length S).toInt := congrArg Int32.toInt kpcL_S3
      have nxr_length_S3 : (f_xr_length S3).toInt = (f_xr_length S).toInt := congrArg Int32.toInt kpcP_S3.1
      have nxr_place_S3 : (f_xr_place S3).toInt = (f_xr_place S).toInt := congrArg Int32.toInt kpcP_S3.2.1
      have nxe_underWay_S3 : (f_xe_underWay S3).toInt = (f_xe_underWay S).toInt := congrArg Int32.toInt kpcU_S3
      have nxp_columns_S3 : (f_xp_columns S3).toInt = (f_xp_columns S).toInt := congrArg Int32.toInt kpcW_S3.1
      have nxp_rows_S3 : (f_xp_rows S3).toInt = (f_xp_rows S).toInt := congrArg Int32.toInt kpcW_S3.2
      have rrv4 := zt_rng rv4
      exact j_iret F hr hlocks hK hS S3 ⟨⟨i_vst, i_vc0, i_vc1, i_vc2, i_vc3, i_vv0, i_vv1, i_vv2, i_vv3, i_vg, i_wct, i_wln, i_sd0, i_sd1, i_sd2, i_sd3, i_rln, i_rtx, i_rpl, i_rtk, i_cnv, i_pts, i_cik, i_und⟩, kScL_S3, kScP_S3, kScU_S3, kScW_S3⟩ hP hD d_Sums_act_81
  by_cases h_12_1 : x1.toInt = 12
  · refine lv_tableIn (off := 57) (tgt := 65) hx hb d_Sums_act_8 (by omega) (by omega) (by rw [show x1.toInt = 12 from h_12_1]; decide +kernel) (by decide) ?_
    refine lv_aload_n hx hb d_Sums_act_65 rfl (lv_at hl 0 rfl) ?_
    refine lv_aload_n hx hb d_Sums_act_66 rfl (lv_at hl 1 rfl) ?_
    refine va_gets hx hb (v := .ref (g_en g 16)) (hEV.1 16 (by decide)).1.2 hS hown (hts _ k_4_126) (fun _ h9 => h9) d_Sums_act_67 ?_
    refine lv_acmp_ne (rx := some (g_en g op)) (ry := some (g_en g 16)) (tgt := 77) hx hb d_Sums_act_70 (by decide) (fun c70_2 => ?_) (fun c70_2 => ?_)
    · refine lv_iconst (v := 0) hx hb d_Sums_act_77 (by decide) ?_
      refine jc_ci (w := (fun u => u)) hK hP hD hS hA (va_runV (As := [.int 0]) (rest := []) F (c_Sums_divideInts l D T ad S (0 : Int32)  H.size ⟨i_vst, i_vc0, i_vc1, i_vc2, i_vc3, i_vv0, i_vv1, i_vv2, i_vv3, i_vg, i_wct, i_wln, i_sd0, i_sd1, i_sd2, i_sd3, i_rln, i_rtx, i_rpl, i_rtk, i_cnv, i_pts, i_cik, i_und⟩) (j_cV (k := 1) (C := "PageScribe$Sums") hts k_4_131 k_1_10 k_4_128 k_4_130 k_0_26 (by decide +kernel) ⟨Nat.le_of_ble_eq_true rfl, Nat.le_of_ble_eq_true rfl⟩) (j_preV (q0 := 73) (ci := 8) hK hP hD csc csc_all csc_nd cl_8 (ce_73 _ _ _) (fun _ _ _ _ h => h) (fun _ _ _ => trivial)) rfl rfl hl.1 rfl (lv_room (Nat.le_of_ble_eq_true rfl)) d_Sums_act_78 ⟨Nat.le_of_ble_eq_true rfl, Nat.le_of_ble_eq_true rfl⟩) (fun rv5 S4 H locs hw5 hP hD hS => ?_)
      have hP : va_P D classes (cW T ad S4) H := hP
      have hD : va_D A (cW T ad S4) := hD
      obtain ⟨⟨i_vst, i_vc0, i_vc1, i_vc2, i_vc3, i_vv0, i_vv1, i_vv2, i_vv3, i_vg, i_wct, i_wln, i_sd0, i_sd1, i_sd2, i_sd3, i_rln, i_rtx, i_rpl, i_rtk, i_cnv, i_pts, i_cik, i_und⟩, kpcL_S4, kpcP_S4, kpcU_S4, kpcW_S4⟩ := hw5
      have kScL_S4 : kcL S S4 := kcL_t (show kcL S S from (kcL_r S)) kpcL_S4
      have kScP_S4 : kcP S S4 := kcP_t (show kcP S S from (kcP_r S)) kpcP_S4
      have kScU_S4 : kcU S S4 := kcU_t (show kcU S S from (kcU_r S)) kpcU_S4
      have kScW_S4 : kcW S S4 := kcW_t (show kcW S S from (kcW_r S)) kpcW_S4
      have nxr_length_S4 : (f_xr_length S4).toInt = (f_xr_length S).toInt := congrArg Int32.toInt kpcL_S4
      have nxr_length_S4 : (f_xr_length S4).toInt = (f_xr_length S).toInt := congrArg Int32.toInt kpcP_S4.1
      have nxr_place_S4 : (f_xr_place S4).toInt = (f_xr_place S).toInt := congrArg Int32.toInt kpcP_S4.2.1
      have nxe_underWay_S4 : (f_xe_underWay S4).toInt = (f_xe_underWay S).toInt := congrArg Int32.toInt kpcU_S4
      have nxp_columns_S4 : (f_xp_columns S4).toInt = (f_xp_columns S).toInt := congrArg Int32.toInt kpcW_S4.1
      have nxp_rows_S4 : (f_xp_rows S4).toInt = (f_xp_rows S).toInt := congrArg Int32.toInt kpcW_S4.2
      have rrv5 := zt_rng rv5
      exact j_iret F hr hlocks hK hS S4 ⟨⟨i_vst, i_vc0, i_vc1, i_vc2, i_vc3, i_vv0, i_vv1, i_vv2, i_vv3, i_vg, i_wct, i_wln, i_sd0, i_sd1, i_sd2, i_sd3, i_rln, i_rtx, i_rpl, i_rtk, i_cnv, i_pts, i_cik, i_und⟩, kScL_S4, kScP_S4, kScU_S4, kScW_S4⟩ hP hD d_Sums_act_81
    · refine lv_iconst (v := 1) hx hb d_Sums_act_73 (by decide) ?_
      refine lv_goto (tgt := 78) hx hb d_Sums_act_74 (by decide) ?_
      refine jc_ci (w := (fun u => u)) hK hP hD hS hA (va_runV (As := [.int 1]) (rest := []) F (c_Sums_divideInts l D T ad S (1 : Int32)  H.size ⟨i_vst, i_vc0, i_vc1, i_vc2, i_vc3, i_vv0, i_vv1, i_vv2, i_vv3, i_vg, i_wct, i_wln, i_sd0, i_sd1, i_sd2, i_sd3, i_rln, i_rtx, i_rpl, i_rtk, i_cnv, i_pts, i_cik, i_und⟩) (j_cV (k := 1) (C := "PageScribe$Sums") hts k_4_131 k_1_10 k_4_128 k_4_130 k_0_26 (by decide +kernel) ⟨Nat.le_of_ble_eq_true rfl, Nat.le_of_ble_eq_true rfl⟩) (j_preV (q0 := 73) (ci := 8) hK hP hD csc csc_all csc_nd cl_8 (ce_73 _ _ _) (fun _ _ _ _ h => h) (fun _ _ _ => trivial)) rfl rfl hl.1 rfl (lv_room (Nat.le_of_ble_eq_true rfl)) d_Sums_act_78 ⟨Nat.le_of_ble_eq_true rfl, Nat.le_of_ble_eq_true rfl⟩) (fun rv6 S5 H locs hw6 hP hD hS => ?_)
      have hP : va_P D classes (cW T ad S5) H := hP
      have hD : va_D A (cW T ad S5) := hD
      obtain ⟨⟨i_vst, i_vc0, i_vc1, i_vc2, i_vc3, i_vv0, i_vv1, i_vv2, i_vv3, i_vg, i_wct, i_wln, i_sd0, i_sd1, i_sd2, i_sd3, i_rln, i_rtx, i_rpl, i_rtk, i_cnv, i_pts, i_cik, i_und⟩, kpcL_S5, kpcP_S5, kpcU_S5, kpcW_S5⟩ := hw6
      have kScL_S5 : kcL S S5 := kcL_t (show kcL S S from (kcL_r S)) kpcL_S5
      have kScP_S5 : kcP S S5 := kcP_t (show kcP S S from (kcP_r S)) kpcP_S5
      have kScU_S5 : kcU S S5 := kcU_t (show kcU S S from (kcU_r S)) kpcU_S5
      have kScW_S5 : kcW S S5 := kcW_t (show kcW S S from (kcW_r S)) kpcW_S5
      have nxr_length_S5 : (f_xr_length S5).toInt = (f_xr_length S).toInt := congrArg Int32.toInt kpcL_S5
      have nxr_length_S5 : (f_xr_length S5).toInt = (f_xr_length S).toInt := congrArg Int32.toInt kpcP_S5.1
      have nxr_place_S5 : (f_xr_place S5).toInt = (f_xr_place S).toInt := congrArg Int32.toInt kpcP_S5.2.1
      have nxe_underWay_S5 : (f_xe_underWay S5).toInt = (f_xe_underWay S).toInt := congrArg Int32.toInt kpcU_S5
      have nxp_columns_S5 : (f_xp_columns S5).toInt = (f_xp_columns S).toInt := congrArg Int32.toInt kpcW_S5.1
      have nxp_rows_S5 : (f_xp_rows S5).toInt = (f_xp_rows S).toInt := congrArg Int32.toInt kpcW_S5.2
      have rrv6 := zt_rng rv6
      exact j_iret F hr hlocks hK hS S5 ⟨⟨i_vst, i_vc0, i_vc1, i_vc2, i_vc3, i_vv0, i_vv1, i_vv2, i_vv3, i_vg, i_wct, i_wln, i_sd0, i_sd1, i_sd2, i_sd3, i_rln, i_rtx, i_rpl, i_rtk, i_cnv, i_pts, i_cik, i_und⟩, kScL_S5, kScP_S5, kScU_S5, kScW_S5⟩ hP hD d_Sums_act_81
  by_cases h_13_1 : x1.toInt = 13
  · refine lv_tableIn (off := 74) (tgt := 82) hx hb d_Sums_act_8 (by omega) (by omega) (by rw [show x1.toInt = 13 from h_13_1]; decide +kernel) (by decide) ?_
    refine lv_aload_n hx hb d_Sums_act_82 rfl (lv_at hl 0 rfl) ?_
    refine jc_ci (w := (fun u => u)) hK hP hD hS hA (va_runV (As := []) (rest := []) F (c_Sums_negate l D T ad S  H.size ⟨i_vst, i_vc0, i_vc1, i_vc2, i_vc3, i_vv0, i_vv1, i_vv2, i_vv3, i_vg, i_wct, i_wln, i_sd0, i_sd1, i_sd2, i_sd3, i_rln, i_rtx, i_rpl, i_rtk, i_cnv, i_pts, i_cik, i_und⟩) (j_cV (k := 0) (C := "PageScribe$Sums") hts k_4_144 k_1_10 k_4_141 k_4_143 k_0_28 (by decide +kernel) ⟨Nat.le_of_ble_eq_true rfl, Nat.le_of_ble_eq_true rfl⟩) (j_preV (q0 := 73) (ci := 8) hK hP hD csc csc_all csc_nd cl_8 (ce_73 _ _ _) (fun _ _ _ _ h => h) (fun _ _ _ => trivial)) rfl rfl hl.1 rfl (lv_room (Nat.le_of_ble_eq_true rfl)) d_Sums_act_83 ⟨Nat.le_of_ble_eq_true rfl, Nat.le_of_ble_eq_true rfl⟩) (fun rv7 S6 H locs hw7 hP hD hS => ?_)
    have hP : va_P D classes (cW T ad S6) H := hP
    have hD : va_D A (cW T ad S6) := hD
    obtain ⟨⟨i_vst, i_vc0, i_vc1, i_vc2, i_vc3, i_vv0, i_vv1, i_vv2, i_vv3, i_vg, i_wct, i_wln, i_sd0, i_sd1, i_sd2, i_sd3, i_rln, i_rtx, i_rpl, i_rtk, i_cnv, i_pts, i_cik, i_und⟩, kpcL_S6, kpcP_S6, kpcU_S6, kpcW_S6⟩ := hw7
    have kScL_S6 : kcL S S6 := kcL_t (show kcL S S from (kcL_r S)) kpcL_S6
    have kScP_S6 : kcP S S6 := kcP_t (show kcP S S from (kcP_r S)) kpcP_S6
    have kScU_S6 : kcU S S6 := kcU_t (show kcU S S from (kcU_r S)) kpcU_S6
    have kScW_S6 : kcW S S6 := kcW_t (show kcW S S from (kcW_r S)) kpcW_S6
    have nxr_length_S6 : (f_xr_length S6).toInt = (f_xr_length S).toInt := congrArg Int32.toInt kpcL_S6
    have nxr_length_S6 : (f_xr_length S6).toInt = (f_xr_length S).toInt := congrArg Int32.toInt kpcP_S6.1
    have nxr_place_S6 : (f_xr_place S6).toInt = (f_xr_place S).toInt := congrArg Int32.toInt kpcP_S6.2.1
    have nxe_underWay_S6 : (f_xe_underWay S6).toInt = (f_xe_underWay S).toInt := congrArg Int32.toInt kpcU_S6
    have nxp_columns_S6 : (f_xp_columns S6).toInt = (f_xp_columns S).toInt := congrArg Int32.toInt kpcW_S6.1
    have nxp_rows_S6 : (f_xp_rows S6).toInt = (f_xp_rows S).toInt := congrArg Int32.toInt kpcW_S6.2
    have rrv7 := zt_rng rv7
    exact j_iret F hr hlocks hK hS S6 ⟨⟨i_vst, i_vc0, i_vc1, i_vc2, i_vc3, i_vv0, i_vv1, i_vv2, i_vv3, i_vg, i_wct, i_wln, i_sd0, i_sd1, i_sd2, i_sd3, i_rln, i_rtx, i_rpl, i_rtk, i_cnv, i_pts, i_cik, i_und⟩, kScL_S6, kScP_S6, kScU_S6, kScW_S6⟩ hP hD d_Sums_act_86
  by_cases h_14_1 : x1.toInt = 14
  · refine lv_tableIn (off := 79) (tgt := 87) hx hb d_Sums_act_8 (by omega) (by omega) (by rw [show x1.toInt = 14 from h_14_1]; decide +kernel) (by decide) ?_
    refine lv_aload_n hx hb d_Sums_act_87 rfl (lv_at hl 0 rfl) ?_
    refine lv_dconst0 hx hb d_Sums_act_88 ?_
    have := tD_0
    refine jc_ci (w := (fun u => u)) hK hP hD hS hA (va_runV (As := [.double 0]) (rest := []) F (c_Sums_wholeBelow l D T ad S 0  H.size ⟨i_vst, i_vc0, i_vc1, i_vc2, i_vc3, i_vv0, i_vv1, i_vv2, i_vv3, i_vg, i_wct, i_wln, i_sd0, i_sd1, i_sd2, i_sd3, i_rln, i_rtx, i_rpl, i_rtk, i_cnv, i_pts, i_cik, i_und⟩ (show dB 0 by omega)) (j_cV (k := 1) (C := "PageScribe$Sums") hts k_4_150 k_1_10 k_4_147 k_4_149 k_0_29 (by decide +kernel) ⟨Nat.le_of_ble_eq_true rfl, Nat.le_of_ble_eq_true rfl⟩) (j_preV (q0 := 73) (ci := 8) hK hP hD csc csc_all csc_nd cl_8 (ce_73 _ _ _) (fun _ _ _ _ h => h) (fun _ _ _ => trivial)) rfl rfl hl.1 rfl (lv_room (Nat.le_of_ble_eq_true rfl)) d_Sums_act_89 ⟨Nat.le_of_ble_eq_true rfl, Nat.le_of_ble_eq_true rfl⟩) (fun rv8 S7 H locs hw8 hP hD hS => ?_)
    have hP : va_P D classes (cW T ad S7) H := hP
    have hD : va_D A (cW T ad S7) := hD
    obtain ⟨⟨i_vst, i_vc0, i_vc1, i_vc2, i_vc3, i_vv0, i_vv1, i_vv2, i_vv3, i_vg, i_wct, i_wln, i_sd0, i_sd1, i_sd2, i_sd3, i_rln, i_rtx, i_rpl, i_rtk, i_cnv, i_pts, i_cik, i_und⟩, kpcL_S7, kpcP_S7, kpcU_S7, kpcW_S7⟩ := hw8
    have kScL_S7 : kcL S S7 := kcL_t (show kcL S S from (kcL_r S)) kpcL_S7
    have kScP_S7 : kcP S S7 := kcP_t (show kcP S S from (kcP_r S)) kpcP_S7
    have kScU_S7 : kcU S S7 := kcU_t (show kcU S S from (kcU_r S)) kpcU_S7
    have kScW_S7 : kcW S S7 := kcW_t (show kcW S S from (kcW_r S)) kpcW_S7
    have nxr_length_S7 : (f_xr_length S7).toInt = (f_xr_length S).toInt := congrArg Int32.toInt kpcL_S7
    have nxr_length_S7 : (f_xr_length S7).toInt = (f_xr_length S).toInt := congrArg Int32.toInt kpcP_S7.1
    have nxr_place_S7 : (f_xr_place S7).toInt = (f_xr_place S).toInt := congrArg Int32.toInt kpcP_S7.2.1
    have nxe_underWay_S7 : (f_xe_underWay S7).toInt = (f_xe_underWay S).toInt := congrArg Int32.toInt kpcU_S7
    have nxp_columns_S7 : (f_xp_columns S7).toInt = (f_xp_columns S).toInt := congrArg Int32.toInt kpcW_S7.1
    have nxp_rows_S7 : (f_xp_rows S7).toInt = (f_xp_rows S).toInt := congrArg Int32.toInt kpcW_S7.2
    have rrv8 := zt_rng rv8
    exact j_iret F hr hlocks hK hS S7 ⟨⟨i_vst, i_vc0, i_vc1, i_vc2, i_vc3, i_vv0, i_vv1, i_vv2, i_vv3, i_vg, i_wct, i_wln, i_sd0, i_sd1, i_sd2, i_sd3, i_rln, i_rtx, i_rpl, i_rtk, i_cnv, i_pts, i_cik, i_und⟩, kScL_S7, kScP_S7, kScU_S7, kScW_S7⟩ hP hD d_Sums_act_92
  by_cases h_15_1 : x1.toInt = 15
  · refine lv_tableIn (off := 85) (tgt := 93) hx hb d_Sums_act_8 (by omega) (by omega) (by rw [show x1.toInt = 15 from h_15_1]; decide +kernel) (by decide) ?_
    refine lv_aload_n hx hb d_Sums_act_93 rfl (lv_at hl 0 rfl) ?_
    refine lv_ldc2d (v := 4602678819172646912) hx hb hown (hts _ k_4_151) d_Sums_act_94 ?_
    have := tD_4602678819172646912
    refine jc_ci (w := (fun u => u)) hK hP hD hS hA (va_runV (As := [.double 4602678819172646912]) (rest := []) F (c_Sums_wholeBelow l D T ad S 4602678819172646912  H.size ⟨i_vst, i_vc0, i_vc1, i_vc2, i_vc3, i_vv0, i_vv1, i_vv2, i_vv3, i_vg, i_wct, i_wln, i_sd0, i_sd1, i_sd2, i_sd3, i_rln, i_rtx, i_rpl, i_rtk, i_cnv, i_pts, i_cik, i_und⟩ (show dB 4602678819172646912 by omega)) (j_cV (k := 1) (C := "PageScribe$Sums") hts k_4_150 k_1_10 k_4_147 k_4_149 k_0_29 (by decide +kernel) ⟨Nat.le_of_ble_eq_true rfl, Nat.le_of_ble_eq_true rfl⟩) (j_preV (q0 := 73) (ci := 8) hK hP hD csc csc_all csc_nd cl_8 (ce_73 _ _ _) (fun _ _ _ _ h => h) (fun _ _ _ => trivial)) rfl rfl hl.1 rfl (lv_room (Nat.le_of_ble_eq_true rfl)) d_Sums_act_97 ⟨Nat.le_of_ble_eq_true rfl, Nat.le_of_ble_eq_true rfl⟩) (fun rv9 S8 H locs hw9 hP hD hS => ?_)
    have hP : va_P D classes (cW T ad S8) H := hP
    have hD : va_D A (cW T ad S8) := hD
    obtain ⟨⟨i_vst, i_vc0, i_vc1, i_vc2, i_vc3, i_vv0, i_vv1, i_vv2, i_vv3, i_vg, i_wct, i_wln, i_sd0, i_sd1, i_sd2, i_sd3, i_rln, i_rtx, i_rpl, i_rtk, i_cnv, i_pts, i_cik, i_und⟩, kpcL_S8, kpcP_S8, kpcU_S8, kpcW_S8⟩ := hw9
    have kScL_S8 : kcL S S8 := kcL_t (show kcL S S from (kcL_r S)) kpcL_S8
    have kScP_S8 : kcP S S8 := kcP_t (show kcP S S from (kcP_r S)) kpcP_S8
    have kScU_S8 : kcU S S8 := kcU_t (show kcU S S from (kcU_r S)) kpcU_S8
    have kScW_S8 : kcW S S8 := kcW_t (show kcW S S from (kcW_r S)) kpcW_S8
    have nxr_length_S8 : (f_xr_length S8).toInt = (f_xr_length S).toInt := congrArg Int32.toInt kpcL_S8
    have nxr_length_S8 : (f_xr_length S8).toInt = (f_xr_length S).toInt := congrArg Int32.toInt kpcP_S8.1
    have nxr_place_S8 : (f_xr_place S8).toInt = (f_xr_place S).toInt := congrArg Int32.toInt kpcP_S8.2.1
    have nxe_underWay_S8 : (f_xe_underWay S8).toInt = (f_xe_underWay S).toInt := congrArg Int32.toInt kpcU_S8
    have nxp_columns_S8 : (f_xp_columns S8).toInt = (f_xp_columns S).toInt := congrArg Int32.toInt kpcW_S8.1
    have nxp_rows_S8 : (f_xp_rows S8).toInt = (f_xp_rows S).toInt := congrArg Int32.toInt kpcW_S8.2
    have rrv9 := zt_rng rv9
    exact j_iret F hr hlocks hK hS S8 ⟨⟨i_vst, i_vc0, i_vc1, i_vc2, i_vc3, i_vv0, i_vv1, i_vv2, i_vv3, i_vg, i_wct, i_wln, i_sd0, i_sd1, i_sd2, i_sd3, i_rln, i_rtx, i_rpl, i_rtk, i_cnv, i_pts, i_cik, i_und⟩, kScL_S8, kScP_S8, kScU_S8, kScW_S8⟩ hP hD d_Sums_act_100
  by_cases h_16_1 : x1.toInt = 16
  · refine lv_tableIn (off := 93) (tgt := 101) hx hb d_Sums_act_8 (by omega) (by omega) (by rw [show x1.toInt = 16 from h_16_1]; decide +kernel) (by decide) ?_
    refine lv_aload_n hx hb d_Sums_act_101 rfl (lv_at hl 0 rfl) ?_
    refine jc_ci (w := (fun u => u)) hK hP hD hS hA (va_runV (As := []) (rest := []) F (c_Sums_cut l D T ad S  H.size ⟨i_vst, i_vc0, i_vc1, i_vc2, i_vc3, i_vv0, i_vv1, i_vv2, i_vv3, i_vg, i_wct, i_wln, i_sd0, i_sd1, i_sd2, i_sd3, i_rln, i_rtx, i_rpl, i_rtk, i_cnv, i_pts, i_cik, i_und⟩) (j_cV (k := 0) (C := "PageScribe$Sums") hts k_4_155 k_1_10 k_4_152 k_4_154 k_0_30 (by decide +kernel) ⟨Nat.le_of_ble_eq_true rfl, Nat.le_of_ble_eq_true rfl⟩) (j_preV (q0 := 73) (ci := 8) hK hP hD csc csc_all csc_nd cl_8 (ce_73 _ _ _) (fun _ _ _ _ h => h) (fun _ _ _ => trivial)) rfl rfl hl.1 rfl (lv_room (Nat.le_of_ble_eq_true rfl)) d_Sums_act_102 ⟨Nat.le_of_ble_eq_true rfl, Nat.le_of_ble_eq_true rfl⟩) (fun rv10 S9 H locs hw10 hP hD hS => ?_)
    have hP : va_P D classes (cW T ad S9) H := hP
    have hD : va_D A (cW T ad S9) := hD
    obtain ⟨⟨i_vst, i_vc0, i_vc1, i_vc2, i_vc3, i_vv0, i_vv1, i_vv2, i_vv3, i_vg, i_wct, i_wln, i_sd0, i_sd1, i_sd2, i_sd3, i_rln, i_rtx, i_rpl, i_rtk, i_cnv, i_pts, i_cik, i_und⟩, kpcL_S9, kpcP_S9, kpcU_S9, kpcW_S9⟩ := hw10
    have kScL_S9 : kcL S S9 := kcL_t (show kcL S S from (kcL_r S)) kpcL_S9
    have kScP_S9 : kcP S S9 := kcP_t (show kcP S S from (kcP_r S)) kpcP_S9
    have kScU_S9 : kcU S S9 := kcU_t (show kcU S S from (kcU_r S)) kpcU_S9
    have kScW_S9 : kcW S S9 := kcW_t (show kcW S S from (kcW_r S)) kpcW_S9
    have nxr_length_S9 : (f_xr_length S9).toInt = (f_xr_length S).toInt := congrArg Int32.toInt kpcL_S9
    have nxr_length_S9 : (f_xr_length S9).toInt = (f_xr_length S).toInt := congrArg Int32.toInt kpcP_S9.1
    have nxr_place_S9 : (f_xr_place S9).toInt = (f_xr_place S).toInt := congrArg Int32.toInt kpcP_S9.2.1
    have nxe_underWay_S9 : (f_xe_underWay S9).toInt = (f_xe_underWay S).toInt := congrArg Int32.toInt kpcU_S9
    have nxp_columns_S9 : (f_xp_columns S9).toInt = (f_xp_columns S).toInt := congrArg Int32.toInt kpcW_S9.1
    have nxp_rows_S9 : (f_xp_rows S9).toInt = (f_xp_rows S).toInt := congrArg Int32.toInt kpcW_S9.2
    have rrv10 := zt_rng rv10
    exact j_iret F hr hlocks hK hS S9 ⟨⟨i_vst, i_vc0, i_vc1, i_vc2, i_vc3, i_vv0, i_vv1, i_vv2, i_vv3, i_vg, i_wct, i_wln, i_sd0, i_sd1, i_sd2, i_sd3, i_rln, i_rtx, i_rpl, i_rtk, i_cnv, i_pts, i_cik, i_und⟩, kScL_S9, kScP_S9, kScU_S9, kScW_S9⟩ hP hD d_Sums_act_105
  by_cases h_17_1 : x1.toInt = 17
  · refine lv_tableIn (off := 98) (tgt := 106) hx hb d_Sums_act_8 (by omega) (by omega) (by rw [show x1.toInt = 17 from h_17_1]; decide +kernel) (by decide) ?_
    refine lv_aload_n hx hb d_Sums_act_106 rfl (lv_at hl 0 rfl) ?_
    refine lv_iconst (v := 1) hx hb d_Sums_act_107 (by decide) ?_
    refine lv_aload_n hx hb d_Sums_act_108 rfl (lv_at hl 0 rfl) ?_
    refine va_get (D := D) (ci := 8) (v := .ref (ad 1)) (C := "PageScribe$Sums") (T := F_Sums) (N := 1) hx hb hts i_Sums hown hK hP 73 (ce_73 _ _ _) cl_8 0 (by decide) (hts _ k_2_8) (fun _ h9 => h9) rfl d_Sums_act_109 ?_
    refine lv_iconst (v := 0) hx hb d_Sums_act_112 (by decide) ?_
    refine jc_cd (w := (fun _ => S)) hK hP hD hS hA (va_runV (As := [.int 0]) (rest := [.int 1, .ref (ad 73)]) F (c_Stack_doubleDown l D T ad S (0 : Int32)  H.size ⟨i_vst, i_vc0, i_vc1, i_vc2, i_vc3, i_vv0, i_vv1, i_vv2, i_vv3, i_vg, i_wct, i_wln, i_sd0, i_sd1, i_sd2, i_sd3, i_rln, i_rtx, i_rpl, i_rtk, i_cnv, i_pts, i_cik, i_und⟩) (j_cV (k := 1) (C := "PageScribe$Stack") hts k_4_113 k_1_3 k_4_110 k_4_111 k_4_112 (by decide +kernel) ⟨Nat.le_of_ble_eq_true rfl, Nat.le_of_ble_eq_true rfl⟩) (j_preV (q0 := 1) (ci := 0) hK hP hD csc csc_all csc_nd cl_0 (ce_1 _ _ _) (fun _ _ _ _ h => h) (fun _ _ _ => trivial)) rfl rfl hl.1 rfl (lv_room (Nat.le_of_ble_eq_true rfl)) d_Sums_act_113 ⟨Nat.le_of_ble_eq_true rfl, Nat.le_of_ble_eq_true rfl⟩) (fun rv11 u2 H locs hw11 hP hD hS => ?_)
    have hP : va_P D classes (cW T ad S) H := hP
    have hD : va_D A (cW T ad S) := hD
    have qhw11 : dB rv11 := by simpa only [tI_0] using hw11
    refine jc_ci (w := (fun u => u)) hK hP hD hS hA (va_runV (As := [.int 1, .double rv11]) (rest := []) F (c_Sums_giveReal l D T ad S (1 : Int32) rv11  H.size ⟨i_vst, i_vc0, i_vc1, i_vc2, i_vc3, i_vv0, i_vv1, i_vv2, i_vv3, i_vg, i_wct, i_wln, i_sd0, i_sd1, i_sd2, i_sd3, i_rln, i_rtx, i_rpl, i_rtk, i_cnv, i_pts, i_cik, i_und⟩ (show dN rv11 by have := tI_1; omega)) (j_cV (k := 2) (C := "PageScribe$Sums") hts k_4_121 k_1_10 k_4_118 k_4_120 k_0_25 (by decide +kernel) ⟨Nat.le_of_ble_eq_true rfl, Nat.le_of_ble_eq_true rfl⟩) (j_preV (q0 := 73) (ci := 8) hK hP hD csc csc_all csc_nd cl_8 (ce_73 _ _ _) (fun _ _ _ _ h => h) (fun _ _ _ => trivial)) rfl rfl hl.1 rfl (lv_room (Nat.le_of_ble_eq_true rfl)) d_Sums_act_116 ⟨Nat.le_of_ble_eq_true rfl, Nat.le_of_ble_eq_true rfl⟩) (fun rv12 S10 H locs hw12 hP hD hS => ?_)
    have hP : va_P D classes (cW T ad S10) H := hP
    have hD : va_D A (cW T ad S10) := hD
    obtain ⟨⟨i_vst, i_vc0, i_vc1, i_vc2, i_vc3, i_vv0, i_vv1, i_vv2, i_vv3, i_vg, i_wct, i_wln, i_sd0, i_sd1, i_sd2, i_sd3, i_rln, i_rtx, i_rpl, i_rtk, i_cnv, i_pts, i_cik, i_und⟩, kpcL_S10, kpcP_S10, kpcU_S10, kpcW_S10⟩ := hw12
    have kScL_S10 : kcL S S10 := kcL_t (show kcL S S from (kcL_r S)) kpcL_S10
    have kScP_S10 : kcP S S10 := kcP_t (show kcP S S from (kcP_r S)) kpcP_S10
    have kScU_S10 : kcU S S10 := kcU_t (show kcU S S from (kcU_r S)) kpcU_S10
    have kScW_S10 : kcW S S10 := kcW_t (show kcW S S from (kcW_r S)) kpcW_S10
    have nxr_length_S10 : (f_xr_length S10).toInt = (f_xr_length S).toInt := congrArg Int32.toInt kpcL_S10
    have nxr_length_S10 : (f_xr_length S10).toInt = (f_xr_length S).toInt := congrArg Int32.toInt kpcP_S10.1
    have nxr_place_S10 : (f_xr_place S10).toInt = (f_xr_place S).toInt := congrArg Int32.toInt kpcP_S10.2.1
    have nxe_underWay_S10 : (f_xe_underWay S10).toInt = (f_xe_underWay S).toInt := congrArg Int32.toInt kpcU_S10
    have nxp_columns_S10 : (f_xp_columns S10).toInt = (f_xp_columns S).toInt := congrArg Int32.toInt kpcW_S10.1
    have nxp_rows_S10 : (f_xp_rows S10).toInt = (f_xp_rows S).toInt := congrArg Int32.toInt kpcW_S10.2
    have rrv12 := zt_rng rv12
    exact j_iret F hr hlocks hK hS S10 ⟨⟨i_vst, i_vc0, i_vc1, i_vc2, i_vc3, i_vv0, i_vv1, i_vv2, i_vv3, i_vg, i_wct, i_wln, i_sd0, i_sd1, i_sd2, i_sd3, i_rln, i_rtx, i_rpl, i_rtk, i_cnv, i_pts, i_cik, i_und⟩, kScL_S10, kScP_S10, kScU_S10, kScW_S10⟩ hP hD d_Sums_act_119
  by_cases h_18_1 : x1.toInt = 18
  · refine lv_tableIn (off := 112) (tgt := 120) hx hb d_Sums_act_8 (by omega) (by omega) (by rw [show x1.toInt = 18 from h_18_1]; decide +kernel) (by decide) ?_
    refine lv_aload_n hx hb d_Sums_act_120 rfl (lv_at hl 0 rfl) ?_
    refine jc_ci (w := (fun u => u)) hK hP hD hS hA (va_runV (As := []) (rest := []) F (c_Sums_shift l D T ad S  H.size ⟨i_vst, i_vc0, i_vc1, i_vc2, i_vc3, i_vv0, i_vv1, i_vv2, i_vv3, i_vg, i_wct, i_wln, i_sd0, i_sd1, i_sd2, i_sd3, i_rln, i_rtx, i_rpl, i_rtk, i_cnv, i_pts, i_cik, i_und⟩) (j_cV (k := 0) (C := "PageScribe$Sums") hts k_4_159 k_1_10 k_4_156 k_4_158 k_0_31 (by decide +kernel) ⟨Nat.le_of_ble_eq_true rfl, Nat.le_of_ble_eq_true rfl⟩) (j_preV (q0 := 73) (ci := 8) hK hP hD csc csc_all csc_nd cl_8 (ce_73 _ _ _) (fun _ _ _ _ h => h) (fun _ _ _ => trivial)) rfl rfl hl.1 rfl (lv_room (Nat.le_of_ble_eq_true rfl)) d_Sums_act_121 ⟨Nat.le_of_ble_eq_true rfl, Nat.le_of_ble_eq_true rfl⟩) (fun rv13 S11 H locs hw13 hP hD hS => ?_)
    have hP : va_P D classes (cW T ad S11) H := hP
    have hD : va_D A (cW T ad S11) := hD
    obtain ⟨⟨i_vst, i_vc0, i_vc1, i_vc2, i_vc3, i_vv0, i_vv1, i_vv2, i_vv3, i_vg, i_wct, i_wln, i_sd0, i_sd1, i_sd2, i_sd3, i_rln, i_rtx, i_rpl, i_rtk, i_cnv, i_pts, i_cik, i_und⟩, kpcL_S11, kpcP_S11, kpcU_S11, kpcW_S11⟩ := hw13
    have kScL_S11 : kcL S S11 := kcL_t (show kcL S S from (kcL_r S)) kpcL_S11
    have kScP_S11 : kcP S S11 := kcP_t (show kcP S S from (kcP_r S)) kpcP_S11
    have kScU_S11 : kcU S S11 := kcU_t (show kcU S S from (kcU_r S)) kpcU_S11
    have kScW_S11 : kcW S S11 := kcW_t (show kcW S S from (kcW_r S)) kpcW_S11
    have nxr_length_S11 : (f_xr_length S11).toInt = (f_xr_length S).toInt := congrArg Int32.toInt kpcL_S11
    have nxr_length_S11 : (f_xr_length S11).toInt = (f_xr_length S).toInt := congrArg Int32.toInt kpcP_S11.1
    have nxr_place_S11 : (f_xr_place S11).toInt = (f_xr_place S).toInt := congrArg Int32.toInt kpcP_S11.2.1
    have nxe_underWay_S11 : (f_xe_underWay S11).toInt = (f_xe_underWay S).toInt := congrArg Int32.toInt kpcU_S11
    have nxp_columns_S11 : (f_xp_columns S11).toInt = (f_xp_columns S).toInt := congrArg Int32.toInt kpcW_S11.1
    have nxp_rows_S11 : (f_xp_rows S11).toInt = (f_xp_rows S).toInt := congrArg Int32.toInt kpcW_S11.2
    have rrv13 := zt_rng rv13
    exact j_iret F hr hlocks hK hS S11 ⟨⟨i_vst, i_vc0, i_vc1, i_vc2, i_vc3, i_vv0, i_vv1, i_vv2, i_vv3, i_vg, i_wct, i_wln, i_sd0, i_sd1, i_sd2, i_sd3, i_rln, i_rtx, i_rpl, i_rtk, i_cnv, i_pts, i_cik, i_und⟩, kScL_S11, kScP_S11, kScU_S11, kScW_S11⟩ hP hD d_Sums_act_124
  refine lv_tableOut (tgt := 125) hx hb d_Sums_act_8 (by omega) (by decide) ?_
  refine lv_aload_n hx hb d_Sums_act_125 rfl (lv_at hl 0 rfl) ?_
  refine lv_aload_n hx hb d_Sums_act_126 rfl (lv_at hl 1 rfl) ?_
  refine jc_ci (w := (fun u => u)) hK hP hD hS hA (va_runV (As := [.ref (g_en g op)]) (rest := []) F (c_Sums_combine l D T ad g Bq S op  H.size hi_op ⟨i_vst, i_vc0, i_vc1, i_vc2, i_vc3, i_vv0, i_vv1, i_vv2, i_vv3, i_vg, i_wct, i_wln, i_sd0, i_sd1, i_sd2, i_sd3, i_rln, i_rtx, i_rpl, i_rtk, i_cnv, i_pts, i_cik, i_und⟩) (j_cV (k := 1) (C := "PageScribe$Sums") hts k_4_163 k_1_10 k_4_160 k_4_162 k_0_32 (by decide +kernel) ⟨Nat.le_of_ble_eq_true rfl, Nat.le_of_ble_eq_true rfl⟩) (j_preV (q0 := 73) (ci := 8) hK hP hD csc csc_all csc_nd cl_8 (ce_73 _ _ _) (fun _ _ _ _ h => EC.calling h) (fun U hU hW => EC.at hS hAB hU hW hE)) rfl rfl hl.1 rfl (lv_room (Nat.le_of_ble_eq_true rfl)) d_Sums_act_127 ⟨Nat.le_of_ble_eq_true rfl, Nat.le_of_ble_eq_true rfl⟩) (fun rv14 S12 H locs hw14 hP hD hS => ?_)
  have hP : va_P D classes (cW T ad S12) H := hP
  have hD : va_D A (cW T ad S12) := hD
  obtain ⟨⟨i_vst, i_vc0, i_vc1, i_vc2, i_vc3, i_vv0, i_vv1, i_vv2, i_vv3, i_vg, i_wct, i_wln, i_sd0, i_sd1, i_sd2, i_sd3, i_rln, i_rtx, i_rpl, i_rtk, i_cnv, i_pts, i_cik, i_und⟩, kpcL_S12, kpcP_S12, kpcU_S12, kpcW_S12⟩ := hw14
  have kScL_S12 : kcL S S12 := kcL_t (show kcL S S from (kcL_r S)) kpcL_S12
  have kScP_S12 : kcP S S12 := kcP_t (show kcP S S from (kcP_r S)) kpcP_S12
  have kScU_S12 : kcU S S12 := kcU_t (show kcU S S from (kcU_r S)) kpcU_S12
  have kScW_S12 : kcW S S12 := kcW_t (show kcW S S from (kcW_r S)) kpcW_S12
  have nxr_length_S12 : (f_xr_length S12).toInt = (f_xr_length S).toInt := congrArg Int32.toInt kpcL_S12
  have nxr_length_S12 : (f_xr_length S12).toInt = (f_xr_length S).toInt := congrArg Int32.toInt kpcP_S12.1
  have nxr_place_S12 : (f_xr_place S12).toInt = (f_xr_place S).toInt := congrArg Int32.toInt kpcP_S12.2.1
  have nxe_underWay_S12 : (f_xe_underWay S12).toInt = (f_xe_underWay S).toInt := congrArg Int32.toInt kpcU_S12
  have nxp_columns_S12 : (f_xp_columns S12).toInt = (f_xp_columns S).toInt := congrArg Int32.toInt kpcW_S12.1
  have nxp_rows_S12 : (f_xp_rows S12).toInt = (f_xp_rows S).toInt := congrArg Int32.toInt kpcW_S12.2
  have rrv14 := zt_rng rv14
  exact j_iret F hr hlocks hK hS S12 ⟨⟨i_vst, i_vc0, i_vc1, i_vc2, i_vc3, i_vv0, i_vv1, i_vv2, i_vv3, i_vg, i_wct, i_wln, i_sd0, i_sd1, i_sd2, i_sd3, i_rln, i_rtx, i_rpl, i_rtk, i_cnv, i_pts, i_cik, i_und⟩, kScL_S12, kScP_S12, kScU_S12, kScW_S12⟩ hP hD d_Sums_act_130
