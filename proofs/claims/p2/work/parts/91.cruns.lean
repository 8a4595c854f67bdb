theorem d_Engine_doFound_0 : decode prog_4_method_6_code 0 = .ok (.aload_n 0, 1) := by decide +kernel
theorem d_Engine_doFound_1 : decode prog_4_method_6_code 1 = .ok (.getfield 34, 3) := by decide +kernel
theorem d_Engine_doFound_4 : decode prog_4_method_6_code 4 = .ok (.getfield 80, 3) := by decide +kernel
theorem d_Engine_doFound_7 : decode prog_4_method_6_code 7 = .ok (.getfield 84, 3) := by decide +kernel
theorem k_1_115 : Cond.fieldLink "PageScribe$Engine" 84 "PageScribe$Store" "values" "LPageScribe$Row;" ∈ gw := gw_of (tb_1 (List.mem_of_getElem? (i := 115) (by decide +kernel))) (by decide +kernel)
theorem d_Engine_doFound_10 : decode prog_4_method_6_code 10 = .ok (.astore_n 2, 1) := by decide +kernel
theorem d_Engine_doFound_11 : decode prog_4_method_6_code 11 = .ok (.aload_n 2, 1) := by decide +kernel
theorem d_Engine_doFound_12 : decode prog_4_method_6_code 12 = .ok (.iload_n 1, 1) := by decide +kernel
theorem d_Engine_doFound_13 : decode prog_4_method_6_code 13 = .ok (.invokevirtual 90, 3) := by decide +kernel
theorem d_Engine_doFound_16 : decode prog_4_method_6_code 16 = .ok (.istore_n 3, 1) := by decide +kernel
theorem d_Engine_doFound_17 : decode prog_4_method_6_code 17 = .ok (.aload_n 2, 1) := by decide +kernel
theorem d_Engine_doFound_18 : decode prog_4_method_6_code 18 = .ok (.iload_n 1, 1) := by decide +kernel
theorem d_Engine_doFound_19 : decode prog_4_method_6_code 19 = .ok (.invokevirtual 95, 3) := by decide +kernel
theorem d_Engine_doFound_22 : decode prog_4_method_6_code 22 = .ok (.istore 4, 2) := by decide +kernel
theorem d_Engine_doFound_24 : decode prog_4_method_6_code 24 = .ok (.iload_n 3, 1) := by decide +kernel
theorem d_Engine_doFound_25 : decode prog_4_method_6_code 25 = .ok (.bipush 13, 2) := by decide +kernel
theorem d_Engine_doFound_27 : decode prog_4_method_6_code 27 = .ok (.if_icmp .ne 10, 3) := by decide +kernel
theorem d_Engine_doFound_37 : decode prog_4_method_6_code 37 = .ok (.iload_n 3, 1) := by decide +kernel
theorem d_Engine_doFound_38 : decode prog_4_method_6_code 38 = .ok (.bipush 11, 2) := by decide +kernel
theorem d_Engine_doFound_40 : decode prog_4_method_6_code 40 = .ok (.if_icmp .ne 11, 3) := by decide +kernel
theorem d_Engine_doFound_51 : decode prog_4_method_6_code 51 = .ok (.aload_n 0, 1) := by decide +kernel
theorem d_Engine_doFound_52 : decode prog_4_method_6_code 52 = .ok (.getfield 30, 3) := by decide +kernel
theorem d_Engine_doFound_55 : decode prog_4_method_6_code 55 = .ok (.iload_n 3, 1) := by decide +kernel
theorem d_Engine_doFound_56 : decode prog_4_method_6_code 56 = .ok (.iload 4, 2) := by decide +kernel
theorem d_Engine_doFound_58 : decode prog_4_method_6_code 58 = .ok (.aload_n 2, 1) := by decide +kernel
theorem d_Engine_doFound_59 : decode prog_4_method_6_code 59 = .ok (.iload_n 1, 1) := by decide +kernel
theorem d_Engine_doFound_60 : decode prog_4_method_6_code 60 = .ok (.invokevirtual 105, 3) := by decide +kernel
theorem d_Engine_doFound_63 : decode prog_4_method_6_code 63 = .ok (.invokevirtual 62, 3) := by decide +kernel
theorem d_Engine_doFound_66 : decode prog_4_method_6_code 66 = .ok (.ireturn, 1) := by decide +kernel
theorem d_Engine_doFound_43 : decode prog_4_method_6_code 43 = .ok (.aload_n 0, 1) := by decide +kernel
theorem d_Engine_doFound_44 : decode prog_4_method_6_code 44 = .ok (.iload_n 3, 1) := by decide +kernel
theorem d_Engine_doFound_45 : decode prog_4_method_6_code 45 = .ok (.iload 4, 2) := by decide +kernel
theorem d_Engine_doFound_47 : decode prog_4_method_6_code 47 = .ok (.invokevirtual 101, 3) := by decide +kernel
theorem k_5_215 : Cond.code ⟨"PageScribe$Engine", "doUnderWay", "(II)I"⟩ prog_4_method_7_code 4 (some .int) ∈ gw := gw_of (tb_5 (List.mem_of_getElem? (i := 215) (by decide +kernel))) (by decide +kernel)
theorem k_5_212 : Cond.methodLink "PageScribe$Engine" 101 ⟨"PageScribe$Engine", "doUnderWay", "(II)I"⟩ ∈ gw := gw_of (tb_5 (List.mem_of_getElem? (i := 212) (by decide +kernel))) (by decide +kernel)
theorem k_5_214 : Cond.instanceMethod ⟨"PageScribe$Engine", "doUnderWay", "(II)I"⟩ ∈ gw := gw_of (tb_5 (List.mem_of_getElem? (i := 214) (by decide +kernel))) (by decide +kernel)
theorem k_0_69 : Cond.selects "PageScribe$Engine" ⟨"PageScribe$Engine", "doUnderWay", "(II)I"⟩ ⟨"PageScribe$Engine", "doUnderWay", "(II)I"⟩ ∈ gw := gw_of (tb_0 (List.mem_of_getElem? (i := 69) (by decide +kernel))) (by decide +kernel)
theorem d_Engine_doFound_50 : decode prog_4_method_6_code 50 = .ok (.ireturn, 1) := by decide +kernel
theorem d_Engine_doFound_30 : decode prog_4_method_6_code 30 = .ok (.aload_n 0, 1) := by decide +kernel
theorem d_Engine_doFound_31 : decode prog_4_method_6_code 31 = .ok (.iload 4, 2) := by decide +kernel
theorem d_Engine_doFound_33 : decode prog_4_method_6_code 33 = .ok (.invokevirtual 98, 3) := by decide +kernel
theorem k_5_203 : Cond.code ⟨"PageScribe$Engine", "runArray", "(I)I"⟩ prog_4_method_8_code 7 (some .int) ∈ gw := gw_of (tb_5 (List.mem_of_getElem? (i := 203) (by decide +kernel))) (by decide +kernel)
theorem k_5_200 : Cond.methodLink "PageScribe$Engine" 98 ⟨"PageScribe$Engine", "runArray", "(I)I"⟩ ∈ gw := gw_of (tb_5 (List.mem_of_getElem? (i := 200) (by decide +kernel))) (by decide +kernel)
theorem k_5_202 : Cond.instanceMethod ⟨"PageScribe$Engine", "runArray", "(I)I"⟩ ∈ gw := gw_of (tb_5 (List.mem_of_getElem? (i := 202) (by decide +kernel))) (by decide +kernel)
theorem k_0_68 : Cond.selects "PageScribe$Engine" ⟨"PageScribe$Engine", "runArray", "(I)I"⟩ ⟨"PageScribe$Engine", "runArray", "(I)I"⟩ ∈ gw := gw_of (tb_0 (List.mem_of_getElem? (i := 68) (by decide +kernel))) (by decide +kernel)
theorem d_Engine_doFound_36 : decode prog_4_method_6_code 36 = .ok (.ireturn, 1) := by decide +kernel
set_option maxHeartbeats 4000000 in
set_option maxRecDepth 100000 in
theorem c_Engine_doFound (l : Launch) (D : va_G) (T : Nat → ClassId) (ad : Nat → Nat) (g : GE) (Bq : Nat → Prop) (d : Nat) (hdv : ∀ d2, d2 < d → DVP l D T ad g Bq d2) (S : CS) (p0 : Int32) (sz : Nat)  (hI : CIv S) (hd : 8 ≤ (f_xe_underWay S).toInt + d) : Met l ⟨"PageScribe$Engine", "doFound", "(I)I"⟩ (wy ⟨"PageScribe$Engine", "doFound", "(I)I"⟩ prog_4_method_6_code 5 (some .int)) ({ frames := 7 + 10 * d, cells := 0, slots := 0, locals := 70 * (7 + 10 * d) }) (va_Pc [.ref (ad 72), .int p0] (Pw D T (cW T ad S) sz (EC g Bq ad))) (va_Qi (fun (r : Int32) (u : CS) => CIv u ∧ kcL S u ∧ kcP S u ∧ kcU S u ∧ kcW S u) (fun u t => Bw D T (va_A (cW T ad S) sz) (cW T ad u) t) (va_A (cW T ad S) sz)) 0 0 (va_A (cW T ad S) sz) := by
  refine j_met (y := ⟨"PageScribe$Engine", "doFound", "(I)I"⟩) (b := prog_4_method_6_code) (n := 5) (ret := (some .int)) (av := [.ref (ad 72), .int p0]) (Qc := fun A => va_Qi (fun (r : Int32) (u : CS) => CIv u ∧ kcL S u ∧ kcP S u ∧ kcU S u ∧ kcW S u) (fun u t => Bw D T A (cW T ad u) t) A) (by decide +kernel) (Nat.le_of_ble_eq_true rfl) (fun p e s m args below meth c A ls F hr hlocks hnm hK hP hD hS hA hN hE hl => ?_)
  obtain ⟨hx, hb, hml, hown, hts⟩ := id F
  have hl : lv_has ls 5 [(0, .ref (ad 72)), (1, .int p0)] := hl
  obtain ⟨i_vst, i_vc0, i_vc1, i_vc2, i_vc3, i_vv0, i_vv1, i_vv2, i_vv3, i_vg, i_wct, i_wln, i_sd0, i_sd1, i_sd2, i_sd3, i_rln, i_rtx, i_rpl, i_rtk, i_cnv, i_pts, i_cik, i_und⟩ := id hI
  have hAB : ∀ q, A q → Bq q := EC.ab hE hN
  have hEV := hE.1.narrow hAB
  have rp0 := zt_rng p0
  refine lv_aload_n hx hb d_Engine_doFound_0 rfl (lv_at hl 0 rfl) ?_
  refine va_get (D := D) (ci := 7) (v := .ref (ad 8)) (C := "PageScribe$Engine") (T := F_Engine) (N := 11) hx hb hts i_Engine hown hK hP 72 (ce_72 _ _ _) cl_7 1 (by decide) (hts _ k_2_23) (fun _ h9 => h9) rfl d_Engine_doFound_1 ?_
  refine va_get (D := D) (ci := 2) (v := .ref (ad 12)) (C := "PageScribe$Memory") (T := F_Memory) (N := 8) hx hb hts i_Memory hown hK hP 8 (ce_8 _ _ _) cl_2 1 (by decide) (hts _ k_1_132) (fun _ h9 => h9) rfl d_Engine_doFound_4 ?_
  refine va_get (D := D) (ci := 3) (v := .ref (ad 20)) (C := "PageScribe$Store") (T := F_Store) (N := 5) hx hb hts i_Store hown hK hP 12 (ce_12 _ _ _) cl_3 4 (by decide) (hts _ k_1_115) (fun _ h9 => h9) rfl d_Engine_doFound_7 ?_
  refine lv_astore_n (lv' := [(2, .ref (ad 20)), (0, .ref (ad 72)), (1, .int p0)]) hx hb d_Engine_doFound_10 rfl hl (by decide) rfl (fun ls hl => ?_)
  refine lv_aload_n hx hb d_Engine_doFound_11 rfl (lv_at hl 0 rfl) ?_
  refine lv_iload_n hx hb d_Engine_doFound_12 rfl (lv_at hl 2 rfl) ?_
  refine jc_ci (w := (fun _ => S)) hK hP hD hS hA (va_runV (As := [.int p0]) (rest := []) F (c_Row_kindAt_20 l D T ad S p0  s.heap.size) (j_cV (k := 1) (C := "PageScribe$Row") hts k_2_126 k_1_2 k_5_208 k_2_125 k_8_173 (by decide +kernel) ⟨by dsimp only; omega, by dsimp only; omega⟩) (j_preV (q0 := 20) (ci := 4) hK hP hD csc csc_all csc_nd cl_4 (ce_20 _ _ _) (fun _ _ _ _ h => h) (fun _ _ _ => trivial)) rfl rfl hl.1 rfl (lv_room (Nat.le_of_ble_eq_true rfl)) d_Engine_doFound_13 ⟨Nat.le_of_ble_eq_true rfl, Nat.le_of_ble_eq_true rfl⟩) (fun rv1 u1 H locs hw1 hP hD hS => ?_)
  have hP : va_P D classes (cW T ad S) H := hP
  have hD : va_D A (cW T ad S) := hD
  have rrv1 := zt_rng rv1
  refine lv_istore_n (lv' := [(3, .int rv1), (2, .ref (ad 20)), (0, .ref (ad 72)), (1, .int p0)]) hx hb d_Engine_doFound_16 rfl hl (by decide) rfl (fun ls hl => ?_)
  refine lv_aload_n hx hb d_Engine_doFound_17 rfl (lv_at hl 1 rfl) ?_
  refine lv_iload_n hx hb d_Engine_doFound_18 rfl (lv_at hl 3 rfl) ?_
  refine jc_ci (w := (fun _ => S)) hK hP hD hS hA (va_runV (As := [.int p0]) (rest := []) F (c_Row_numberAt_20 l D T ad S p0  H.size) (j_cV (k := 1) (C := "PageScribe$Row") hts k_2_136 k_1_2 k_5_209 k_2_135 k_8_176 (by decide +kernel) ⟨by dsimp only; omega, by dsimp only; omega⟩) (j_preV (q0 := 20) (ci := 4) hK hP hD csc csc_all csc_nd cl_4 (ce_20 _ _ _) (fun _ _ _ _ h => h) (fun _ _ _ => trivial)) rfl rfl hl.1 rfl (lv_room (Nat.le_of_ble_eq_true rfl)) d_Engine_doFound_19 ⟨Nat.le_of_ble_eq_true rfl, Nat.le_of_ble_eq_true rfl⟩) (fun rv2 u2 H locs hw2 hP hD hS => ?_)
  have hP : va_P D classes (cW T ad S) H := hP
  have hD : va_D A (cW T ad S) := hD
  have rrv2 := zt_rng rv2
  refine lv_istore (lv' := [(4, .int rv2), (3, .int rv1), (2, .ref (ad 20)), (0, .ref (ad 72)), (1, .int p0)]) hx hb d_Engine_doFound_22 hl (by decide) rfl (fun ls hl => ?_)
  refine lv_iload_n hx hb d_Engine_doFound_24 rfl (lv_at hl 1 rfl) ?_
  refine lv_bipush (v := 13) hx hb d_Engine_doFound_25 (by decide) ?_
  refine lv_icmp_ne (tgt := 37) hx hb d_Engine_doFound_27 (by decide) (fun c27_1 => ?_) (fun c27_1 => ?_)
  · first | have fc27_1 : rv1.toInt < 13 := (by have := zt_ne (show rv1.toInt = _ from rfl) tI_13 c27_1; omega) | have fc27_1 : 13 < rv1.toInt := (by have := zt_ne (show rv1.toInt = _ from rfl) tI_13 c27_1; omega) | skip
    refine lv_iload_n hx hb d_Engine_doFound_37 rfl (lv_at hl 1 rfl) ?_
    refine lv_bipush (v := 11) hx hb d_Engine_doFound_38 (by decide) ?_
    refine lv_icmp_ne (tgt := 51) hx hb d_Engine_doFound_40 (by decide) (fun c40_1 => ?_) (fun c40_1 => ?_)
    · first | have fc40_1 : rv1.toInt < 11 := (by have := zt_ne (show rv1.toInt = _ from rfl) tI_11 c40_1; omega) | have fc40_1 : 11 < rv1.toInt := (by have := zt_ne (show rv1.toInt = _ from rfl) tI_11 c40_1; omega) | skip
      refine lv_aload_n hx hb d_Engine_doFound_51 rfl (lv_at hl 3 rfl) ?_
      refine va_get (D := D) (ci := 7) (v := .ref (ad 1)) (C := "PageScribe$Engine") (T := F_Engine) (N := 11) hx hb hts i_Engine hown hK hP 72 (ce_72 _ _ _) cl_7 0 (by decide) (hts _ k_2_22) (fun _ h9 => h9) rfl d_Engine_doFound_52 ?_
      refine lv_iload_n hx hb d_Engine_doFound_55 rfl (lv_at hl 1 rfl) ?_
      refine lv_iload hx hb d_Engine_doFound_56 (lv_at hl 0 rfl) ?_
      refine lv_aload_n hx hb d_Engine_doFound_58 rfl (lv_at hl 2 rfl) ?_
      refine lv_iload_n hx hb d_Engine_doFound_59 rfl (lv_at hl 4 rfl) ?_
      refine jc_cd (w := (fun _ => S)) hK hP hD hS hA (va_runV (As := [.int p0]) (rest := [.int rv2, .int rv1, .ref (ad 1)]) F (c_Row_realAt_20 l D T ad S p0  H.size ⟨i_vst, i_vc0, i_vc1, i_vc2, i_vc3, i_vv0, i_vv1, i_vv2, i_vv3, i_vg, i_wct, i_wln, i_sd0, i_sd1, i_sd2, i_sd3, i_rln, i_rtx, i_rpl, i_rtk, i_cnv, i_pts, i_cik, i_und⟩) (j_cV (k := 1) (C := "PageScribe$Row") hts k_3_104 k_1_2 k_5_210 k_3_100 k_3_101 (by decide +kernel) ⟨by dsimp only; omega, by dsimp only; omega⟩) (j_preV (q0 := 20) (ci := 4) hK hP hD csc csc_all csc_nd cl_4 (ce_20 _ _ _) (fun _ _ _ _ h => h) (fun _ _ _ => trivial)) rfl rfl hl.1 rfl (lv_room (Nat.le_of_ble_eq_true rfl)) d_Engine_doFound_60 ⟨Nat.le_of_ble_eq_true rfl, Nat.le_of_ble_eq_true rfl⟩) (fun rv3 u3 H locs hw3 hP hD hS => ?_)
      have hP : va_P D classes (cW T ad S) H := hP
      have hD : va_D A (cW T ad S) := hD
      have qhw3 : dB rv3 := hw3
      refine jc_ci (w := (fun u => u)) hK hP hD hS hA (va_runU (As := [.int rv1, .int rv2, .double rv3]) (rest := []) F (c_Row_push l D T ad S rv1 rv2 rv3  H.size ⟨i_vst, i_vc0, i_vc1, i_vc2, i_vc3, i_vv0, i_vv1, i_vv2, i_vv3, i_vg, i_wct, i_wln, i_sd0, i_sd1, i_sd2, i_sd3, i_rln, i_rtx, i_rpl, i_rtk, i_cnv, i_pts, i_cik, i_und⟩ (show dB rv3 by omega)) (j_cU (k := 3) (C := "PageScribe$Stack") (owner := "PageScribe$Row") (x := ⟨"PageScribe$Stack", "push", "(IID)I"⟩) hts k_2_104 k_3_172 k_2_100 k_2_102 k_2_103 k_1_2 rfl (by decide +kernel) ⟨by dsimp only; omega, by dsimp only; omega⟩) (j_preV (q0 := 1) (ci := 0) hK hP hD csc csc_all csc_nd cl_0 (ce_1 _ _ _) (fun _ _ _ _ h => h) (fun _ _ _ => trivial)) rfl rfl hl.1 rfl (lv_room (Nat.le_of_ble_eq_true rfl)) d_Engine_doFound_63 ⟨Nat.le_of_ble_eq_true rfl, Nat.le_of_ble_eq_true rfl⟩) (fun rv4 S1 H locs hw4 hP hD hS => ?_)
      have hP : va_P D classes (cW T ad S1) H := hP
      have hD : va_D A (cW T ad S1) := hD
      obtain ⟨⟨i_vst, i_vc0, i_vc1, i_vc2, i_vc3, i_vv0, i_vv1, i_vv2, i_vv3, i_vg, i_wct, i_wln, i_sd0, i_sd1, i_sd2, i_sd3, i_rln, i_rtx, i_rpl, i_rtk, i_cnv, i_pts, i_cik, i_und⟩, kpcL_S1, kpcP_S1, kpcU_S1, kpcW_S1⟩ := hw4
      have kScL_S1 : kcL S S1 := kcL_t (show kcL S S from (kcL_r S)) kpcL_S1
      have kScP_S1 : kcP S S1 := kcP_t (show kcP S S from (kcP_r S)) kpcP_S1
      have kScU_S1 : kcU S S1 := kcU_t (show kcU S S from (kcU_r S)) kpcU_S1
      have kScW_S1 : kcW S S1 := kcW_t (show kcW S S from (kcW_r S)) kpcW_S1
      have nxr_length_S1 : (f_xr_length S1).toInt = (f_xr_length S).toInt := congrArg Int32.toInt kpcL_S1
      have nxr_length_S1 : (f_xr_length S1).toInt = (f_xr_length S).toInt := congrArg Int32.toInt kpcP_S1.1
      have nxr_place_S1 : (f_xr_place S1).toInt = (f_xr_place S).toInt := congrArg Int32.toInt kpcP_S1.2.1
      have nxe_underWay_S1 : (f_xe_underWay S1).toInt = (f_xe_underWay S).toInt := congrArg Int32.toInt kpcU_S1
      have nxp_columns_S1 : (f_xp_columns S1).toInt = (f_xp_columns S).toInt := congrArg Int32.toInt kpcW_S1.1
      have nxp_rows_S1 : (f_xp_rows S1).toInt = (f_xp_rows S).toInt := congrArg Int32.toInt kpcW_S1.2
      have rrv4 := zt_rng rv4
      exact j_iret F hr hlocks hK hS S1 ⟨⟨i_vst, i_vc0, i_vc1, i_vc2, i_vc3, i_vv0, i_vv1, i_vv2, i_vv3, i_vg, i_wct, i_wln, i_sd0, i_sd1, i_sd2, i_sd3, i_rln, i_rtx, i_rpl, i_rtk, i_cnv, i_pts, i_cik, i_und⟩, kScL_S1, kScP_S1, kScU_S1, kScW_S1⟩ hP hD d_Engine_doFound_66
    · have fc40_1 : rv1.toInt = 11 := zt_eq (show rv1.toInt = _ from rfl) tI_11 c40_1
      refine lv_aload_n hx hb d_Engine_doFound_43 rfl (lv_at hl 3 rfl) ?_
      refine lv_iload_n hx hb d_Engine_doFound_44 rfl (lv_at hl 1 rfl) ?_
      refine lv_iload hx hb d_Engine_doFound_45 (lv_at hl 0 rfl) ?_
      refine jc_ci (w := (fun u => u)) hK hP hD hS hA (va_runV (As := [.int rv1, .int rv2]) (rest := []) F (c_Engine_doUnderWay l D T ad g Bq d hdv S rv1 rv2  H.size ⟨i_vst, i_vc0, i_vc1, i_vc2, i_vc3, i_vv0, i_vv1, i_vv2, i_vv3, i_vg, i_wct, i_wln, i_sd0, i_sd1, i_sd2, i_sd3, i_rln, i_rtx, i_rpl, i_rtk, i_cnv, i_pts, i_cik, i_und⟩ (show 8 ≤ (f_xe_underWay S).toInt + d by omega)) (j_cV (k := 2) (C := "PageScribe$Engine") hts k_5_215 k_1_9 k_5_212 k_5_214 k_0_69 (by decide +kernel) ⟨by dsimp only; omega, by dsimp only; omega⟩) (j_preV (q0 := 72) (ci := 7) hK hP hD csc csc_all csc_nd cl_7 (ce_72 _ _ _) (fun _ _ _ _ h => EC.calling h) (fun U hU hW => EC.at hS hAB hU hW hE)) rfl rfl hl.1 rfl (lv_room (Nat.le_of_ble_eq_true rfl)) d_Engine_doFound_47 ⟨Nat.le_of_ble_eq_true rfl, Nat.le_of_ble_eq_true rfl⟩) (fun rv5 S2 H locs hw5 hP hD hS => ?_)
      have hP : va_P D classes (cW T ad S2) H := hP
      have hD : va_D A (cW T ad S2) := hD
      obtain ⟨⟨i_vst, i_vc0, i_vc1, i_vc2, i_vc3, i_vv0, i_vv1, i_vv2, i_vv3, i_vg, i_wct, i_wln, i_sd0, i_sd1, i_sd2, i_sd3, i_rln, i_rtx, i_rpl, i_rtk, i_cnv, i_pts, i_cik, i_und⟩, kpcL_S2, kpcP_S2, kpcU_S2, kpcW_S2⟩ := hw5
      have kScL_S2 : kcL S S2 := kcL_t (show kcL S S from (kcL_r S)) kpcL_S2
      have kScP_S2 : kcP S S2 := kcP_t (show kcP S S from (kcP_r S)) kpcP_S2
      have kScU_S2 : kcU S S2 := kcU_t (show kcU S S from (kcU_r S)) kpcU_S2
      have kScW_S2 : kcW S S2 := kcW_t (show kcW S S from (kcW_r S)) kpcW_S2
      have nxr_length_S2 : (f_xr_length S2).toInt = (f_xr_length S).toInt := congrArg Int32.toInt kpcL_S2
      have nxr_length_S2 : (f_xr_length S2).toInt = (f_xr_length S).toInt := congrArg Int32.toInt kpcP_S2.1
      have nxr_place_S2 : (f_xr_place S2).toInt = (f_xr_place S).toInt := congrArg Int32.toInt kpcP_S2.2.1
      have nxe_underWay_S2 : (f_xe_underWay S2).toInt = (f_xe_underWay S).toInt := congrArg Int32.toInt kpcU_S2
      have nxp_columns_S2 : (f_xp_columns S2).toInt = (f_xp_columns S).toInt := congrArg Int32.toInt kpcW_S2.1
      have nxp_rows_S2 : (f_xp_rows S2).toInt = (f_xp_rows S).toInt := congrArg Int32.toInt kpcW_S2.2
      have rrv5 := zt_rng rv5
      exact j_iret F hr hlocks hK hS S2 ⟨⟨i_vst, i_vc0, i_vc1, i_vc2, i_vc3, i_vv0, i_vv1, i_vv2, i_vv3, i_vg, i_wct, i_wln, i_sd0, i_sd1, i_sd2, i_sd3, i_rln, i_rtx, i_rpl, i_rtk, i_cnv, i_pts, i_cik, i_und⟩, kScL_S2, kScP_S2, kScU_S2, kScW_S2⟩ hP hD d_Engine_doFound_50
  · have fc27_1 : rv1.toInt = 13 := zt_eq (show rv1.toInt = _ from rfl) tI_13 c27_1
    refine lv_aload_n hx hb d_Engine_doFound_30 rfl (lv_at hl 3 rfl) ?_
    refine lv_iload hx hb d_Engine_doFound_31 (lv_at hl 0 rfl) ?_
    refine jc_ci (w := (fun u => u)) hK hP hD hS hA (va_runV (As := [.int rv2]) (rest := []) F (c_Engine_runArray l D T ad g Bq d hdv S rv2  H.size ⟨i_vst, i_vc0, i_vc1, i_vc2, i_vc3, i_vv0, i_vv1, i_vv2, i_vv3, i_vg, i_wct, i_wln, i_sd0, i_sd1, i_sd2, i_sd3, i_rln, i_rtx, i_rpl, i_rtk, i_cnv, i_pts, i_cik, i_und⟩ (show 8 ≤ (f_xe_underWay S).toInt + d by omega)) (j_cV (k := 1) (C := "PageScribe$Engine") hts k_5_203 k_1_9 k_5_200 k_5_202 k_0_68 (by decide +kernel) ⟨by dsimp only; omega, by dsimp only; omega⟩) (j_preV (q0 := 72) (ci := 7) hK hP hD csc csc_all csc_nd cl_7 (ce_72 _ _ _) (fun _ _ _ _ h => EC.calling h) (fun U hU hW => EC.at hS hAB hU hW hE)) rfl rfl hl.1 rfl (lv_room (Nat.le_of_ble_eq_true rfl)) d_Engine_doFound_33 ⟨Nat.le_of_ble_eq_true rfl, Nat.le_of_ble_eq_true rfl⟩) (fun rv6 S3 H locs hw6 hP hD hS => ?_)
    have hP : va_P D classes (cW T ad S3) H := hP
    have hD : va_D A (cW T ad S3) := hD
    obtain ⟨⟨i_vst, i_vc0, i_vc1, i_vc2, i_vc3, i_vv0, i_vv1, i_vv2, i_vv3, i_vg, i_wct, i_wln, i_sd0, i_sd1, i_sd2, i_sd3, i_rln, i_rtx, i_rpl, i_rtk, i_cnv, i_pts, i_cik, i_und⟩, kpcL_S3, kpcP_S3, kpcU_S3, kpcW_S3⟩ := hw6
    have kScL_S3 : kcL S S3 := kcL_t (show kcL S S from (kcL_r S)) kpcL_S3
    have kScP_S3 : kcP S S3 := kcP_t (show kcP S S from (kcP_r S)) kpcP_S3
    have kScU_S3 : kcU S S3 := kcU_t (show kcU S S from (kcU_r S)) kpcU_S3
    have kScW_S3 : kcW S S3 := kcW_t (show kcW S S from (kcW_r S)) kpcW_S3
    have nxr_length_S3 : (f_xr_length S3).toInt = (f_xr_length S).toInt := congrArg Int32.toInt kpcL_S3
    have nxr_length_S3 : (f_xr_length S3).toInt = (f_xr_length S).toInt := congrArg Int32.toInt kpcP_S3.1
    have nxr_place_S3 : (f_xr_place S3).toInt = (f_xr_place S).toInt := congrArg Int32.toInt kpcP_S3.2.1
    have nxe_underWay_S3 : (f_xe_underWay S3).toInt = (f_xe_underWay S).toInt := congrArg Int32.toInt kpcU_S3
    have nxp_columns_S3 : (f_xp_columns S3).toInt = (f_xp_columns S).toInt := congrArg Int32.toInt kpcW_S3.1
    have nxp_rows_S3 : (f_xp_rows S3).toInt = (f_xp_rows S).toInt := congrArg Int32.toInt kpcW_S3.2
    have rrv6 := zt_rng rv6
    exact j_iret F hr hlocks hK hS S3 ⟨⟨i_vst, i_vc0, i_vc1, i_vc2, i_vc3, i_vv0, i_vv1, i_vv2, i_vv3, i_vg, i_wct, i_wln, i_sd0, i_sd1, i_sd2, i_sd3, i_rln, i_rtx, i_rpl, i_rtk, i_cnv, i_pts, i_cik, i_und⟩, kScL_S3, kScP_S3, kScU_S3, kScW_S3⟩ hP hD d_Engine_doFound_36
theorem d_Engine_execute_0 : decode prog_4_method_11_code 0 = .ok (.aload_n 0, 1) := by decide +kernel
theorem d_Engine_execute_1 : decode prog_4_method_11_code 1 = .ok (.getfield 30, 3) := by decide +kernel
theorem d_Engine_execute_4 : decode prog_4_method_11_code 4 = .ok (.iconst 0, 1) := by decide +kernel
theorem d_Engine_execute_5 : decode prog_4_method_11_code 5 = .ok (.invokevirtual 212, 3) := by decide +kernel
theorem k_5_196 : Cond.methodLink "PageScribe$Engine" 212 ⟨"PageScribe$Stack", "kindDown", "(I)I"⟩ ∈ gw := gw_of (tb_5 (List.mem_of_getElem? (i := 196) (by decide +kernel))) (by decide +kernel)
theorem d_Engine_execute_8 : decode prog_4_method_11_code 8 = .ok (.istore_n 1, 1) := by decide +kernel
theorem d_Engine_execute_9 : decode prog_4_method_11_code 9 = .ok (.aload_n 0, 1) := by decide +kernel
theorem d_Engine_execute_10 : decode prog_4_method_11_code 10 = .ok (.getfield 30, 3) := by decide +kernel
theorem d_Engine_execute_13 : decode prog_4_method_11_code 13 = .ok (.iconst 0, 1) := by decide +kernel
theorem d_Engine_execute_14 : decode prog_4_method_11_code 14 = .ok (.invokevirtual 215, 3) := by decide +kernel
theorem k_5_197 : Cond.methodLink "PageScribe$Engine" 215 ⟨"PageScribe$Stack", "numberDown", "(I)I"⟩ ∈ gw := gw_of (tb_5 (List.mem_of_getElem? (i := 197) (by decide +kernel))) (by decide +kernel)
theorem d_Engine_execute_17 : decode prog_4_method_11_code 17 = .ok (.istore_n 2, 1) := by decide +kernel
theorem d_Engine_execute_18 : decode prog_4_method_11_code 18 = .ok (.aload_n 0, 1) := by decide +kernel
theorem d_Engine_execute_19 : decode prog_4_method_11_code 19 = .ok (.getfield 30, 3) := by decide +kernel
theorem d_Engine_execute_22 : decode prog_4_method_11_code 22 = .ok (.iconst 0, 1) := by decide +kernel
theorem d_Engine_execute_23 : decode prog_4_method_11_code 23 = .ok (.invokevirtual 218, 3) := by decide +kernel
theorem k_5_198 : Cond.methodLink "PageScribe$Engine" 218 ⟨"PageScribe$Stack", "realDown", "(I)D"⟩ ∈ gw := gw_of (tb_5 (List.mem_of_getElem? (i := 198) (by decide +kernel))) (by decide +kernel)
theorem d_Engine_execute_26 : decode prog_4_method_11_code 26 = .ok (.dstore_n 3, 1) := by decide +kernel
theorem d_Engine_execute_27 : decode prog_4_method_11_code 27 = .ok (.aload_n 0, 1) := by decide +kernel
theorem d_Engine_execute_28 : decode prog_4_method_11_code 28 = .ok (.getfield 30, 3) := by decide +kernel
theorem d_Engine_execute_31 : decode prog_4_method_11_code 31 = .ok (.iconst 1, 1) := by decide +kernel
theorem d_Engine_execute_32 : decode prog_4_method_11_code 32 = .ok (.invokevirtual 221, 3) := by decide +kernel
theorem k_5_199 : Cond.methodLink "PageScribe$Engine" 221 ⟨"PageScribe$Stack", "drop", "(I)V"⟩ ∈ gw := gw_of (tb_5 (List.mem_of_getElem? (i := 199) (by decide +kernel))) (by decide +kernel)
theorem d_Engine_execute_35 : decode prog_4_method_11_code 35 = .ok (.iload_n 1, 1) := by decide +kernel
theorem d_Engine_execute_36 : decode prog_4_method_11_code 36 = .ok (.bipush 13, 2) := by decide +kernel
theorem d_Engine_execute_38 : decode prog_4_method_11_code 38 = .ok (.if_icmp .ne 9, 3) := by decide +kernel
theorem d_Engine_execute_47 : decode prog_4_method_11_code 47 = .ok (.iload_n 1, 1) := by decide +kernel
theorem d_Engine_execute_48 : decode prog_4_method_11_code 48 = .ok (.bipush 7, 2) := by decide +kernel
theorem d_Engine_execute_50 : decode prog_4_method_11_code 50 = .ok (.iand, 1) := by decide +kernel
theorem d_Engine_execute_51 : decode prog_4_method_11_code 51 = .ok (.iconst 3, 1) := by decide +kernel
theorem d_Engine_execute_52 : decode prog_4_method_11_code 52 = .ok (.if_icmp .ne 12, 3) := by decide +kernel
theorem d_Engine_execute_64 : decode prog_4_method_11_code 64 = .ok (.aload_n 0, 1) := by decide +kernel
theorem d_Engine_execute_65 : decode prog_4_method_11_code 65 = .ok (.iload_n 1, 1) := by decide +kernel
theorem d_Engine_execute_66 : decode prog_4_method_11_code 66 = .ok (.iload_n 2, 1) := by decide +kernel
theorem d_Engine_execute_67 : decode prog_4_method_11_code 67 = .ok (.dload_n 3, 1) := by decide +kernel
theorem d_Engine_execute_68 : decode prog_4_method_11_code 68 = .ok (.invokevirtual 109, 3) := by decide +kernel
theorem d_Engine_execute_71 : decode prog_4_method_11_code 71 = .ok (.ireturn, 1) := by decide +kernel
theorem d_Engine_execute_55 : decode prog_4_method_11_code 55 = .ok (.aload_n 0, 1) := by decide +kernel
theorem d_Engine_execute_56 : decode prog_4_method_11_code 56 = .ok (.iload_n 1, 1) := by decide +kernel
theorem d_Engine_execute_57 : decode prog_4_method_11_code 57 = .ok (.iload_n 2, 1) := by decide +kernel
theorem d_Engine_execute_58 : decode prog_4_method_11_code 58 = .ok (.invokevirtual 101, 3) := by decide +kernel
theorem d_Engine_execute_61 : decode prog_4_method_11_code 61 = .ok (.goto 10, 3) := by decide +kernel
theorem d_Engine_execute_41 : decode prog_4_method_11_code 41 = .ok (.aload_n 0, 1) := by decide +kernel
theorem d_Engine_execute_42 : decode prog_4_method_11_code 42 = .ok (.iload_n 2, 1) := by decide +kernel
theorem d_Engine_execute_43 : decode prog_4_method_11_code 43 = .ok (.invokevirtual 98, 3) := by decide +kernel
theorem d_Engine_execute_46 : decode prog_4_method_11_code 46 = .ok (.ireturn, 1) := by decide +kernel
set_option maxHeartbeats 4000000 in
set_option maxRecDepth 100000 in
theorem c_Engine_execute (l : Launch) (D : va_G) (T : Nat → ClassId) (ad : Nat → Nat) (g : GE) (Bq : Nat → Prop) (d : Nat) (hdv : ∀ d2, d2 < d → DVP l D T ad g Bq d2) (S : CS)  (sz : Nat)  (hI : CIv S) (hd : 8 ≤ (f_xe_underWay S).toInt + d) : Met l ⟨"PageScribe$Engine", "execute", "()I"⟩ (wy ⟨"PageScribe$Engine", "execute", "()I"⟩ prog_4_method_11_code 5 (some .int)) ({ frames := 7 + 10 * d, cells := 0, slots := 0, locals := 70 * (7 + 10 * d) }) (va_Pc [.ref (ad 72)] (Pw D T (cW T ad S) sz (EC g Bq ad))) (va_Qi (fun (r : Int32) (u : CS) => CIv u ∧ kcL S u ∧ kcP S u ∧ kcU S u ∧ kcW S u) (fun u t => Bw D T (va_A (cW T ad S) sz) (cW T ad u) t) (va_A (cW T ad S) sz)) 0 0 (va_A (cW T ad S) sz) := by
  refine j_met (y := ⟨"PageScribe$Engine", "execute", "()I"⟩) (b := prog_4_method_11_code) (n := 5) (ret := (some .int)) (av := [.ref (ad 72)]) (Qc := fun A => va_Qi (fun (r : Int32) (u : CS) => CIv u ∧ kcL S u ∧ kcP S u ∧ kcU S u ∧ kcW S u) (fun u t => Bw D T A (cW T ad u) t) A) (by decide +kernel) (Nat.le_of_ble_eq_true rfl) (fun p e s m args below meth c A ls F hr hlocks hnm hK hP hD hS hA hN hE hl => ?_)
  obtain ⟨hx, hb, hml, hown, hts⟩ := id F
  have hl : lv_has ls 5 [(0, .ref (ad 72))] := hl
  obtain ⟨i_vst, i_vc0, i_vc1, i_vc2, i_vc3, i_vv0, i_vv1, i_vv2, i_vv3, i_vg, i_wct, i_wln, i_sd0, i_sd1, i_sd2, i_sd3, i_rln, i_rtx, i_rpl, i_rtk, i_cnv, i_pts, i_cik, i_und⟩ := id hI
  have hAB : ∀ q, A q → Bq q := EC.ab hE hN
  have hEV := hE.1.narrow hAB
  refine lv_aload_n hx hb d_Engine_execute_0 rfl (lv_at hl 0 rfl) ?_
  refine va_get (D := D) (ci := 7) (v := .ref (ad 1)) (C := "PageScribe$Engine") (T := F_Engine) (N := 11) hx hb hts i_Engine hown hK hP 72 (ce_72 _ _ _) cl_7 0 (by decide) (hts _ k_2_22) (fun _ h9 => h9) rfl d_Engine_execute_1 ?_
  refine lv_iconst (v := 0) hx hb d_Engine_execute_4 (by decide) ?_
  refine jc_ci (w := (fun _ => S)) hK hP hD hS hA (va_runV (As := [.int 0]) (rest := []) F (c_Stack_kindDown l D T ad S (0 : Int32)  s.heap.size) (j_cV (k := 1) (C := "PageScribe$Stack") hts k_2_120 k_1_3 k_5_196 k_2_118 k_2_119 (by decide +kernel) ⟨by dsimp only; omega, by dsimp only; omega⟩) (j_preV (q0 := 1) (ci := 0) hK hP hD csc csc_all csc_nd cl_0 (ce_1 _ _ _) (fun _ _ _ _ h => h) (fun _ _ _ => trivial)) rfl rfl hl.1 rfl (lv_room (Nat.le_of_ble_eq_true rfl)) d_Engine_execute_5 ⟨Nat.le_of_ble_eq_true rfl, Nat.le_of_ble_eq_true rfl⟩) (fun rv1 u1 H locs hw1 hP hD hS => ?_)
  have hP : va_P D classes (cW T ad S) H := hP
  have hD : va_D A (cW T ad S) := hD
  have rrv1 := zt_rng rv1
  refine lv_istore_n (lv' := [(1, .int rv1), (0, .ref (ad 72))]) hx hb d_Engine_execute_8 rfl hl (by decide) rfl (fun ls hl => ?_)
  refine lv_aload_n hx hb d_Engine_execute_9 rfl (lv_at hl 1 rfl) ?_
  refine va_get (D := D) (ci := 7) (v := .ref (ad 1)) (C := "PageScribe$Engine") (T := F_Engine) (N := 11) hx hb hts i_Engine hown hK hP 72 (ce_72 _ _ _) cl_7 0 (by decide) (hts _ k_2_22) (fun _ h9 => h9) rfl d_Engine_execute_10 ?_
  refine lv_iconst (v := 0) hx hb d_Engine_execute_13 (by decide) ?_
  refine jc_ci (w := (fun _ => S)) hK hP hD hS hA (va_runV (As := [.int 0]) (rest := []) F (c_Stack_numberDown l D T ad S (0 : Int32)  H.size) (j_cV (k := 1) (C := "PageScribe$Stack") hts k_2_130 k_1_3 k_5_197 k_2_128 k_2_129 (by decide +kernel) ⟨by dsimp only; omega, by dsimp only; omega⟩) (j_preV (q0 := 1) (ci := 0) hK hP hD csc csc_all csc_nd cl_0 (ce_1 _ _ _) (fun _ _ _ _ h => h) (fun _ _ _ => trivial)) rfl rfl hl.1 rfl (lv_room (Nat.le_of_ble_eq_true rfl)) d_Engine_execute_14 ⟨Nat.le_of_ble_eq_true rfl, Nat.le_of_ble_eq_true rfl⟩) (fun rv2 u2 H locs hw2 hP hD hS => ?_)
  have hP : va_P D classes (cW T ad S) H := hP
  have hD : va_D A (cW T ad S) := hD
  have rrv2 := zt_rng rv2
  refine lv_istore_n (lv' := [(2, .int rv2), (1, .int rv1), (0, .ref (ad 72))]) hx hb d_Engine_execute_17 rfl hl (by decide) rfl (fun ls hl => ?_)
  refine lv_aload_n hx hb d_Engine_execute_18 rfl (lv_at hl 2 rfl) ?_
  refine va_get (D := D) (ci := 7) (v := .ref (ad 1)) (C := "PageScribe$Engine") (T := F_Engine) (N := 11) hx hb hts i_Engine hown hK hP 72 (ce_72 _ _ _) cl_7 0 (by decide) (hts _ k_2_22) (fun _ h9 => h9) rfl d_Engine_execute_19 ?_
  refine lv_iconst (v := 0) hx hb d_Engine_execute_22 (by decide) ?_
  refine jc_cd (w := (fun _ => S)) hK hP hD hS hA (va_runV (As := [.int 0]) (rest := []) F (c_Stack_realDown l D T ad S (0 : Int32)  H.size ⟨i_vst, i_vc0, i_vc1, i_vc2, i_vc3, i_vv0, i_vv1, i_vv2, i_vv3, i_vg, i_wct, i_wln, i_sd0, i_sd1, i_sd2, i_sd3, i_rln, i_rtx, i_rpl, i_rtk, i_cnv, i_pts, i_cik, i_und⟩) (j_cV (k := 1) (C := "PageScribe$Stack") hts k_4_117 k_1_3 k_5_198 k_4_115 k_4_116 (by decide +kernel) ⟨by dsimp only; omega, by dsimp only; omega⟩) (j_preV (q0 := 1) (ci := 0) hK hP hD csc csc_all csc_nd cl_0 (ce_1 _ _ _) (fun _ _ _ _ h => h) (fun _ _ _ => trivial)) rfl rfl hl.1 rfl (lv_room (Nat.le_of_ble_eq_true rfl)) d_Engine_execute_23 ⟨Nat.le_of_ble_eq_true rfl, Nat.le_of_ble_eq_true rfl⟩) (fun rv3 u3 H locs hw3 hP hD hS => ?_)
  have hP : va_P D classes (cW T ad S) H := hP
  have hD : va_D A (cW T ad S) := hD
  have qhw3 : dB rv3 := by simpa only [tI_0] using hw3
  refine lv_dstore_n (lv' := [(3, .double rv3), (2, .int rv2), (1, .int rv1), (0, .ref (ad 72))]) hx hb d_Engine_execute_26 rfl hl (by decide) rfl (fun ls hl => ?_)
  refine lv_aload_n hx hb d_Engine_execute_27 rfl (lv_at hl 3 rfl) ?_
  refine va_get (D := D) (ci := 7) (v := .ref (ad 1)) (C := "PageScribe$Engine") (T := F_Engine) (N := 11) hx hb hts i_Engine hown hK hP 72 (ce_72 _ _ _) cl_7 0 (by decide) (hts _ k_2_22) (fun _ h9 => h9) rfl d_Engine_execute_28 ?_
  refine lv_iconst (v := 1) hx hb d_Engine_execute_31 (by decide) ?_
  refine jc_cv (w := (fun u => u)) hK hP hD hS hA (va_runU (As := [.int 1]) (rest := []) F (c_Row_drop l D T ad S (1 : Int32)  H.size ⟨i_vst, i_vc0, i_vc1, i_vc2, i_vc3, i_vv0, i_vv1, i_vv2, i_vv3, i_vg, i_wct, i_wln, i_sd0, i_sd1, i_sd2, i_sd3, i_rln, i_rtx, i_rpl, i_rtk, i_cnv, i_pts, i_cik, i_und⟩) (j_cU (k := 1) (C := "PageScribe$Stack") (owner := "PageScribe$Row") (x := ⟨"PageScribe$Stack", "drop", "(I)V"⟩) hts k_4_47 k_5_199 k_4_43 k_4_45 k_4_46 k_1_2 rfl (by decide +kernel) ⟨by dsimp only; omega, by dsimp only; omega⟩) (j_preV (q0 := 1) (ci := 0) hK hP hD csc csc_all csc_nd cl_0 (ce_1 _ _ _) (fun _ _ _ _ h => h) (fun _ _ _ => trivial)) rfl rfl hl.1 rfl (lv_room (Nat.le_of_ble_eq_true rfl)) d_Engine_execute_32 ⟨Nat.le_of_ble_eq_true rfl, Nat.le_of_ble_eq_true rfl⟩) (fun S1 H locs hw4 hP hD hS => ?_)
  have hP : va_P D classes (cW T ad S1) H := hP
  have hD : va_D A (cW T ad S1) := hD
  obtain ⟨⟨i_vst, i_vc0, i_vc1, i_vc2, i_vc3, i_vv0, i_vv1, i_vv2, i_vv3, i_vg, i_wct, i_wln, i_sd0, i_sd1, i_sd2, i_sd3, i_rln, i_rtx, i_rpl, i_rtk, i_cnv, i_pts, i_cik, i_und⟩, kpcL_S1, kpcP_S1, kpcU_S1, kpcW_S1⟩ := hw4
  have kScL_S1 : kcL S S1 := kcL_t (show kcL S S from (kcL_r S)) kpcL_S1
  have kScP_S1 : kcP S S1 := kcP_t (show kcP S S from (kcP_r S)) kpcP_S1
  have kScU_S1 : kcU S S1 := kcU_t (show kcU S S from (kcU_r S)) kpcU_S1
  have kScW_S1 : kcW S S1 := kcW_t (show kcW S S from (kcW_r S)) kpcW_S1
  have nxr_length_S1 : (f_xr_length S1).toInt = (f_xr_length S).toInt := congrArg Int32.toInt kpcL_S1
  have nxr_length_S1 : (f_xr_length S1).toInt = (f_xr_length S).toInt := congrArg Int32.toInt kpcP_S1.1
  have nxr_place_S1 : (f_xr_place S1).toInt = (f_xr_place S).toInt := congrArg Int32.toInt kpcP_S1.2.1
  have nxe_underWay_S1 : (f_xe_underWay S1).toInt = (f_xe_underWay S).toInt := congrArg Int32.toInt kpcU_S1
  have nxp_columns_S1 : (f_xp_columns S1).toInt = (f_xp_columns S).toInt := congrArg Int32.toInt kpcW_S1.1
  have nxp_rows_S1 : (f_xp_rows S1).toInt = (f_xp_rows S).toInt := congrArg Int32.toInt kpcW_S1.2
  refine lv_iload_n hx hb d_Engine_execute_35 rfl (lv_at hl 2 rfl) ?_
  refine lv_bipush (v := 13) hx hb d_Engine_execute_36 (by decide) ?_
  refine lv_icmp_ne (tgt := 47) hx hb d_Engine_execute_38 (by decide) (fun c38_1 => ?_) (fun c38_1 => ?_)
  · first | have fc38_1 : rv1.toInt < 13 := (by have := zt_ne (show rv1.toInt = _ from rfl) tI_13 c38_1; omega) | have fc38_1 : 13 < rv1.toInt := (by have := zt_ne (show rv1.toInt = _ from rfl) tI_13 c38_1; omega) | skip
    refine lv_iload_n hx hb d_Engine_execute_47 rfl (lv_at hl 2 rfl) ?_
    refine lv_bipush (v := 7) hx hb d_Engine_execute_48 (by decide) ?_
    refine lv_iand hx hb d_Engine_execute_50 ?_
    refine lv_topi (fun x1 ex1 => ?_)
    have rx1 := zt_rng x1
    refine lv_iconst (v := 3) hx hb d_Engine_execute_51 (by decide) ?_
    refine lv_icmp_ne (tgt := 64) hx hb d_Engine_execute_52 (by decide) (fun c52_1 => ?_) (fun c52_1 => ?_)
    · have fc52_1 : ¬ x1.toInt = 3 := zt_ne (show x1.toInt = _ from rfl) tI_3 c52_1
      refine lv_aload_n hx hb d_Engine_execute_64 rfl (lv_at hl 3 rfl) ?_
      refine lv_iload_n hx hb d_Engine_execute_65 rfl (lv_at hl 2 rfl) ?_
      refine lv_iload_n hx hb d_Engine_execute_66 rfl (lv_at hl 1 rfl) ?_
      refine lv_dload_n hx hb d_Engine_execute_67 rfl (lv_at hl 0 rfl) ?_
      refine jc_ci (w := (fun u => u)) hK hP hD hS hA (va_runV (As := [.int rv1, .int rv2, .double rv3]) (rest := []) F (c_Engine_doValueP l D T ad S1 rv1 rv2 rv3  H.size ⟨i_vst, i_vc0, i_vc1, i_vc2, i_vc3, i_vv0, i_vv1, i_vv2, i_vv3, i_vg, i_wct, i_wln, i_sd0, i_sd1, i_sd2, i_sd3, i_rln, i_rtx, i_rpl, i_rtk, i_cnv, i_pts, i_cik, i_und⟩ (show dB rv3 by omega) (fun q => absurd (and7_11 ex1 q) (by omega))) (j_cV (k := 3) (C := "PageScribe$Engine") hts k_3_167 k_1_9 k_5_211 k_3_166 k_0_13 (by decide +kernel) ⟨by dsimp only; omega, by dsimp only; omega⟩) (j_preV (q0 := 72) (ci := 7) hK hP hD csc csc_all csc_nd cl_7 (ce_72 _ _ _) (fun _ _ _ _ h => h) (fun _ _ _ => trivial)) rfl rfl hl.1 rfl (lv_room (Nat.le_of_ble_eq_true rfl)) d_Engine_execute_68 ⟨Nat.le_of_ble_eq_true rfl, Nat.le_of_ble_eq_true rfl⟩) (fun rv5 S2 H locs hw5 hP hD hS => ?_)
      have hP : va_P D classes (cW T ad S2) H := hP
      have hD : va_D A (cW T ad S2) := hD
      obtain ⟨⟨i_vst, i_vc0, i_vc1, i_vc2, i_vc3, i_vv0, i_vv1, i_vv2, i_vv3, i_vg, i_wct, i_wln, i_sd0, i_sd1, i_sd2, i_sd3, i_rln, i_rtx, i_rpl, i_rtk, i_cnv, i_pts, i_cik, i_und⟩, kpcL_S2, kpcP_S2, kpcU_S2, kpcW_S2⟩ := hw5
      have kScL_S2 : kcL S S2 := kcL_t (show kcL S S1 from kScL_S1) kpcL_S2
      have kScP_S2 : kcP S S2 := kcP_t (show kcP S S1 from kScP_S1) kpcP_S2
      have kScU_S2 : kcU S S2 := kcU_t (show kcU S S1 from kScU_S1) kpcU_S2
      have kScW_S2 : kcW S S2 := kcW_t (show kcW S S1 from kScW_S1) kpcW_S2
      have nxr_length_S2 : (f_xr_length S2).toInt = (f_xr_length S1).toInt := congrArg Int32.toInt kpcL_S2
      have nxr_length_S2 : (f_xr_length S2).toInt = (f_xr_length S1).toInt := congrArg Int32.toInt kpcP_S2.1
      have nxr_place_S2 : (f_xr_place S2).toInt = (f_xr_place S1).toInt := congrArg Int32.toInt kpcP_S2.2.1
      have nxe_underWay_S2 : (f_xe_underWay S2).toInt = (f_xe_underWay S1).toInt := congrArg Int32.toInt kpcU_S2
      have nxp_columns_S2 : (f_xp_columns S2).toInt = (f_xp_columns S1).toInt := congrArg Int32.toInt kpcW_S2.1
      have nxp_rows_S2 : (f_xp_rows S2).toInt = (f_xp_rows S1).toInt := congrArg Int32.toInt kpcW_S2.2
      have rrv5 := zt_rng rv5
      exact j_iret F hr hlocks hK hS S2 ⟨⟨i_vst, i_vc0, i_vc1, i_vc2, i_vc3, i_vv0, i_vv1, i_vv2, i_vv3, i_vg, i_wct, i_wln, i_sd0, i_sd1, i_sd2, i_sd3, i_rln, i_rtx, i_rpl, i_rtk, i_cnv, i_pts, i_cik, i_und⟩, kScL_S2, kScP_S2, kScU_S2, kScW_S2⟩ hP hD d_Engine_execute_71
    · have fc52_1 : x1.toInt = 3 := zt_eq (show x1.toInt = _ from rfl) tI_3 c52_1
      refine lv_aload_n hx hb d_Engine_execute_55 rfl (lv_at hl 3 rfl) ?_
      refine lv_iload_n hx hb d_Engine_execute_56 rfl (lv_at hl 2 rfl) ?_
      refine lv_iload_n hx hb d_Engine_execute_57 rfl (lv_at hl 1 rfl) ?_
      refine jc_ci (w := (fun u => u)) hK hP hD hS hA (va_runV (As := [.int rv1, .int rv2]) (rest := []) F (c_Engine_doUnderWay l D T ad g Bq d hdv S1 rv1 rv2  H.size ⟨i_vst, i_vc0, i_vc1, i_vc2, i_vc3, i_vv0, i_vv1, i_vv2, i_vv3, i_vg, i_wct, i_wln, i_sd0, i_sd1, i_sd2, i_sd3, i_rln, i_rtx, i_rpl, i_rtk, i_cnv, i_pts, i_cik, i_und⟩ (show 8 ≤ (f_xe_underWay S1).toInt + d by omega)) (j_cV (k := 2) (C := "PageScribe$Engine") hts k_5_215 k_1_9 k_5_212 k_5_214 k_0_69 (by decide +kernel) ⟨by dsimp only; omega, by dsimp only; omega⟩) (j_preV (q0 := 72) (ci := 7) hK hP hD csc csc_all csc_nd cl_7 (ce_72 _ _ _) (fun _ _ _ _ h => EC.calling h) (fun U hU hW => EC.at hS hAB hU hW hE)) rfl rfl hl.1 rfl (lv_room (Nat.le_of_ble_eq_true rfl)) d_Engine_execute_58 ⟨Nat.le_of_ble_eq_true rfl, Nat.le_of_ble_eq_true rfl⟩) (fun rv6 S3 H locs hw6 hP hD hS => ?_)
      have hP : va_P D classes (cW T ad S3) H := hP
      have hD : va_D A (cW T ad S3) := hD
      obtain ⟨⟨i_vst, i_vc0, i_vc1, i_vc2, i_vc3, i_vv0, i_vv1, i_vv2, i_vv3, i_vg, i_wct, i_wln, i_sd0, i_sd1, i_sd2, i_sd3, i_rln, i_rtx, i_rpl, i_rtk, i_cnv, i_pts, i_cik, i_und⟩, kpcL_S3, kpcP_S3, kpcU_S3, kpcW_S3⟩ := hw6
      have kScL_S3 : kcL S S3 := kcL_t (show kcL S S1 from kScL_S1) kpcL_S3
      have kScP_S3 : kcP S S3 := kcP_t (show kcP S S1 from kScP_S1) kpcP_S3
      have kScU_S3 : kcU S S3 := kcU_t (show kcU S S1 from kScU_S1) kpcU_S3
      have kScW_S3 : kcW S S3 := kcW_t (show kcW S S1 from kScW_S1) kpcW_S3
      have nxr_length_S3 : (f_xr_length S3).toInt = (f_xr_length S1).toInt := congrArg Int32.toInt kpcL_S3
      have nxr_length_S3 : (f_xr_length S3).toInt = (f_xr_length S1).toInt := congrArg Int32.toInt kpcP_S3.1
      have nxr_place_S3 : (f_xr_place S3).toInt = (f_xr_place S1).toInt := congrArg Int32.toInt kpcP_S3.2.1
      have nxe_underWay_S3 : (f_xe_underWay S3).toInt = (f_xe_underWay S1).toInt := congrArg Int32.toInt kpcU_S3
      have nxp_columns_S3 : (f_xp_columns S3).toInt = (f_xp_columns S1).toInt := congrArg Int32.toInt kpcW_S3.1
      have nxp_rows_S3 : (f_xp_rows S3).toInt = (f_xp_rows S1).toInt := congrArg Int32.toInt kpcW_S3.2
      have rrv6 := zt_rng rv6
      refine lv_goto (tgt := 71) hx hb d_Engine_execute_61 (by decide) ?_
      exact j_iret F hr hlocks hK hS S3 ⟨⟨i_vst, i_vc0, i_vc1, i_vc2, i_vc3, i_vv0, i_vv1, i_vv2, i_vv3, i_vg, i_wct, i_wln, i_sd0, i_sd1, i_sd2, i_sd3, i_rln, i_rtx, i_rpl, i_rtk, i_cnv, i_pts, i_cik, i_und⟩, kScL_S3, kScP_S3, kScU_S3, kScW_S3⟩ hP hD d_Engine_execute_71
  · have fc38_1 : rv1.toInt = 13 := zt_eq (show rv1.toInt = _ from rfl) tI_13 c38_1
    refine lv_aload_n hx hb d_Engine_execute_41 rfl (lv_at hl 3 rfl) ?_
    refine lv_iload_n hx hb d_Engine_execute_42 rfl (lv_at hl 1 rfl) ?_
    refine jc_ci (w := (fun u => u)) hK hP hD hS hA (va_runV (As := [.int rv2]) (rest := []) F (c_Engine_runArray l D T ad g Bq d hdv S1 rv2  H.size ⟨i_vst, i_vc0, i_vc1, i_vc2, i_vc3, i_vv0, i_vv1, i_vv2, i_vv3, i_vg, i_wct, i_wln, i_sd0, i_sd1, i_sd2, i_sd3, i_rln, i_rtx, i_rpl, i_rtk, i_cnv, i_pts, i_cik, i_und⟩ (show 8 ≤ (f_xe_underWay S1).toInt + d by omega)) (j_cV (k := 1) (C := "PageScribe$Engine") hts k_5_203 k_1_9 k_5_200 k_5_202 k_0_68 (by decide +kernel) ⟨by dsimp only; omega, by dsimp only; omega⟩) (j_preV (q0 := 72) (ci := 7) hK hP hD csc csc_all csc_nd cl_7 (ce_72 _ _ _) (fun _ _ _ _ h => EC.calling h) (fun U hU hW => EC.at hS hAB hU hW hE)) rfl rfl hl.1 rfl (lv_room (Nat.le_of_ble_eq_true rfl)) d_Engine_execute_43 ⟨Nat.le_of_ble_eq_true rfl, Nat.le_of_ble_eq_true rfl⟩) (fun rv7 S4 H locs hw7 hP hD hS => ?_)
    have hP : va_P D classes (cW T ad S4) H := hP
    have hD : va_D A (cW T ad S4) := hD
    obtain ⟨⟨i_vst, i_vc0, i_vc1, i_vc2, i_vc3, i_vv0, i_vv1, i_vv2, i_vv3, i_vg, i_wct, i_wln, i_sd0, i_sd1, i_sd2, i_sd3, i_rln, i_rtx, i_rpl, i_rtk, i_cnv, i_pts, i_cik, i_und⟩, kpcL_S4, kpcP_S4, kpcU_S4, kpcW_S4⟩ := hw7
    have kScL_S4 : kcL S S4 := kcL_t (show kcL S S1 from kScL_S1) kpcL_S4
    have kScP_S4 : kcP S S4 := kcP_t (show kcP S S1 from kScP_S1) kpcP_S4
    have kScU_S4 : kcU S S4 := kcU_t (show kcU S S1 from kScU_S1) kpcU_S4
    have kScW_S4 : kcW S S4 := kcW_t (show kcW S S1 from kScW_S1) kpcW_S4
    have nxr_length_S4 : (f_xr_length S4).toInt = (f_xr_length S1).toInt := congrArg Int32.toInt kpcL_S4
    have nxr_length_S4 : (f_xr_length S4).toInt = (f_xr_length S1).toInt := congrArg Int32.toInt kpcP_S4.1
    have nxr_place_S4 : (f_xr_place S4).toInt = (f_xr_place S1).toInt := congrArg Int32.toInt kpcP_S4.2.1
    have nxe_underWay_S4 : (f_xe_underWay S4).toInt = (f_xe_underWay S1).toInt := congrArg Int32.toInt kpcU_S4
    have nxp_columns_S4 : (f_xp_columns S4).toInt = (f_xp_columns S1).toInt := congrArg Int32.toInt kpcW_S4.1
    have nxp_rows_S4 : (f_xp_rows S4).toInt = (f_xp_rows S1).toInt := congrArg Int32.toInt kpcW_S4.2
    have rrv7 := zt_rng rv7
    exact j_iret F hr hlocks hK hS S4 ⟨⟨i_vst, i_vc0, i_vc1, i_vc2, i_vc3, i_vv0, i_vv1, i_vv2, i_vv3, i_vg, i_wct, i_wln, i_sd0, i_sd1, i_sd2, i_sd3, i_rln, i_rtx, i_rpl, i_rtk, i_cnv, i_pts, i_cik, i_und⟩, kScL_S4, kScP_S4, kScU_S4, kScW_S4⟩ hP hD d_Engine_execute_46
theorem d_Engine_runIf_0 : decode prog_4_method_12_code 0 = .ok (.aload_n 0, 1) := by decide +kernel
theorem d_Engine_runIf_1 : decode prog_4_method_12_code 1 = .ok (.getfield 30, 3) := by decide +kernel
theorem d_Engine_runIf_4 : decode prog_4_method_12_code 4 = .ok (.iconst 1, 1) := by decide +kernel
theorem d_Engine_runIf_5 : decode prog_4_method_12_code 5 = .ok (.invokevirtual 215, 3) := by decide +kernel
theorem d_Engine_runIf_8 : decode prog_4_method_12_code 8 = .ok (.iconst 1, 1) := by decide +kernel
theorem d_Engine_runIf_9 : decode prog_4_method_12_code 9 = .ok (.if_icmp .ne 7, 3) := by decide +kernel
theorem d_Engine_runIf_16 : decode prog_4_method_12_code 16 = .ok (.iconst 0, 1) := by decide +kernel
theorem d_Engine_runIf_17 : decode prog_4_method_12_code 17 = .ok (.istore_n 1, 1) := by decide +kernel
theorem d_Engine_runIf_18 : decode prog_4_method_12_code 18 = .ok (.aload_n 0, 1) := by decide +kernel
theorem d_Engine_runIf_19 : decode prog_4_method_12_code 19 = .ok (.getfield 30, 3) := by decide +kernel
theorem d_Engine_runIf_22 : decode prog_4_method_12_code 22 = .ok (.iconst 0, 1) := by decide +kernel
theorem d_Engine_runIf_23 : decode prog_4_method_12_code 23 = .ok (.invokevirtual 215, 3) := by decide +kernel
theorem d_Engine_runIf_26 : decode prog_4_method_12_code 26 = .ok (.istore_n 2, 1) := by decide +kernel
theorem d_Engine_runIf_27 : decode prog_4_method_12_code 27 = .ok (.aload_n 0, 1) := by decide +kernel
theorem d_Engine_runIf_28 : decode prog_4_method_12_code 28 = .ok (.getfield 30, 3) := by decide +kernel
theorem d_Engine_runIf_31 : decode prog_4_method_12_code 31 = .ok (.iconst 2, 1) := by decide +kernel
theorem d_Engine_runIf_32 : decode prog_4_method_12_code 32 = .ok (.invokevirtual 221, 3) := by decide +kernel
theorem d_Engine_runIf_35 : decode prog_4_method_12_code 35 = .ok (.iload_n 1, 1) := by decide +kernel
theorem d_Engine_runIf_36 : decode prog_4_method_12_code 36 = .ok (.ifCond .eq 11, 3) := by decide +kernel
theorem d_Engine_runIf_47 : decode prog_4_method_12_code 47 = .ok (.iconst 0, 1) := by decide +kernel
theorem d_Engine_runIf_48 : decode prog_4_method_12_code 48 = .ok (.ireturn, 1) := by decide +kernel
theorem d_Engine_runIf_12 : decode prog_4_method_12_code 12 = .ok (.iconst 1, 1) := by decide +kernel
theorem d_Engine_runIf_13 : decode prog_4_method_12_code 13 = .ok (.goto 4, 3) := by decide +kernel
theorem d_Engine_runIf_39 : decode prog_4_method_12_code 39 = .ok (.aload_n 0, 1) := by decide +kernel
theorem d_Engine_runIf_40 : decode prog_4_method_12_code 40 = .ok (.iload_n 2, 1) := by decide +kernel
theorem d_Engine_runIf_41 : decode prog_4_method_12_code 41 = .ok (.invokevirtual 98, 3) := by decide +kernel
theorem d_Engine_runIf_44 : decode prog_4_method_12_code 44 = .ok (.goto 4, 3) := by decide +kernel
set_option maxHeartbeats 4000000 in
set_option maxRecDepth 100000 in
theorem c_Engine_runIf (l : Launch) (D : va_G) (T : Nat → ClassId) (ad : Nat → Nat) (g : GE) (Bq : Nat → Prop) (d : Nat) (hdv : ∀ d2, d2 < d → DVP l D T ad g Bq d2) (S : CS)  (sz : Nat)  (hI : CIv S) (hd : 8 ≤ (f_xe_underWay S).toInt + d) : Met l ⟨"PageScribe$Engine", "runIf", "()I"⟩ (wy ⟨"PageScribe$Engine", "runIf", "()I"⟩ prog_4_method_12_code 3 (some .int)) ({ frames := 7 + 10 * d, cells := 0, slots := 0, locals := 70 * (7 + 10 * d) }) (va_Pc [.ref (ad 72)] (Pw D T (cW T ad S) sz (EC g Bq ad))) (va_Qi (fun (r : Int32) (u : CS) => CIv u ∧ kcL S u ∧ kcP S u ∧ kcU S u ∧ kcW S u) (fun u t => Bw D T (va_A (cW T ad S) sz) (cW T ad u) t) (va_A (cW T ad S) sz)) 0 0 (va_A (cW T ad S) sz) := by
  refine j_met (y := ⟨"PageScribe$Engine", "runIf", "()I"⟩) (b := prog_4_method_12_code) (n := 3) (ret := (some .int)) (av := [.ref (ad 72)]) (Qc := fun A => va_Qi (fun (r : Int32) (u : CS) => CIv u ∧ kcL S u ∧ kcP S u ∧ kcU S u ∧ kcW S u) (fun u t => Bw D T A (cW T ad u) t) A) (by decide +kernel) (Nat.le_of_ble_eq_true rfl) (fun p e s m args below meth c A ls F hr hlocks hnm hK hP hD hS hA hN hE hl => ?_)
  obtain ⟨hx, hb, hml, hown, hts⟩ := id F
  have hl : lv_has ls 3 [(0, .ref (ad 72))] := hl
  obtain ⟨i_vst, i_vc0, i_vc1, i_vc2, i_vc3, i_vv0, i_vv1, i_vv2, i_vv3, i_vg, i_wct, i_wln, i_sd0, i_sd1, i_sd2, i_sd3, i_rln, i_rtx, i_rpl, i_rtk, i_cnv, i_pts, i_cik, i_und⟩ := id hI
  have hAB : ∀ q, A q → Bq q := EC.ab hE hN
  have hEV := hE.1.narrow hAB
  refine lv_aload_n hx hb d_Engine_runIf_0 rfl (lv_at hl 0 rfl) ?_
  refine va_get (D := D) (ci := 7) (v := .ref (ad 1)) (C := "PageScribe$Engine") (T := F_Engine) (N := 11) hx hb hts i_Engine hown hK hP 72 (ce_72 _ _ _) cl_7 0 (by decide) (hts _ k_2_22) (fun _ h9 => h9) rfl d_Engine_runIf_1 ?_
  refine lv_iconst (v := 1) hx hb d_Engine_runIf_4 (by decide) ?_
  refine jc_ci (w := (fun _ => S)) hK hP hD hS hA (va_runV (As := [.int 1]) (rest := []) F (c_Stack_numberDown l D T ad S (1 : Int32)  s.heap.size) (j_cV (k := 1) (C := "PageScribe$Stack") hts k_2_130 k_1_3 k_5_197 k_2_128 k_2_129 (by decide +kernel) ⟨by dsimp only; omega, by dsimp only; omega⟩) (j_preV (q0 := 1) (ci := 0) hK hP hD csc csc_all csc_nd cl_0 (ce_1 _ _ _) (fun _ _ _ _ h => h) (fun _ _ _ => trivial)) rfl rfl hl.1 rfl (lv_room (Nat.le_of_ble_eq_true rfl)) d_Engine_runIf_5 ⟨Nat.le_of_ble_eq_true rfl, Nat.le_of_ble_eq_true rfl⟩) (fun rv1 u1 H locs hw1 hP hD hS => ?_)
  have hP : va_P D classes (cW T ad S) H := hP
  have hD : va_D A (cW T ad S) := hD
  have rrv1 := zt_rng rv1
  refine lv_iconst (v := 1) hx hb d_Engine_runIf_8 (by decide) ?_
  refine lv_icmp_ne (tgt := 16) hx hb d_Engine_runIf_9 (by decide) (fun c9_1 => ?_) (fun c9_1 => ?_)
  · first | have fc9_1 : rv1.toInt < 1 := (by have := zt_ne (show rv1.toInt = _ from rfl) tI_1 c9_1; omega) | have fc9_1 : 1 < rv1.toInt := (by have := zt_ne (show rv1.toInt = _ from rfl) tI_1 c9_1; omega) | skip
    refine lv_iconst (v := 0) hx hb d_Engine_runIf_16 (by decide) ?_
    refine lv_istore_n (lv' := [(1, .int 0), (0, .ref (ad 72))]) hx hb d_Engine_runIf_17 rfl hl (by decide) rfl (fun ls hl => ?_)
    refine lv_aload_n hx hb d_Engine_runIf_18 rfl (lv_at hl 1 rfl) ?_
    refine va_get (D := D) (ci := 7) (v := .ref (ad 1)) (C := "PageScribe$Engine") (T := F_Engine) (N := 11) hx hb hts i_Engine hown hK hP 72 (ce_72 _ _ _) cl_7 0 (by decide) (hts _ k_2_22) (fun _ h9 => h9) rfl d_Engine_runIf_19 ?_
    refine lv_iconst (v := 0) hx hb d_Engine_runIf_22 (by decide) ?_
    refine jc_ci (w := (fun _ => S)) hK hP hD hS hA (va_runV (As := [.int 0]) (rest := []) F (c_Stack_numberDown l D T ad S (0 : Int32)  H.size) (j_cV (k := 1) (C := "PageScribe$Stack") hts k_2_130 k_1_3 k_5_197 k_2_128 k_2_129 (by decide +kernel) ⟨by dsimp only; omega, by dsimp only; omega⟩) (j_preV (q0 := 1) (ci := 0) hK hP hD csc csc_all csc_nd cl_0 (ce_1 _ _ _) (fun _ _ _ _ h => h) (fun _ _ _ => trivial)) rfl rfl hl.1 rfl (lv_room (Nat.le_of_ble_eq_true rfl)) d_Engine_runIf_23 ⟨Nat.le_of_ble_eq_true rfl, Nat.le_of_ble_eq_true rfl⟩) (fun rv2 u2 H locs hw2 hP hD hS => ?_)
    have hP : va_P D classes (cW T ad S) H := hP
    have hD : va_D A (cW T ad S) := hD
    have rrv2 := zt_rng rv2
    refine lv_istore_n (lv' := [(2, .int rv2), (1, .int 0), (0, .ref (ad 72))]) hx hb d_Engine_runIf_26 rfl hl (by decide) rfl (fun ls hl => ?_)
    refine lv_aload_n hx hb d_Engine_runIf_27 rfl (lv_at hl 2 rfl) ?_
    refine va_get (D := D) (ci := 7) (v := .ref (ad 1)) (C := "PageScribe$Engine") (T := F_Engine) (N := 11) hx hb hts i_Engine hown hK hP 72 (ce_72 _ _ _) cl_7 0 (by decide) (hts _ k_2_22) (fun _ h9 => h9) rfl d_Engine_runIf_28 ?_
    refine lv_iconst (v := 2) hx hb d_Engine_runIf_31 (by decide) ?_
    refine jc_cv (w := (fun u => u)) hK hP hD hS hA (va_runU (As := [.int 2]) (rest := []) F (c_Row_drop l D T ad S (2 : Int32)  H.size ⟨i_vst, i_vc0, i_vc1, i_vc2, i_vc3, i_vv0, i_vv1, i_vv2, i_vv3, i_vg, i_wct, i_wln, i_sd0, i_sd1, i_sd2, i_sd3, i_rln, i_rtx, i_rpl, i_rtk, i_cnv, i_pts, i_cik, i_und⟩) (j_cU (k := 1) (C := "PageScribe$Stack") (owner := "PageScribe$Row") (x := ⟨"PageScribe$Stack", "drop", "(I)V"⟩) hts k_4_47 k_5_199 k_4_43 k_4_45 k_4_46 k_1_2 rfl (by decide +kernel) ⟨by dsimp only; omega, by dsimp only; omega⟩) (j_preV (q0 := 1) (ci := 0) hK hP hD csc csc_all csc_nd cl_0 (ce_1 _ _ _) (fun _ _ _ _ h => h) (fun _ _ _ => trivial)) rfl rfl hl.1 rfl (lv_room (Nat.le_of_ble_eq_true rfl)) d_Engine_runIf_32 ⟨Nat.le_of_ble_eq_true rfl, Nat.le_of_ble_eq_true rfl⟩) (fun S1 H locs hw3 hP hD hS => ?_)
    have hP : va_P D classes (cW T ad S1) H := hP
    have hD : va_D A (cW T ad S1) := hD
    obtain ⟨⟨i_vst, i_vc0, i_vc1, i_vc2, i_vc3, i_vv0, i_vv1, i_vv2, i_vv3, i_vg, i_wct, i_wln, i_sd0, i_sd1, i_sd2, i_sd3, i_rln, i_rtx, i_rpl, i_rtk, i_cnv, i_pts, i_cik, i_und⟩, kpcL_S1, kpcP_S1, kpcU_S1, kpcW_S1⟩ := hw3
    have kScL_S1 : kcL S S1 := kcL_t (show kcL S S from (kcL_r S)) kpcL_S1
    have kScP_S1 : kcP S S1 := kcP_t (show kcP S S from (kcP_r S)) kpcP_S1
    have kScU_S1 : kcU S S1 := kcU_t (show kcU S S from (kcU_r S)) kpcU_S1
    have kScW_S1 : kcW S S1 := kcW_t (show kcW S S from (kcW_r S)) kpcW_S1
    have nxr_length_S1 : (f_xr_length S1).toInt = (f_xr_length S).toInt := congrArg Int32.toInt kpcL_S1
    have nxr_length_S1 : (f_xr_length S1).toInt = (f_xr_length S).toInt := congrArg Int32.toInt kpcP_S1.1
    have nxr_place_S1 : (f_xr_place S1).toInt = (f_xr_place S).toInt := congrArg Int32.toInt kpcP_S1.2.1
    have nxe_underWay_S1 : (f_xe_underWay S1).toInt = (f_xe_underWay S).toInt := congrArg Int32.toInt kpcU_S1
    have nxp_columns_S1 : (f_xp_columns S1).toInt = (f_xp_columns S).toInt := congrArg Int32.toInt kpcW_S1.1
    have nxp_rows_S1 : (f_xp_rows S1).toInt = (f_xp_rows S).toInt := congrArg Int32.toInt kpcW_S1.2
    refine lv_iload_n hx hb d_Engine_runIf_35 rfl (lv_at hl 1 rfl) ?_
    refine lv_if_eq (tgt := 47) hx hb d_Engine_runIf_36 (by decide) (fun _ => ?_) (fun c9 => absurd c9 (by decide +kernel))
    refine lv_iconst (v := 0) hx hb d_Engine_runIf_47 (by decide) ?_
    exact j_iret F hr hlocks hK hS S1 ⟨⟨i_vst, i_vc0, i_vc1, i_vc2, i_vc3, i_vv0, i_vv1, i_vv2, i_vv3, i_vg, i_wct, i_wln, i_sd0, i_sd1, i_sd2, i_sd3, i_rln, i_rtx, i_rpl, i_rtk, i_cnv, i_pts, i_cik, i_und⟩, kScL_S1, kScP_S1, kScU_S1, kScW_S1⟩ hP hD d_Engine_runIf_48
  · have fc9_1 : rv1.toInt = 1 := zt_eq (show rv1.toInt = _ from rfl) tI_1 c9_1
    refine lv_iconst (v := 1) hx hb d_Engine_runIf_12 (by decide) ?_
    refine lv_goto (tgt := 17) hx hb d_Engine_runIf_13 (by decide) ?_
    refine lv_istore_n (lv' := [(1, .int 1), (0, .ref (ad 72))]) hx hb d_Engine_runIf_17 rfl hl (by decide) rfl (fun ls hl => ?_)
    refine lv_aload_n hx hb d_Engine_runIf_18 rfl (lv_at hl 1 rfl) ?_
    refine va_get (D := D) (ci := 7) (v := .ref (ad 1)) (C := "PageScribe$Engine") (T := F_Engine) (N := 11) hx hb hts i_Engine hown hK hP 72 (ce_72 _ _ _) cl_7 0 (by decide) (hts _ k_2_22) (fun _ h9 => h9) rfl d_Engine_runIf_19 ?_
    refine lv_iconst (v := 0) hx hb d_Engine_runIf_22 (by decide) ?_
    refine jc_ci (w := (fun _ => S)) hK hP hD hS hA (va_runV (As := [.int 0]) (rest := []) F (c_Stack_numberDown l D T ad S (0 : Int32)  H.size) (j_cV (k := 1) (C := "PageScribe$Stack") hts k_2_130 k_1_3 k_5_197 k_2_128 k_2_129 (by decide +kernel) ⟨by dsimp only; omega, by dsimp only; omega⟩) (j_preV (q0 := 1) (ci := 0) hK hP hD csc csc_all csc_nd cl_0 (ce_1 _ _ _) (fun _ _ _ _ h => h) (fun _ _ _ => trivial)) rfl rfl hl.1 rfl (lv_room (Nat.le_of_ble_eq_true rfl)) d_Engine_runIf_23 ⟨Nat.le_of_ble_eq_true rfl, Nat.le_of_ble_eq_true rfl⟩) (fun rv4 u3 H locs hw4 hP hD hS => ?_)
    have hP : va_P D classes (cW T ad S) H := hP
    have hD : va_D A (cW T ad S) := hD
    have rrv4 := zt_rng rv4
    refine lv_istore_n (lv' := [(2, .int rv4), (1, .int 1), (0, .ref (ad 72))]) hx hb d_Engine_runIf_26 rfl hl (by decide) rfl (fun ls hl => ?_)
    refine lv_aload_n hx hb d_Engine_runIf_27 rfl (lv_at hl 2 rfl) ?_
    refine va_get (D := D) (ci := 7) (v := .ref (ad 1)) (C := "PageScribe$Engine") (T := F_Engine) (N := 11) hx hb hts i_Engine hown hK hP 72 (ce_72 _ _ _) cl_7 0 (by decide) (hts _ k_2_22) (fun _ h9 => h9) rfl d_Engine_runIf_28 ?_
    refine lv_iconst (v := 2) hx hb d_Engine_runIf_31 (by decide) ?_
    refine jc_cv (w := (fun u => u)) hK hP hD hS hA (va_runU (As := [.int 2]) (rest := []) F (c_Row_drop l D T ad S (2 : Int32)  H.size ⟨i_vst, i_vc0, i_vc1, i_vc2, i_vc3, i_vv0, i_vv1, i_vv2, i_vv3, i_vg, i_wct, i_wln, i_sd0, i_sd1, i_sd2, i_sd3, i_rln, i_rtx, i_rpl, i_rtk, i_cnv, i_pts, i_cik, i_und⟩) (j_cU (k := 1) (C := "PageScribe$Stack") (owner := "PageScribe$Row") (x := ⟨"PageScribe$Stack", "drop", "(I)V"⟩) hts k_4_47 k_5_199 k_4_43 k_4_45 k_4_46 k_1_2 rfl (by decide +kernel) ⟨by dsimp only; omega, by dsimp only; omega⟩) (j_preV (q0 := 1) (ci := 0) hK hP hD csc csc_all csc_nd cl_0 (ce_1 _ _ _) (fun _ _ _ _ h => h) (fun _ _ _ => trivial)) rfl rfl hl.1 rfl (lv_room (Nat.le_of_ble_eq_true rfl)) d_Engine_runIf_32 ⟨Nat.le_of_ble_eq_true rfl, Nat.le_of_ble_eq_true rfl⟩) (fun S2 H locs hw5 hP hD hS => ?_)
    have hP : va_P D classes (cW T ad S2) H := hP
    have hD : va_D A (cW T ad S2) := hD
    obtain ⟨⟨i_vst, i_vc0, i_vc1, i_vc2, i_vc3, i_vv0, i_vv1, i_vv2, i_vv3, i_vg, i_wct, i_wln, i_sd0, i_sd1, i_sd2, i_sd3, i_rln, i_rtx, i_rpl, i_rtk, i_cnv, i_pts, i_cik, i_und⟩, kpcL_S2, kpcP_S2, kpcU_S2, kpcW_S2⟩ := hw5
    have kScL_S2 : kcL S S2 := kcL_t (show kcL S S from (kcL_r S)) kpcL_S2
    have kScP_S2 : kcP S S2 := kcP_t (show kcP S S from (kcP_r S)) kpcP_S2
    have kScU_S2 : kcU S S2 := kcU_t (show kcU S S from (kcU_r S)) kpcU_S2
    have kScW_S2 : kcW S S2 := kcW_t (show kcW S S from (kcW_r S)) kpcW_S2
    have nxr_length_S2 : (f_xr_length S2).toInt = (f_xr_length S).toInt := congrArg Int32.toInt kpcL_S2
    have nxr_length_S2 : (f_xr_length S2).toInt = (f_xr_length S).toInt := congrArg Int32.toInt kpcP_S2.1
    have nxr_place_S2 : (f_xr_place S2).toInt = (f_xr_place S).toInt := congrArg Int32.toInt kpcP_S2.2.1
    have nxe_underWay_S2 : (f_xe_underWay S2).toInt = (f_xe_underWay S).toInt := congrArg Int32.toInt kpcU_S2
    have nxp_columns_S2 : (f_xp_columns S2).toInt = (f_xp_columns S).toInt := congrArg Int32.toInt kpcW_S2.1
    have nxp_rows_S2 : (f_xp_rows S2).toInt = (f_xp_rows S).toInt := congrArg Int32.toInt kpcW_S2.2
    refine lv_iload_n hx hb d_Engine_runIf_35 rfl (lv_at hl 1 rfl) ?_
    refine lv_if_eq (tgt := 47) hx hb d_Engine_runIf_36 (by decide) (fun c9 => absurd c9 (by decide +kernel)) (fun _ => ?_)
    refine lv_aload_n hx hb d_Engine_runIf_39 rfl (lv_at hl 2 rfl) ?_
    refine lv_iload_n hx hb d_Engine_runIf_40 rfl (lv_at hl 0 rfl) ?_
    refine jc_ci (w := (fun u => u)) hK hP hD hS hA (va_runV (As := [.int rv4]) (rest := []) F (c_Engine_runArray l D T ad g Bq d hdv S2 rv4  H.size ⟨i_vst, i_vc0, i_vc1, i_vc2, i_vc3, i_vv0, i_vv1, i_vv2, i_vv3, i_vg, i_wct, i_wln, i_sd0, i_sd1, i_sd2, i_sd3, i_rln, i_rtx, i_rpl, i_rtk, i_cnv, i_pts, i_cik, i_und⟩ (show 8 ≤ (f_xe_underWay S2).toInt + d by omega)) (j_cV (k := 1) (C := "PageScribe$Engine") hts k_5_203 k_1_9 k_5_200 k_5_202 k_0_68 (by decide +kernel) ⟨by dsimp only; omega, by dsimp only; omega⟩) (j_preV (q0 := 72) (ci := 7) hK hP hD csc csc_all csc_nd cl_7 (ce_72 _ _ _) (fun _ _ _ _ h => EC.calling h) (fun U hU hW => EC.at hS hAB hU hW hE)) rfl rfl hl.1 rfl (lv_room (Nat.le_of_ble_eq_true rfl)) d_Engine_runIf_41 ⟨Nat.le_of_ble_eq_true rfl, Nat.le_of_ble_eq_true rfl⟩) (fun rv6 S3 H locs hw6 hP hD hS => ?_)
    have hP : va_P D classes (cW T ad S3) H := hP
    have hD : va_D A (cW T ad S3) := hD
    obtain ⟨⟨i_vst, i_vc0, i_vc1, i_vc2, i_vc3, i_vv0, i_vv1, i_vv2, i_vv3, i_vg, i_wct, i_wln, i_sd0, i_sd1, i_sd2, i_sd3, i_rln, i_rtx, i_rpl, i_rtk, i_cnv, i_pts, i_cik, i_und⟩, kpcL_S3, kpcP_S3, kpcU_S3, kpcW_S3⟩ := hw6
    have kScL_S3 : kcL S S3 := kcL_t (show kcL S S2 from kScL_S2) kpcL_S3
    have kScP_S3 : kcP S S3 := kcP_t (show kcP S S2 from kScP_S2) kpcP_S3
    have kScU_S3 : kcU S S3 := kcU_t (show kcU S S2 from kScU_S2) kpcU_S3
    have kScW_S3 : kcW S S3 := kcW_t (show kcW S S2 from kScW_S2) kpcW_S3
    have nxr_length_S3 : (f_xr_length S3).toInt = (f_xr_length S2).toInt := congrArg Int32.toInt kpcL_S3
    have nxr_length_S3 : (f_xr_length S3).toInt = (f_xr_length S2).toInt := congrArg Int32.toInt kpcP_S3.1
    have nxr_place_S3 : (f_xr_place S3).toInt = (f_xr_place S2).toInt := congrArg Int32.toInt kpcP_S3.2.1
    have nxe_underWay_S3 : (f_xe_underWay S3).toInt = (f_xe_underWay S2).toInt := congrArg Int32.toInt kpcU_S3
    have nxp_columns_S3 : (f_xp_columns S3).toInt = (f_xp_columns S2).toInt := congrArg Int32.toInt kpcW_S3.1
    have nxp_rows_S3 : (f_xp_rows S3).toInt = (f_xp_rows S2).toInt := congrArg Int32.toInt kpcW_S3.2
    have rrv6 := zt_rng rv6
    refine lv_goto (tgt := 48) hx hb d_Engine_runIf_44 (by decide) ?_
    exact j_iret F hr hlocks hK hS S3 ⟨⟨i_vst, i_vc0, i_vc1, i_vc2, i_vc3, i_vv0, i_vv1, i_vv2, i_vv3, i_vg, i_wct, i_wln, i_sd0, i_sd1, i_sd2, i_sd3, i_rln, i_rtx, i_rpl, i_rtk, i_cnv, i_pts, i_cik, i_und⟩, kScL_S3, kScP_S3, kScU_S3, kScW_S3⟩ hP hD d_Engine_runIf_48
theorem d_Engine_runIfElse_0 : decode prog_4_method_13_code 0 = .ok (.aload_n 0, 1) := by decide +kernel
theorem d_Engine_runIfElse_1 : decode prog_4_method_13_code 1 = .ok (.getfield 30, 3) := by decide +kernel
theorem d_Engine_runIfElse_4 : decode prog_4_method_13_code 4 = .ok (.iconst 2, 1) := by decide +kernel
theorem d_Engine_runIfElse_5 : decode prog_4_method_13_code 5 = .ok (.invokevirtual 215, 3) := by decide +kernel
theorem d_Engine_runIfElse_8 : decode prog_4_method_13_code 8 = .ok (.iconst 1, 1) := by decide +kernel
theorem d_Engine_runIfElse_9 : decode prog_4_method_13_code 9 = .ok (.if_icmp .ne 7, 3) := by decide +kernel
theorem d_Engine_runIfElse_16 : decode prog_4_method_13_code 16 = .ok (.iconst 0, 1) := by decide +kernel
theorem d_Engine_runIfElse_17 : decode prog_4_method_13_code 17 = .ok (.istore_n 1, 1) := by decide +kernel
theorem d_Engine_runIfElse_18 : decode prog_4_method_13_code 18 = .ok (.aload_n 0, 1) := by decide +kernel
theorem d_Engine_runIfElse_19 : decode prog_4_method_13_code 19 = .ok (.getfield 30, 3) := by decide +kernel
theorem d_Engine_runIfElse_31 : decode prog_4_method_13_code 31 = .ok (.invokevirtual 215, 3) := by decide +kernel
theorem d_Engine_runIfElse_34 : decode prog_4_method_13_code 34 = .ok (.istore_n 2, 1) := by decide +kernel
theorem d_Engine_runIfElse_35 : decode prog_4_method_13_code 35 = .ok (.aload_n 0, 1) := by decide +kernel
theorem d_Engine_runIfElse_36 : decode prog_4_method_13_code 36 = .ok (.getfield 30, 3) := by decide +kernel
theorem d_Engine_runIfElse_39 : decode prog_4_method_13_code 39 = .ok (.iconst 3, 1) := by decide +kernel
theorem d_Engine_runIfElse_40 : decode prog_4_method_13_code 40 = .ok (.invokevirtual 221, 3) := by decide +kernel
theorem d_Engine_runIfElse_43 : decode prog_4_method_13_code 43 = .ok (.aload_n 0, 1) := by decide +kernel
theorem d_Engine_runIfElse_44 : decode prog_4_method_13_code 44 = .ok (.iload_n 2, 1) := by decide +kernel
theorem d_Engine_runIfElse_45 : decode prog_4_method_13_code 45 = .ok (.invokevirtual 98, 3) := by decide +kernel
theorem d_Engine_runIfElse_48 : decode prog_4_method_13_code 48 = .ok (.ireturn, 1) := by decide +kernel
theorem d_Engine_runIfElse_22 : decode prog_4_method_13_code 22 = .ok (.iload_n 1, 1) := by decide +kernel
theorem d_Engine_runIfElse_23 : decode prog_4_method_13_code 23 = .ok (.ifCond .eq 7, 3) := by decide +kernel
theorem d_Engine_runIfElse_30 : decode prog_4_method_13_code 30 = .ok (.iconst 0, 1) := by decide +kernel
theorem d_Engine_runIfElse_12 : decode prog_4_method_13_code 12 = .ok (.iconst 1, 1) := by decide +kernel
theorem d_Engine_runIfElse_13 : decode prog_4_method_13_code 13 = .ok (.goto 4, 3) := by decide +kernel
theorem d_Engine_runIfElse_26 : decode prog_4_method_13_code 26 = .ok (.iconst 1, 1) := by decide +kernel
theorem d_Engine_runIfElse_27 : decode prog_4_method_13_code 27 = .ok (.goto 4, 3) := by decide +kernel
set_option maxHeartbeats 4000000 in
set_option maxRecDepth 100000 in
theorem c_Engine_runIfElse (l : Launch) (D : va_G) (T : Nat → ClassId) (ad : Nat → Nat) (g : GE) (Bq : Nat → Prop) (d : Nat) (hdv : ∀ d2, d2 < d → DVP l D T ad g Bq d2) (S : CS)  (sz : Nat)  (hI : CIv S) (hd : 8 ≤ (f_xe_underWay S).toInt + d) : Met l ⟨"PageScribe$Engine", "runIfElse", "()I"⟩ (wy ⟨"PageScribe$Engine", "runIfElse", "()I"⟩ prog_4_method_13_code 3 (some .int)) ({ frames := 7 + 10 * d, cells := 0, slots := 0, locals := 70 * (7 + 10 * d) }) (va_Pc [.ref (ad 72)] (Pw D T (cW T ad S) sz (EC g Bq ad))) (va_Qi (fun (r : Int32) (u : CS) => CIv u ∧ kcL S u ∧ kcP S u ∧ kcU S u ∧ kcW S u) (fun u t => Bw D T (va_A (cW T ad S) sz) (cW T ad u) t) (va_A (cW T ad S) sz)) 0 0 (va_A (cW T ad S) sz) := by
  refine j_met (y := ⟨"PageScribe$Engine", "runIfElse", "()I"⟩) (b := prog_4_method_13_code) (n := 3) (ret := (some .int)) (av := [.ref (ad 72)]) (Qc := fun A => va_Qi (fun (r : Int32) (u : CS) => CIv u ∧ kcL S u ∧ kcP S u ∧ kcU S u ∧ kcW S u) (fun u t => Bw D T A (cW T ad u) t) A) (by decide +kernel) (Nat.le_of_ble_eq_true rfl) (fun p e s m args below meth c A ls F hr hlocks hnm hK hP hD hS hA hN hE hl => ?_)
  obtain ⟨hx, hb, hml, hown, hts⟩ := id F
  have hl : lv_has ls 3 [(0, .ref (ad 72))] := hl
  obtain ⟨i_vst, i_vc0, i_vc1, i_vc2, i_vc3, i_vv0, i_vv1, i_vv2, i_vv3, i_vg, i_wct, i_wln, i_sd0, i_sd1, i_sd2, i_sd3, i_rln, i_rtx, i_rpl, i_rtk, i_cnv, i_pts, i_cik, i_und⟩ := id hI
  have hAB : ∀ q, A q → Bq q := EC.ab hE hN
  have hEV := hE.1.narrow hAB
  refine lv_aload_n hx hb d_Engine_runIfElse_0 rfl (lv_at hl 0 rfl) ?_
  refine va_get (D := D) (ci := 7) (v := .ref (ad 1)) (C := "PageScribe$Engine") (T := F_Engine) (N := 11) hx hb hts i_Engine hown hK hP 72 (ce_72 _ _ _) cl_7 0 (by decide) (hts _ k_2_22) (fun _ h9 => h9) rfl d_Engine_runIfElse_1 ?_
  refine lv_iconst (v := 2) hx hb d_Engine_runIfElse_4 (by decide) ?_
  refine jc_ci (w := (fun _ => S)) hK hP hD hS hA (va_runV (As := [.int 2]) (rest := []) F (c_Stack_numberDown l D T ad S (2 : Int32)  s.heap.size) (j_cV (k := 1) (C := "PageScribe$Stack") hts k_2_130 k_1_3 k_5_197 k_2_128 k_2_129 (by decide +kernel) ⟨by dsimp only; omega, by dsimp only; omega⟩) (j_preV (q0 := 1) (ci := 0) hK hP hD csc csc_all csc_nd cl_0 (ce_1 _ _ _) (fun _ _ _ _ h => h) (fun _ _ _ => trivial)) rfl rfl hl.1 rfl (lv_room (Nat.le_of_ble_eq_true rfl)) d_Engine_runIfElse_5 ⟨Nat.le_of_ble_eq_true rfl, Nat.le_of_ble_eq_true rfl⟩) (fun rv1 u1 H locs hw1 hP hD hS => ?_)
  have hP : va_P D classes (cW T ad S) H := hP
  have hD : va_D A (cW T ad S) := hD
  have rrv1 := zt_rng rv1
  refine lv_iconst (v := 1) hx hb d_Engine_runIfElse_8 (by decide) ?_
  refine lv_icmp_ne (tgt := 16) hx hb d_Engine_runIfElse_9 (by decide) (fun c9_1 => ?_) (fun c9_1 => ?_)
  · first | have fc9_1 : rv1.toInt < 1 := (by have := zt_ne (show rv1.toInt = _ from rfl) tI_1 c9_1; omega) | have fc9_1 : 1 < rv1.toInt := (by have := zt_ne (show rv1.toInt = _ from rfl) tI_1 c9_1; omega) | skip
    refine lv_iconst (v := 0) hx hb d_Engine_runIfElse_16 (by decide) ?_
    refine lv_istore_n (lv' := [(1, .int 0), (0, .ref (ad 72))]) hx hb d_Engine_runIfElse_17 rfl hl (by decide) rfl (fun ls hl => ?_)
    refine lv_aload_n hx hb d_Engine_runIfElse_18 rfl (lv_at hl 1 rfl) ?_
    refine va_get (D := D) (ci := 7) (v := .ref (ad 1)) (C := "PageScribe$Engine") (T := F_Engine) (N := 11) hx hb hts i_Engine hown hK hP 72 (ce_72 _ _ _) cl_7 0 (by decide) (hts _ k_2_22) (fun _ h9 => h9) rfl d_Engine_runIfElse_19 ?_
    refine j_joinH (α := Int32) (fun x H locs ls => (True) ∧ va_P D classes (cW T ad S) H ∧ va_D A (cW T ad S) ∧ va_S A s.heap H locs ∧ lv_has ls 3 [(1, .int 0), (0, .ref (ad 72))]) (fun x ls => F0 m 31 ls (.int x :: [.ref (ad 1)])) (fun x H locs ls hI9 => ?_) (fun key1 => ?_)
    · obtain ⟨j1, rfl⟩ : ∃ z, z = x := ⟨_, rfl⟩
      obtain ⟨hj1, hP, hD, hS, hl⟩ := hI9
      have hP : va_P D classes (cW T ad S) H := hP
      have hD : va_D A (cW T ad S) := hD
      have hl : lv_has ls 3 [(1, .int 0), (0, .ref (ad 72))] := hl
      refine jc_ci (w := (fun _ => S)) hK hP hD hS hA (va_runV (As := [.int j1]) (rest := []) F (c_Stack_numberDown l D T ad S j1  H.size) (j_cV (k := 1) (C := "PageScribe$Stack") hts k_2_130 k_1_3 k_5_197 k_2_128 k_2_129 (by decide +kernel) ⟨by dsimp only; omega, by dsimp only; omega⟩) (j_preV (q0 := 1) (ci := 0) hK hP hD csc csc_all csc_nd cl_0 (ce_1 _ _ _) (fun _ _ _ _ h => h) (fun _ _ _ => trivial)) rfl rfl hl.1 rfl (lv_room (Nat.le_of_ble_eq_true rfl)) d_Engine_runIfElse_31 ⟨Nat.le_of_ble_eq_true rfl, Nat.le_of_ble_eq_true rfl⟩) (fun rv2 u2 H locs hw2 hP hD hS => ?_)
      have hP : va_P D classes (cW T ad S) H := hP
      have hD : va_D A (cW T ad S) := hD
      have rrv2 := zt_rng rv2
      refine lv_istore_n (lv' := [(2, .int rv2), (1, .int 0), (0, .ref (ad 72))]) hx hb d_Engine_runIfElse_34 rfl hl (by decide) rfl (fun ls hl => ?_)
      refine lv_aload_n hx hb d_Engine_runIfElse_35 rfl (lv_at hl 2 rfl) ?_
      refine va_get (D := D) (ci := 7) (v := .ref (ad 1)) (C := "PageScribe$Engine") (T := F_Engine) (N := 11) hx hb hts i_Engine hown hK hP 72 (ce_72 _ _ _) cl_7 0 (by decide) (hts _ k_2_22) (fun _ h9 => h9) rfl d_Engine_runIfElse_36 ?_
      refine lv_iconst (v := 3) hx hb d_Engine_runIfElse_39 (by decide) ?_
      refine jc_cv (w := (fun u => u)) hK hP hD hS hA (va_runU (As := [.int 3]) (rest := []) F (c_Row_drop l D T ad S (3 : Int32)  H.size ⟨i_vst, i_vc0, i_vc1, i_vc2, i_vc3, i_vv0, i_vv1, i_vv2, i_vv3, i_vg, i_wct, i_wln, i_sd0, i_sd1, i_sd2, i_sd3, i_rln, i_rtx, i_rpl, i_rtk, i_cnv, i_pts, i_cik, i_und⟩) (j_cU (k := 1) (C := "PageScribe$Stack") (owner := "PageScribe$Row") (x := ⟨"PageScribe$Stack", "drop", "(I)V"⟩) hts k_4_47 k_5_199 k_4_43 k_4_45 k_4_46 k_1_2 rfl (by decide +kernel) ⟨by dsimp only; omega, by dsimp only; omega⟩) (j_preV (q0 := 1) (ci := 0) hK hP hD csc csc_all csc_nd cl_0 (ce_1 _ _ _) (fun _ _ _ _ h => h) (fun _ _ _ => trivial)) rfl rfl hl.1 rfl (lv_room (Nat.le_of_ble_eq_true rfl)) d_Engine_runIfElse_40 ⟨Nat.le_of_ble_eq_true rfl, Nat.le_of_ble_eq_true rfl⟩) (fun S1 H locs hw3 hP hD hS => ?_)
      have hP : va_P D classes (cW T ad S1) H := hP
      have hD : va_D A (cW T ad S1) := hD
      obtain ⟨⟨i_vst, i_vc0, i_vc1, i_vc2, i_vc3, i_vv0, i_vv1, i_vv2, i_vv3, i_vg, i_wct, i_wln, i_sd0, i_sd1, i_sd2, i_sd3, i_rln, i_rtx, i_rpl, i_rtk, i_cnv, i_pts, i_cik, i_und⟩, kpcL_S1, kpcP_S1, kpcU_S1, kpcW_S1⟩ := hw3
      have kScL_S1 : kcL S S1 := kcL_t (show kcL S S from (kcL_r S)) kpcL_S1
      have kScP_S1 : kcP S S1 := kcP_t (show kcP S S from (kcP_r S)) kpcP_S1
      have kScU_S1 : kcU S S1 := kcU_t (show kcU S S from (kcU_r S)) kpcU_S1
      have kScW_S1 : kcW S S1 := kcW_t (show kcW S S from (kcW_r S)) kpcW_S1
      have nxr_length_S1 : (f_xr_length S1).toInt = (f_xr_length S).toInt := congrArg Int32.toInt kpcL_S1
      have nxr_length_S1 : (f_xr_length S1).toInt = (f_xr_length S).toInt := congrArg Int32.toInt kpcP_S1.1
      have nxr_place_S1 : (f_xr_place S1).toInt = (f_xr_place S).toInt := congrArg Int32.toInt kpcP_S1.2.1
      have nxe_underWay_S1 : (f_xe_underWay S1).toInt = (f_xe_underWay S).toInt := congrArg Int32.toInt kpcU_S1
      have nxp_columns_S1 : (f_xp_columns S1).toInt = (f_xp_columns S).toInt := congrArg Int32.toInt kpcW_S1.1
      have nxp_rows_S1 : (f_xp_rows S1).toInt = (f_xp_rows S).toInt := congrArg Int32.toInt kpcW_S1.2
      refine lv_aload_n hx hb d_Engine_runIfElse_43 rfl (lv_at hl 2 rfl) ?_
      refine lv_iload_n hx hb d_Engine_runIfElse_44 rfl (lv_at hl 0 rfl) ?_
      refine jc_ci (w := (fun u => u)) hK hP hD hS hA (va_runV (As := [.int rv2]) (rest := []) F (c_Engine_runArray l D T ad g Bq d hdv S1 rv2  H.size ⟨i_vst, i_vc0, i_vc1, i_vc2, i_vc3, i_vv0, i_vv1, i_vv2, i_vv3, i_vg, i_wct, i_wln, i_sd0, i_sd1, i_sd2, i_sd3, i_rln, i_rtx, i_rpl, i_rtk, i_cnv, i_pts, i_cik, i_und⟩ (show 8 ≤ (f_xe_underWay S1).toInt + d by omega)) (j_cV (k := 1) (C := "PageScribe$Engine") hts k_5_203 k_1_9 k_5_200 k_5_202 k_0_68 (by decide +kernel) ⟨by dsimp only; omega, by dsimp only; omega⟩) (j_preV (q0 := 72) (ci := 7) hK hP hD csc csc_all csc_nd cl_7 (ce_72 _ _ _) (fun _ _ _ _ h => EC.calling h) (fun U hU hW => EC.at hS hAB hU hW hE)) rfl rfl hl.1 rfl (lv_room (Nat.le_of_ble_eq_true rfl)) d_Engine_runIfElse_45 ⟨Nat.le_of_ble_eq_true rfl, Nat.le_of_ble_eq_true rfl⟩) (fun rv4 S2 H locs hw4 hP hD hS => ?_)
      have hP : va_P D classes (cW T ad S2) H := hP
      have hD : va_D A (cW T ad S2) := hD
      obtain ⟨⟨i_vst, i_vc0, i_vc1, i_vc2, i_vc3, i_vv0, i_vv1, i_vv2, i_vv3, i_vg, i_wct, i_wln, i_sd0, i_sd1, i_sd2, i_sd3, i_rln, i_rtx, i_rpl, i_rtk, i_cnv, i_pts, i_cik, i_und⟩, kpcL_S2, kpcP_S2, kpcU_S2, kpcW_S2⟩ := hw4
      have kScL_S2 : kcL S S2 := kcL_t (show kcL S S1 from kScL_S1) kpcL_S2
      have kScP_S2 : kcP S S2 := kcP_t (show kcP S S1 from kScP_S1) kpcP_S2
      have kScU_S2 : kcU S S2 := kcU_t (show kcU S S1 from kScU_S1) kpcU_S2
      have kScW_S2 : kcW S S2 := kcW_t (show kcW S S1 from kScW_S1) kpcW_S2
      have nxr_length_S2 : (f_xr_length S2).toInt = (f_xr_length S1).toInt := congrArg Int32.toInt kpcL_S2
      have nxr_length_S2 : (f_xr_length S2).toInt = (f_xr_length S1).toInt := congrArg Int32.toInt kpcP_S2.1
      have nxr_place_S2 : (f_xr_place S2).toInt = (f_xr_place S1).toInt := congrArg Int32.toInt kpcP_S2.2.1
      have nxe_underWay_S2 : (f_xe_underWay S2).toInt = (f_xe_underWay S1).toInt := congrArg Int32.toInt kpcU_S2
      have nxp_columns_S2 : (f_xp_columns S2).toInt = (f_xp_columns S1).toInt := congrArg Int32.toInt kpcW_S2.1
      have nxp_rows_S2 : (f_xp_rows S2).toInt = (f_xp_rows S1).toInt := congrArg Int32.toInt kpcW_S2.2
      have rrv4 := zt_rng rv4
      exact j_iret F hr hlocks hK hS S2 ⟨⟨i_vst, i_vc0, i_vc1, i_vc2, i_vc3, i_vv0, i_vv1, i_vv2, i_vv3, i_vg, i_wct, i_wln, i_sd0, i_sd1, i_sd2, i_sd3, i_rln, i_rtx, i_rpl, i_rtk, i_cnv, i_pts, i_cik, i_und⟩, kScL_S2, kScP_S2, kScU_S2, kScW_S2⟩ hP hD d_Engine_runIfElse_48
    · refine lv_iload_n hx hb d_Engine_runIfElse_22 rfl (lv_at hl 0 rfl) ?_
      refine lv_if_eq (tgt := 30) hx hb d_Engine_runIfElse_23 (by decide) (fun _ => ?_) (fun c9 => absurd c9 (by decide +kernel))
      refine lv_iconst (v := 0) hx hb d_Engine_runIfElse_30 (by decide) ?_
      exact key1 (0 : Int32) _ _ _ ⟨trivial, hP, hD, hS, lv_sub hl [0, 1] rfl⟩
  · have fc9_1 : rv1.toInt = 1 := zt_eq (show rv1.toInt = _ from rfl) tI_1 c9_1
    refine lv_iconst (v := 1) hx hb d_Engine_runIfElse_12 (by decide) ?_
    refine lv_goto (tgt := 17) hx hb d_Engine_runIfElse_13 (by decide) ?_
    refine lv_istore_n (lv' := [(1, .int 1), (0, .ref (ad 72))]) hx hb d_Engine_runIfElse_17 rfl hl (by decide) rfl (fun ls hl => ?_)
    refine lv_aload_n hx hb d_Engine_runIfElse_18 rfl (lv_at hl 1 rfl) ?_
    refine va_get (D := D) (ci := 7) (v := .ref (ad 1)) (C := "PageScribe$Engine") (T := F_Engine) (N := 11) hx hb hts i_Engine hown hK hP 72 (ce_72 _ _ _) cl_7 0 (by decide) (hts _ k_2_22) (fun _ h9 => h9) rfl d_Engine_runIfElse_19 ?_
    refine j_joinH (α := Int32) (fun x H locs ls => (True) ∧ va_P D classes (cW T ad S) H ∧ va_D A (cW T ad S) ∧ va_S A s.heap H locs ∧ lv_has ls 3 [(1, .int 1), (0, .ref (ad 72))]) (fun x ls => F0 m 31 ls (.int x :: [.ref (ad 1)])) (fun x H locs ls hI9 => ?_) (fun key2 => ?_)
    · obtain ⟨j2, rfl⟩ : ∃ z, z = x := ⟨_, rfl⟩
      obtain ⟨hj2, hP, hD, hS, hl⟩ := hI9
      have hP : va_P D classes (cW T ad S) H := hP
      have hD : va_D A (cW T ad S) := hD
      have hl : lv_has ls 3 [(1, .int 1), (0, .ref (ad 72))] := hl
      refine jc_ci (w := (fun _ => S)) hK hP hD hS hA (va_runV (As := [.int j2]) (rest := []) F (c_Stack_numberDown l D T ad S j2  H.size) (j_cV (k := 1) (C := "PageScribe$Stack") hts k_2_130 k_1_3 k_5_197 k_2_128 k_2_129 (by decide +kernel) ⟨by dsimp only; omega, by dsimp only; omega⟩) (j_preV (q0 := 1) (ci := 0) hK hP hD csc csc_all csc_nd cl_0 (ce_1 _ _ _) (fun _ _ _ _ h => h) (fun _ _ _ => trivial)) rfl rfl hl.1 rfl (lv_room (Nat.le_of_ble_eq_true rfl)) d_Engine_runIfElse_31 ⟨Nat.le_of_ble_eq_true rfl, Nat.le_of_ble_eq_true rfl⟩) (fun rv5 u3 H locs hw5 hP hD hS => ?_)
      have hP : va_P D classes (cW T ad S) H := hP
      have hD : va_D A (cW T ad S) := hD
      have rrv5 := zt_rng rv5
      refine lv_istore_n (lv' := [(2, .int rv5), (1, .int 1), (0, .ref (ad 72))]) hx hb d_Engine_runIfElse_34 rfl hl (by decide) rfl (fun ls hl => ?_)
      refine lv_aload_n hx hb d_Engine_runIfElse_35 rfl (lv_at hl 2 rfl) ?_
      refine va_get (D := D) (ci := 7) (v := .ref (ad 1)) (C := "PageScribe$Engine") (T := F_Engine) (N := 11) hx hb hts i_Engine hown hK hP 72 (ce_72 _ _ _) cl_7 0 (by decide) (hts _ k_2_22) (fun _ h9 => h9) rfl d_Engine_runIfElse_36 ?_
      refine lv_iconst (v := 3) hx hb d_Engine_runIfElse_39 (by decide) ?_
      refine jc_cv (w := (fun u => u)) hK hP hD hS hA (va_runU (As := [.int 3]) (rest := []) F (c_Row_drop l D T ad S (3 : Int32)  H.size ⟨i_vst, i_vc0, i_vc1, i_vc2, i_vc3, i_vv0, i_vv1, i_vv2, i_vv3, i_vg, i_wct, i_wln, i_sd0, i_sd1, i_sd2, i_sd3, i_rln, i_rtx, i_rpl, i_rtk, i_cnv, i_pts, i_cik, i_und⟩) (j_cU (k := 1) (C := "PageScribe$Stack") (owner := "PageScribe$Row") (x := ⟨"PageScribe$Stack", "drop", "(I)V"⟩) hts k_4_47 k_5_199 k_4_43 k_4_45 k_4_46 k_1_2 rfl (by decide +kernel) ⟨by dsimp only; omega, by dsimp only; omega⟩) (j_preV (q0 := 1) (ci := 0) hK hP hD csc csc_all csc_nd cl_0 (ce_1 _ _ _) (fun _ _ _ _ h => h) (fun _ _ _ => trivial)) rfl rfl hl.1 rfl (lv_room (Nat.le_of_ble_eq_true rfl)) d_Engine_runIfElse_40 ⟨Nat.le_of_ble_eq_true rfl, Nat.le_of_ble_eq_true rfl⟩) (fun S3 H locs hw6 hP hD hS => ?_)
      have hP : va_P D classes (cW T ad S3) H := hP
      have hD : va_D A (cW T ad S3) := hD
      obtain ⟨⟨i_vst, i_vc0, i_vc1, i_vc2, i_vc3, i_vv0, i_vv1, i_vv2, i_vv3, i_vg, i_wct, i_wln, i_sd0, i_sd1, i_sd2, i_sd3, i_rln, i_rtx, i_rpl, i_rtk, i_cnv, i_pts, i_cik, i_und⟩, kpcL_S3, kpcP_S3, kpcU_S3, kpcW_S3⟩ := hw6
      have kScL_S3 : kcL S S3 := kcL_t (show kcL S S from (kcL_r S)) kpcL_S3
      have kScP_S3 : kcP S S3 := kcP_t (show kcP S S from (kcP_r S)) kpcP_S3
      have kScU_S3 : kcU S S3 := kcU_t (show kcU S S from (kcU_r S)) kpcU_S3
      have kScW_S3 : kcW S S3 := kcW_t (show kcW S S from (kcW_r S)) kpcW_S3
      have nxr_length_S3 : (f_xr_length S3).toInt = (f_xr_length S).toInt := congrArg Int32.toInt kpcL_S3
      have nxr_length_S3 : (f_xr_length S3).toInt = (f_xr_length S).toInt := congrArg Int32.toInt kpcP_S3.1
      have nxr_place_S3 : (f_xr_place S3).toInt = (f_xr_place S).toInt := congrArg Int32.toInt kpcP_S3.2.1
      have nxe_underWay_S3 : (f_xe_underWay S3).toInt = (f_xe_underWay S).toInt := congrArg Int32.toInt kpcU_S3
      have nxp_columns_S3 : (f_xp_columns S3).toInt = (f_xp_columns S).toInt := congrArg Int32.toInt kpcW_S3.1
      have nxp_rows_S3 : (f_xp_rows S3).toInt = (f_xp_rows S).toInt := congrArg Int32.toInt kpcW_S3.2
      refine lv_aload_n hx hb d_Engine_runIfElse_43 rfl (lv_at hl 2 rfl) ?_
      refine lv_iload_n hx hb d_Engine_runIfElse_44 rfl (lv_at hl 0 rfl) ?_
      refine jc_ci (w := (fun u => u)) hK hP hD hS hA (va_runV (As := [.int rv5]) (rest := []) F (c_Engine_runArray l D T ad g Bq d hdv S3 rv5  H.size ⟨i_vst, i_vc0, i_vc1, i_vc2, i_vc3, i_vv0, i_vv1, i_vv2, i_vv3, i_vg, i_wct, i_wln, i_sd0, i_sd1, i_sd2, i_sd3, i_rln, i_rtx, i_rpl, i_rtk, i_cnv, i_pts, i_cik, i_und⟩ (show 8 ≤ (f_xe_underWay S3).toInt + d by omega)) (j_cV (k := 1) (C := "PageScribe$Engine") hts k_5_203 k_1_9 k_5_200 k_5_202 k_0_68 (by decide +kernel) ⟨by dsimp only; omega, by dsimp only; omega⟩) (j_preV (q0 := 72) (ci := 7) hK hP hD csc csc_all csc_nd cl_7 (ce_72 _ _ _) (fun _ _ _ _ h => EC.calling h) (fun U hU hW => EC.at hS hAB hU hW hE)) rfl rfl hl.1 rfl (lv_room (Nat.le_of_ble_eq_true rfl)) d_Engine_runIfElse_45 ⟨Nat.le_of_ble_eq_true rfl, Nat.le_of_ble_eq_true rfl⟩) (fun rv7 S4 H locs hw7 hP hD hS => ?_)
      have hP : va_P D classes (cW T ad S4) H := hP
      have hD : va_D A (cW T ad S4) := hD
      obtain ⟨⟨i_vst, i_vc0, i_vc1, i_vc2, i_vc3, i_vv0, i_vv1, i_vv2, i_vv3, i_vg, i_wct, i_wln, i_sd0, i_sd1, i_sd2, i_sd3, i_rln, i_rtx, i_rpl, i_rtk, i_cnv, i_pts, i_cik, i_und⟩, kpcL_S4, kpcP_S4, kpcU_S4, kpcW_S4⟩ := hw7
      have kScL_S4 : kcL S S4 := kcL_t (show kcL S S3 from kScL_S3) kpcL_S4
      have kScP_S4 : kcP S S4 := kcP_t (show kcP S S3 from kScP_S3) kpcP_S4
      have kScU_S4 : kcU S S4 := kcU_t (show kcU S S3 from kScU_S3) kpcU_S4
      have kScW_S4 : kcW S S4 := kcW_t (show kcW S S3 from kScW_S3) kpcW_S4
      have nxr_length_S4 : (f_xr_length S4).toInt = (f_xr_length S3).toInt := congrArg Int32.toInt kpcL_S4
      have nxr_length_S4 : (f_xr_length S4).toInt = (f_xr_length S3).toInt := congrArg Int32.toInt kpcP_S4.1
      have nxr_place_S4 : (f_xr_place S4).toInt = (f_xr_place S3).toInt := congrArg Int32.toInt kpcP_S4.2.1
      have nxe_underWay_S4 : (f_xe_underWay S4).toInt = (f_xe_underWay S3).toInt := congrArg Int32.toInt kpcU_S4
      have nxp_columns_S4 : (f_xp_columns S4).toInt = (f_xp_columns S3).toInt := congrArg Int32.toInt kpcW_S4.1
      have nxp_rows_S4 : (f_xp_rows S4).toInt = (f_xp_rows S3).toInt := congrArg Int32.toInt kpcW_S4.2
      have rrv7 := zt_rng rv7
      exact j_iret F hr hlocks hK hS S4 ⟨⟨i_vst, i_vc0, i_vc1, i_vc2, i_vc3, i_vv0, i_vv1, i_vv2, i_vv3, i_vg, i_wct, i_wln, i_sd0, i_sd1, i_sd2, i_sd3, i_rln, i_rtx, i_rpl, i_rtk, i_cnv, i_pts, i_cik, i_und⟩, kScL_S4, kScP_S4, kScU_S4, kScW_S4⟩ hP hD d_Engine_runIfElse_48
    · refine lv_iload_n hx hb d_Engine_runIfElse_22 rfl (lv_at hl 0 rfl) ?_
      refine lv_if_eq (tgt := 30) hx hb d_Engine_runIfElse_23 (by decide) (fun c9 => absurd c9 (by decide +kernel)) (fun _ => ?_)
      refine lv_iconst (v := 1) hx hb d_Engine_runIfElse_26 (by decide) ?_
      refine lv_goto (tgt := 31) hx hb d_Engine_runIfElse_27 (by decide) ?_
      exact key2 (1 : Int32) _ _ _ ⟨trivial, hP, hD, hS, lv_sub hl [0, 1] rfl⟩
theorem d_Engine_runFor_0 : decode prog_4_method_14_code 0 = .ok (.aload_n 0, 1) := by decide +kernel
theorem d_Engine_runFor_1 : decode prog_4_method_14_code 1 = .ok (.getfield 30, 3) := by decide +kernel
theorem d_Engine_runFor_4 : decode prog_4_method_14_code 4 = .ok (.iconst 3, 1) := by decide +kernel
theorem d_Engine_runFor_5 : decode prog_4_method_14_code 5 = .ok (.invokevirtual 215, 3) := by decide +kernel
theorem d_Engine_runFor_8 : decode prog_4_method_14_code 8 = .ok (.i2l, 1) := by decide +kernel
theorem d_Engine_runFor_9 : decode prog_4_method_14_code 9 = .ok (.lstore_n 1, 1) := by decide +kernel
theorem d_Engine_runFor_10 : decode prog_4_method_14_code 10 = .ok (.aload_n 0, 1) := by decide +kernel
theorem d_Engine_runFor_11 : decode prog_4_method_14_code 11 = .ok (.getfield 30, 3) := by decide +kernel
theorem d_Engine_runFor_14 : decode prog_4_method_14_code 14 = .ok (.iconst 2, 1) := by decide +kernel
theorem d_Engine_runFor_15 : decode prog_4_method_14_code 15 = .ok (.invokevirtual 215, 3) := by decide +kernel
theorem d_Engine_runFor_18 : decode prog_4_method_14_code 18 = .ok (.istore_n 3, 1) := by decide +kernel
theorem d_Engine_runFor_19 : decode prog_4_method_14_code 19 = .ok (.aload_n 0, 1) := by decide +kernel
theorem d_Engine_runFor_20 : decode prog_4_method_14_code 20 = .ok (.getfield 30, 3) := by decide +kernel
theorem d_Engine_runFor_23 : decode prog_4_method_14_code 23 = .ok (.iconst 1, 1) := by decide +kernel
theorem d_Engine_runFor_24 : decode prog_4_method_14_code 24 = .ok (.invokevirtual 215, 3) := by decide +kernel
theorem d_Engine_runFor_27 : decode prog_4_method_14_code 27 = .ok (.istore 4, 2) := by decide +kernel
theorem d_Engine_runFor_29 : decode prog_4_method_14_code 29 = .ok (.aload_n 0, 1) := by decide +kernel
theorem d_Engine_runFor_30 : decode prog_4_method_14_code 30 = .ok (.getfield 30, 3) := by decide +kernel
theorem d_Engine_runFor_33 : decode prog_4_method_14_code 33 = .ok (.iconst 0, 1) := by decide +kernel
theorem d_Engine_runFor_34 : decode prog_4_method_14_code 34 = .ok (.invokevirtual 215, 3) := by decide +kernel
theorem d_Engine_runFor_37 : decode prog_4_method_14_code 37 = .ok (.istore 5, 2) := by decide +kernel
theorem d_Engine_runFor_39 : decode prog_4_method_14_code 39 = .ok (.aload_n 0, 1) := by decide +kernel
theorem d_Engine_runFor_40 : decode prog_4_method_14_code 40 = .ok (.getfield 30, 3) := by decide +kernel
theorem d_Engine_runFor_43 : decode prog_4_method_14_code 43 = .ok (.iconst 4, 1) := by decide +kernel
theorem d_Engine_runFor_44 : decode prog_4_method_14_code 44 = .ok (.invokevirtual 221, 3) := by decide +kernel
theorem d_Engine_runFor_47 : decode prog_4_method_14_code 47 = .ok (.aload_n 0, 1) := by decide +kernel
theorem d_Engine_runFor_48 : decode prog_4_method_14_code 48 = .ok (.dup, 1) := by decide +kernel
theorem d_Engine_runFor_49 : decode prog_4_method_14_code 49 = .ok (.getfield 27, 3) := by decide +kernel
theorem k_2_34 : Cond.fieldLink "PageScribe$Engine" 27 "PageScribe$Engine" "loops" "I" ∈ gw := gw_of (tb_2 (List.mem_of_getElem? (i := 34) (by decide +kernel))) (by decide +kernel)
theorem d_Engine_runFor_52 : decode prog_4_method_14_code 52 = .ok (.iconst 1, 1) := by decide +kernel
theorem d_Engine_runFor_53 : decode prog_4_method_14_code 53 = .ok (.iadd, 1) := by decide +kernel
theorem d_Engine_runFor_54 : decode prog_4_method_14_code 54 = .ok (.putfield 27, 3) := by decide +kernel
theorem d_Engine_runFor_57 : decode prog_4_method_14_code 57 = .ok (.iconst 0, 1) := by decide +kernel
theorem d_Engine_runFor_58 : decode prog_4_method_14_code 58 = .ok (.istore 6, 2) := by decide +kernel
theorem d_Engine_runFor_60 : decode prog_4_method_14_code 60 = .ok (.iconst 0, 1) := by decide +kernel
theorem d_Engine_runFor_61 : decode prog_4_method_14_code 61 = .ok (.istore 7, 2) := by decide +kernel
theorem d_Engine_runFor_63 : decode prog_4_method_14_code 63 = .ok (.iload 7, 2) := by decide +kernel
theorem d_Engine_runFor_65 : decode prog_4_method_14_code 65 = .ok (.ldc 225, 2) := by decide +kernel
theorem k_5_228 : Cond.constant "PageScribe$Engine" 225 (1000000 : Int32) ∈ gw := gw_of (tb_5 (List.mem_of_getElem? (i := 228) (by decide +kernel))) (by decide +kernel)
theorem d_Engine_runFor_67 : decode prog_4_method_14_code 67 = .ok (.if_icmp .ge 77, 3) := by decide +kernel
theorem tI_1000000 : (1000000 : Int32).toInt = 1000000 := by decide +kernel
theorem d_Engine_runFor_144 : decode prog_4_method_14_code 144 = .ok (.aload_n 0, 1) := by decide +kernel
theorem d_Engine_runFor_145 : decode prog_4_method_14_code 145 = .ok (.dup, 1) := by decide +kernel
theorem d_Engine_runFor_146 : decode prog_4_method_14_code 146 = .ok (.getfield 27, 3) := by decide +kernel
theorem d_Engine_runFor_149 : decode prog_4_method_14_code 149 = .ok (.iconst 1, 1) := by decide +kernel
theorem d_Engine_runFor_150 : decode prog_4_method_14_code 150 = .ok (.isub, 1) := by decide +kernel
theorem d_Engine_runFor_151 : decode prog_4_method_14_code 151 = .ok (.putfield 27, 3) := by decide +kernel
theorem d_Engine_runFor_154 : decode prog_4_method_14_code 154 = .ok (.iload 6, 2) := by decide +kernel
theorem d_Engine_runFor_156 : decode prog_4_method_14_code 156 = .ok (.iconst (-1), 1) := by decide +kernel
theorem d_Engine_runFor_157 : decode prog_4_method_14_code 157 = .ok (.if_icmp .ne 7, 3) := by decide +kernel
theorem d_Engine_runFor_164 : decode prog_4_method_14_code 164 = .ok (.iload 6, 2) := by decide +kernel
theorem d_Engine_runFor_166 : decode prog_4_method_14_code 166 = .ok (.ireturn, 1) := by decide +kernel
theorem d_Engine_runFor_160 : decode prog_4_method_14_code 160 = .ok (.iconst 0, 1) := by decide +kernel
theorem d_Engine_runFor_161 : decode prog_4_method_14_code 161 = .ok (.goto 5, 3) := by decide +kernel
theorem d_Engine_runFor_70 : decode prog_4_method_14_code 70 = .ok (.iload 6, 2) := by decide +kernel
theorem d_Engine_runFor_72 : decode prog_4_method_14_code 72 = .ok (.ifCond .ne 72, 3) := by decide +kernel
theorem d_Engine_runFor_98 : decode prog_4_method_14_code 98 = .ok (.aload_n 0, 1) := by decide +kernel
theorem d_Engine_runFor_99 : decode prog_4_method_14_code 99 = .ok (.invokevirtual 58, 3) := by decide +kernel
theorem d_Engine_runFor_102 : decode prog_4_method_14_code 102 = .ok (.istore 6, 2) := by decide +kernel
theorem d_Engine_runFor_104 : decode prog_4_method_14_code 104 = .ok (.iload 6, 2) := by decide +kernel
theorem d_Engine_runFor_106 : decode prog_4_method_14_code 106 = .ok (.ifCond .ne 14, 3) := by decide +kernel
theorem d_Engine_runFor_120 : decode prog_4_method_14_code 120 = .ok (.iload 6, 2) := by decide +kernel
theorem d_Engine_runFor_122 : decode prog_4_method_14_code 122 = .ok (.ifCond .ne 11, 3) := by decide +kernel
theorem d_Engine_runFor_133 : decode prog_4_method_14_code 133 = .ok (.lload_n 1, 1) := by decide +kernel
theorem d_Engine_runFor_134 : decode prog_4_method_14_code 134 = .ok (.iload_n 3, 1) := by decide +kernel
theorem d_Engine_runFor_135 : decode prog_4_method_14_code 135 = .ok (.i2l, 1) := by decide +kernel
theorem d_Engine_runFor_136 : decode prog_4_method_14_code 136 = .ok (.ladd, 1) := by decide +kernel
theorem d_Engine_runFor_137 : decode prog_4_method_14_code 137 = .ok (.lstore_n 1, 1) := by decide +kernel
theorem d_Engine_runFor_138 : decode prog_4_method_14_code 138 = .ok (.iinc 7 1, 3) := by decide +kernel
theorem d_Engine_runFor_141 : decode prog_4_method_14_code 141 = .ok (.goto (-78), 3) := by decide +kernel
theorem d_Engine_runFor_125 : decode prog_4_method_14_code 125 = .ok (.aload_n 0, 1) := by decide +kernel
theorem d_Engine_runFor_126 : decode prog_4_method_14_code 126 = .ok (.iload 5, 2) := by decide +kernel
theorem d_Engine_runFor_128 : decode prog_4_method_14_code 128 = .ok (.invokevirtual 98, 3) := by decide +kernel
theorem d_Engine_runFor_131 : decode prog_4_method_14_code 131 = .ok (.istore 6, 2) := by decide +kernel
theorem d_Engine_runFor_109 : decode prog_4_method_14_code 109 = .ok (.aload_n 0, 1) := by decide +kernel
theorem d_Engine_runFor_110 : decode prog_4_method_14_code 110 = .ok (.getfield 30, 3) := by decide +kernel
theorem d_Engine_runFor_113 : decode prog_4_method_14_code 113 = .ok (.lload_n 1, 1) := by decide +kernel
theorem d_Engine_runFor_114 : decode prog_4_method_14_code 114 = .ok (.l2i, 1) := by decide +kernel
theorem d_Engine_runFor_115 : decode prog_4_method_14_code 115 = .ok (.invokevirtual 209, 3) := by decide +kernel
theorem k_5_229 : Cond.methodLink "PageScribe$Engine" 209 ⟨"PageScribe$Stack", "pushInt", "(I)I"⟩ ∈ gw := gw_of (tb_5 (List.mem_of_getElem? (i := 229) (by decide +kernel))) (by decide +kernel)
theorem d_Engine_runFor_118 : decode prog_4_method_14_code 118 = .ok (.istore 6, 2) := by decide +kernel
theorem d_Engine_runFor_75 : decode prog_4_method_14_code 75 = .ok (.iload_n 3, 1) := by decide +kernel
theorem d_Engine_runFor_76 : decode prog_4_method_14_code 76 = .ok (.ifCond .ge 14, 3) := by decide +kernel
theorem d_Engine_runFor_90 : decode prog_4_method_14_code 90 = .ok (.lload_n 1, 1) := by decide +kernel
theorem d_Engine_runFor_91 : decode prog_4_method_14_code 91 = .ok (.iload 4, 2) := by decide +kernel
theorem d_Engine_runFor_93 : decode prog_4_method_14_code 93 = .ok (.i2l, 1) := by decide +kernel
theorem d_Engine_runFor_94 : decode prog_4_method_14_code 94 = .ok (.lcmp, 1) := by decide +kernel
theorem d_Engine_runFor_95 : decode prog_4_method_14_code 95 = .ok (.ifCond .gt 49, 3) := by decide +kernel
theorem d_Engine_runFor_79 : decode prog_4_method_14_code 79 = .ok (.lload_n 1, 1) := by decide +kernel
theorem d_Engine_runFor_80 : decode prog_4_method_14_code 80 = .ok (.iload 4, 2) := by decide +kernel
theorem d_Engine_runFor_82 : decode prog_4_method_14_code 82 = .ok (.i2l, 1) := by decide +kernel
theorem d_Engine_runFor_83 : decode prog_4_method_14_code 83 = .ok (.lcmp, 1) := by decide +kernel
theorem d_Engine_runFor_84 : decode prog_4_method_14_code 84 = .ok (.ifCond .lt 60, 3) := by decide +kernel
theorem d_Engine_runFor_87 : decode prog_4_method_14_code 87 = .ok (.goto 11, 3) := by decide +kernel
set_option maxHeartbeats 4000000 in
set_option maxRecDepth 100000 in
theorem c_Engine_runFor (l : Launch) (D : va_G) (T : Nat → ClassId) (ad : Nat → Nat) (g : GE) (Bq : Nat → Prop) (d : Nat) (hdv : ∀ d2, d2 < d → DVP l D T ad g Bq d2) (S : CS)  (sz : Nat)  (hI : CIv S) (hd : 8 ≤ (f_xe_underWay S).toInt + d) : Met l ⟨"PageScribe$Engine", "runFor", "()I"⟩ (wy ⟨"PageScribe$Engine", "runFor", "()I"⟩ prog_4_method_14_code 8 (some .int)) ({ frames := 7 + 10 * d, cells := 0, slots := 0, locals := 70 * (7 + 10 * d) }) (va_Pc [.ref (ad 72)] (Pw D T (cW T ad S) sz (EC g Bq ad))) (va_Qi (fun (r : Int32) (u : CS) => CIv u ∧ kcL S u ∧ kcP S u ∧ kcU S u ∧ kcW S u) (fun u t => Bw D T (va_A (cW T ad S) sz) (cW T ad u) t) (va_A (cW T ad S) sz)) 0 0 (va_A (cW T ad S) sz) := by
  refine j_met (y := ⟨"PageScribe$Engine", "runFor", "()I"⟩) (b := prog_4_method_14_code) (n := 8) (ret := (some .int)) (av := [.ref (ad 72)]) (Qc := fun A => va_Qi (fun (r : Int32) (u : CS) => CIv u ∧ kcL S u ∧ kcP S u ∧ kcU S u ∧ kcW S u) (fun u t => Bw D T A (cW T ad u) t) A) (by decide +kernel) (Nat.le_of_ble_eq_true rfl) (fun p e s m args below meth c A ls F hr hlocks hnm hK hP hD hS hA hN hE hl => ?_)
  obtain ⟨hx, hb, hml, hown, hts⟩ := id F
  have hl : lv_has ls 8 [(0, .ref (ad 72))] := hl
  obtain ⟨i_vst, i_vc0, i_vc1, i_vc2, i_vc3, i_vv0, i_vv1, i_vv2, i_vv3, i_vg, i_wct, i_wln, i_sd0, i_sd1, i_sd2, i_sd3, i_rln, i_rtx, i_rpl, i_rtk, i_cnv, i_pts, i_cik, i_und⟩ := id hI
  have hAB : ∀ q, A q → Bq q := EC.ab hE hN
  have hEV := hE.1.narrow hAB
  refine lv_aload_n hx hb d_Engine_runFor_0 rfl (lv_at hl 0 rfl) ?_
  refine va_get (D := D) (ci := 7) (v := .ref (ad 1)) (C := "PageScribe$Engine") (T := F_Engine) (N := 11) hx hb hts i_Engine hown hK hP 72 (ce_72 _ _ _) cl_7 0 (by decide) (hts _ k_2_22) (fun _ h9 => h9) rfl d_Engine_runFor_1 ?_
  refine lv_iconst (v := 3) hx hb d_Engine_runFor_4 (by decide) ?_
  refine jc_ci (w := (fun _ => S)) hK hP hD hS hA (va_runV (As := [.int 3]) (rest := []) F (c_Stack_numberDown l D T ad S (3 : Int32)  s.heap.size) (j_cV (k := 1) (C := "PageScribe$Stack") hts k_2_130 k_1_3 k_5_197 k_2_128 k_2_129 (by decide +kernel) ⟨by dsimp only; omega, by dsimp only; omega⟩) (j_preV (q0 := 1) (ci := 0) hK hP hD csc csc_all csc_nd cl_0 (ce_1 _ _ _) (fun _ _ _ _ h => h) (fun _ _ _ => trivial)) rfl rfl hl.1 rfl (lv_room (Nat.le_of_ble_eq_true rfl)) d_Engine_runFor_5 ⟨Nat.le_of_ble_eq_true rfl, Nat.le_of_ble_eq_true rfl⟩) (fun rv1 u1 H locs hw1 hP hD hS => ?_)
  have hP : va_P D classes (cW T ad S) H := hP
  have hD : va_D A (cW T ad S) := hD
  have rrv1 := zt_rng rv1
  refine lv_i2l (v := (rv1).toInt64) hx hb d_Engine_runFor_8 rfl ?_
  refine lv_topl (fun x1 ex1 => ?_)
  have fx1 : x1.toInt = rv1.toInt := by rw [ex1]; exact zu_i2l (show rv1.toInt = _ from rfl)
  refine lv_lstore_n (lv' := [(1, .long x1), (0, .ref (ad 72))]) hx hb d_Engine_runFor_9 rfl hl (by decide) rfl (fun ls hl => ?_)
  refine lv_aload_n hx hb d_Engine_runFor_10 rfl (lv_at hl 1 rfl) ?_
  refine va_get (D := D) (ci := 7) (v := .ref (ad 1)) (C := "PageScribe$Engine") (T := F_Engine) (N := 11) hx hb hts i_Engine hown hK hP 72 (ce_72 _ _ _) cl_7 0 (by decide) (hts _ k_2_22) (fun _ h9 => h9) rfl d_Engine_runFor_11 ?_
  refine lv_iconst (v := 2) hx hb d_Engine_runFor_14 (by decide) ?_
  refine jc_ci (w := (fun _ => S)) hK hP hD hS hA (va_runV (As := [.int 2]) (rest := []) F (c_Stack_numberDown l D T ad S (2 : Int32)  H.size) (j_cV (k := 1) (C := "PageScribe$Stack") hts k_2_130 k_1_3 k_5_197 k_2_128 k_2_129 (by decide +kernel) ⟨by dsimp only; omega, by dsimp only; omega⟩) (j_preV (q0 := 1) (ci := 0) hK hP hD csc csc_all csc_nd cl_0 (ce_1 _ _ _) (fun _ _ _ _ h => h) (fun _ _ _ => trivial)) rfl rfl hl.1 rfl (lv_room (Nat.le_of_ble_eq_true rfl)) d_Engine_runFor_15 ⟨Nat.le_of_ble_eq_true rfl, Nat.le_of_ble_eq_true rfl⟩) (fun rv2 u2 H locs hw2 hP hD hS => ?_)
  have hP : va_P D classes (cW T ad S) H := hP
  have hD : va_D A (cW T ad S) := hD
  have rrv2 := zt_rng rv2
  refine lv_istore_n (lv' := [(3, .int rv2), (1, .long x1), (0, .ref (ad 72))]) hx hb d_Engine_runFor_18 rfl hl (by decide) rfl (fun ls hl => ?_)
  refine lv_aload_n hx hb d_Engine_runFor_19 rfl (lv_at hl 2 rfl) ?_
  refine va_get (D := D) (ci := 7) (v := .ref (ad 1)) (C := "PageScribe$Engine") (T := F_Engine) (N := 11) hx hb hts i_Engine hown hK hP 72 (ce_72 _ _ _) cl_7 0 (by decide) (hts _ k_2_22) (fun _ h9 => h9) rfl d_Engine_runFor_20 ?_
  refine lv_iconst (v := 1) hx hb d_Engine_runFor_23 (by decide) ?_
  refine jc_ci (w := (fun _ => S)) hK hP hD hS hA (va_runV (As := [.int 1]) (rest := []) F (c_Stack_numberDown l D T ad S (1 : Int32)  H.size) (j_cV (k := 1) (C := "PageScribe$Stack") hts k_2_130 k_1_3 k_5_197 k_2_128 k_2_129 (by decide +kernel) ⟨by dsimp only; omega, by dsimp only; omega⟩) (j_preV (q0 := 1) (ci := 0) hK hP hD csc csc_all csc_nd cl_0 (ce_1 _ _ _) (fun _ _ _ _ h => h) (fun _ _ _ => trivial)) rfl rfl hl.1 rfl (lv_room (Nat.le_of_ble_eq_true rfl)) d_Engine_runFor_24 ⟨Nat.le_of_ble_eq_true rfl, Nat.le_of_ble_eq_true rfl⟩) (fun rv3 u3 H locs hw3 hP hD hS => ?_)
  have hP : va_P D classes (cW T ad S) H := hP
  have hD : va_D A (cW T ad S) := hD
  have rrv3 := zt_rng rv3
  refine lv_istore (lv' := [(4, .int rv3), (3, .int rv2), (1, .long x1), (0, .ref (ad 72))]) hx hb d_Engine_runFor_27 hl (by decide) rfl (fun ls hl => ?_)
  refine lv_aload_n hx hb d_Engine_runFor_29 rfl (lv_at hl 3 rfl) ?_
  refine va_get (D := D) (ci := 7) (v := .ref (ad 1)) (C := "PageScribe$Engine") (T := F_Engine) (N := 11) hx hb hts i_Engine hown hK hP 72 (ce_72 _ _ _) cl_7 0 (by decide) (hts _ k_2_22) (fun _ h9 => h9) rfl d_Engine_runFor_30 ?_
  refine lv_iconst (v := 0) hx hb d_Engine_runFor_33 (by decide) ?_
  refine jc_ci (w := (fun _ => S)) hK hP hD hS hA (va_runV (As := [.int 0]) (rest := []) F (c_Stack_numberDown l D T ad S (0 : Int32)  H.size) (j_cV (k := 1) (C := "PageScribe$Stack") hts k_2_130 k_1_3 k_5_197 k_2_128 k_2_129 (by decide +kernel) ⟨by dsimp only; omega, by dsimp only; omega⟩) (j_preV (q0 := 1) (ci := 0) hK hP hD csc csc_all csc_nd cl_0 (ce_1 _ _ _) (fun _ _ _ _ h => h) (fun _ _ _ => trivial)) rfl rfl hl.1 rfl (lv_room (Nat.le_of_ble_eq_true rfl)) d_Engine_runFor_34 ⟨Nat.le_of_ble_eq_true rfl, Nat.le_of_ble_eq_true rfl⟩) (fun rv4 u4 H locs hw4 hP hD hS => ?_)
  have hP : va_P D classes (cW T ad S) H := hP
  have hD : va_D A (cW T ad S) := hD
  have rrv4 := zt_rng rv4
  refine lv_istore (lv' := [(5, .int rv4), (4, .int rv3), (3, .int rv2), (1, .long x1), (0, .ref (ad 72))]) hx hb d_Engine_runFor_37 hl (by decide) rfl (fun ls hl => ?_)
  refine lv_aload_n hx hb d_Engine_runFor_39 rfl (lv_at hl 4 rfl) ?_
  refine va_get (D := D) (ci := 7) (v := .ref (ad 1)) (C := "PageScribe$Engine") (T := F_Engine) (N := 11) hx hb hts i_Engine hown hK hP 72 (ce_72 _ _ _) cl_7 0 (by decide) (hts _ k_2_22) (fun _ h9 => h9) rfl d_Engine_runFor_40 ?_
  refine lv_iconst (v := 4) hx hb d_Engine_runFor_43 (by decide) ?_
  refine jc_cv (w := (fun u => u)) hK hP hD hS hA (va_runU (As := [.int 4]) (rest := []) F (c_Row_drop l D T ad S (4 : Int32)  H.size ⟨i_vst, i_vc0, i_vc1, i_vc2, i_vc3, i_vv0, i_vv1, i_vv2, i_vv3, i_vg, i_wct, i_wln, i_sd0, i_sd1, i_sd2, i_sd3, i_rln, i_rtx, i_rpl, i_rtk, i_cnv, i_pts, i_cik, i_und⟩) (j_cU (k := 1) (C := "PageScribe$Stack") (owner := "PageScribe$Row") (x := ⟨"PageScribe$Stack", "drop", "(I)V"⟩) hts k_4_47 k_5_199 k_4_43 k_4_45 k_4_46 k_1_2 rfl (by decide +kernel) ⟨by dsimp only; omega, by dsimp only; omega⟩) (j_preV (q0 := 1) (ci := 0) hK hP hD csc csc_all csc_nd cl_0 (ce_1 _ _ _) (fun _ _ _ _ h => h) (fun _ _ _ => trivial)) rfl rfl hl.1 rfl (lv_room (Nat.le_of_ble_eq_true rfl)) d_Engine_runFor_44 ⟨Nat.le_of_ble_eq_true rfl, Nat.le_of_ble_eq_true rfl⟩) (fun S1 H locs hw5 hP hD hS => ?_)
  have hP : va_P D classes (cW T ad S1) H := hP
  have hD : va_D A (cW T ad S1) := hD
  obtain ⟨⟨i_vst, i_vc0, i_vc1, i_vc2, i_vc3, i_vv0, i_vv1, i_vv2, i_vv3, i_vg, i_wct, i_wln, i_sd0, i_sd1, i_sd2, i_sd3, i_rln, i_rtx, i_rpl, i_rtk, i_cnv, i_pts, i_cik, i_und⟩, kpcL_S1, kpcP_S1, kpcU_S1, kpcW_S1⟩ := hw5
  have kScL_S1 : kcL S S1 := kcL_t (show kcL S S from (kcL_r S)) kpcL_S1
  have kScP_S1 : kcP S S1 := kcP_t (show kcP S S from (kcP_r S)) kpcP_S1
  have kScU_S1 : kcU S S1 := kcU_t (show kcU S S from (kcU_r S)) kpcU_S1
  have kScW_S1 : kcW S S1 := kcW_t (show kcW S S from (kcW_r S)) kpcW_S1
  have nxr_length_S1 : (f_xr_length S1).toInt = (f_xr_length S).toInt := congrArg Int32.toInt kpcL_S1
  have nxr_length_S1 : (f_xr_length S1).toInt = (f_xr_length S).toInt := congrArg Int32.toInt kpcP_S1.1
  have nxr_place_S1 : (f_xr_place S1).toInt = (f_xr_place S).toInt := congrArg Int32.toInt kpcP_S1.2.1
  have nxe_underWay_S1 : (f_xe_underWay S1).toInt = (f_xe_underWay S).toInt := congrArg Int32.toInt kpcU_S1
  have nxp_columns_S1 : (f_xp_columns S1).toInt = (f_xp_columns S).toInt := congrArg Int32.toInt kpcW_S1.1
  have nxp_rows_S1 : (f_xp_rows S1).toInt = (f_xp_rows S).toInt := congrArg Int32.toInt kpcW_S1.2
  refine lv_aload_n hx hb d_Engine_runFor_47 rfl (lv_at hl 4 rfl) ?_
  refine lv_dup hx hb d_Engine_runFor_48 rfl ?_
  refine va_get (D := D) (ci := 7) (v := .int (f_xe_loops S1)) (C := "PageScribe$Engine") (T := F_Engine) (N := 11) hx hb hts i_Engine hown hK hP 72 (ce_72 _ _ _) cl_7 10 (by decide) (hts _ k_2_34) (fun _ h9 => h9) rfl d_Engine_runFor_49 ?_
  refine lv_iconst (v := 1) hx hb d_Engine_runFor_52 (by decide) ?_
  refine lv_iadd hx hb d_Engine_runFor_53 ?_
  refine lv_topi (fun x2 ex2 => ?_)
  have rx2 := zt_rng x2
  refine va_put (D := D) (ci := 7) (v := .int x2) (ty := .int) (C := "PageScribe$Engine") (T := F_Engine) (N := 11) hx hb hts i_Engine t_Engine t_Engine_ok n_Engine hown hK hP hD hS 72 (ce_72 _ _ _) cl_7 10 (by decide) (hts _ k_2_34) (fun _ h9 => h9) rfl (by decide +kernel) rfl rfl (Nat.le_of_ble_eq_true rfl) d_Engine_runFor_54 (fun H locs hP hD hS => ?_)
  rw [cp_xe_loops] at hP hD
  have hP : va_P D classes (cW T ad ((S1.1, S1.2.1, S1.2.2.1, S1.2.2.2.1, S1.2.2.2.2.1, S1.2.2.2.2.2.1, S1.2.2.2.2.2.2.1, S1.2.2.2.2.2.2.2.1, ((f_xe_fuelGiven S1), (f_xe_stepsDone S1), (f_xe_latestFault S1), (f_xe_underWay S1), (f_xe_reach S1), x2)) : CS)) H := hP
  have hD : va_D A (cW T ad ((S1.1, S1.2.1, S1.2.2.1, S1.2.2.2.1, S1.2.2.2.2.1, S1.2.2.2.2.2.1, S1.2.2.2.2.2.2.1, S1.2.2.2.2.2.2.2.1, ((f_xe_fuelGiven S1), (f_xe_stepsDone S1), (f_xe_latestFault S1), (f_xe_underWay S1), (f_xe_reach S1), x2)) : CS)) := hD
  refine lv_iconst (v := 0) hx hb d_Engine_runFor_57 (by decide) ?_
  refine lv_istore (lv' := [(6, .int 0), (5, .int rv4), (4, .int rv3), (3, .int rv2), (1, .long x1), (0, .ref (ad 72))]) hx hb d_Engine_runFor_58 hl (by decide) rfl (fun ls hl => ?_)
  refine lv_iconst (v := 0) hx hb d_Engine_runFor_60 (by decide) ?_
  refine lv_istore (lv' := [(7, .int 0), (6, .int 0), (5, .int rv4), (4, .int rv3), (3, .int rv2), (1, .long x1), (0, .ref (ad 72))]) hx hb d_Engine_runFor_61 hl (by decide) rfl (fun ls hl => ?_)
  refine j_loop (α := CS × Int64 × Int32 × Int32) (fun k x H locs ls => (0 ≤ x.2.2.2.toInt ∧ x.2.2.2.toInt ≤ 1000000 ∧ 1000000 ≤ x.2.2.2.toInt + ((k : Nat) : Int)) ∧ CIv x.1 ∧ kcL S x.1 ∧ kcP S x.1 ∧ kcU S x.1 ∧ kcW S x.1 ∧ va_P D classes (cW T ad x.1) H ∧ va_D A (cW T ad x.1) ∧ va_S A s.heap H locs ∧ lv_has ls 8 [(7, .int x.2.2.2), (6, .int x.2.2.1), (5, .int rv4), (4, .int rv3), (3, .int rv2), (1, .long x.2.1), (0, .ref (ad 72))]) (fun _ _ ls => F0 m 63 ls []) (fun k x H locs ls hI9 ih => ?_) 1000000 (((S1.1, S1.2.1, S1.2.2.1, S1.2.2.2.1, S1.2.2.2.2.1, S1.2.2.2.2.2.1, S1.2.2.2.2.2.2.1, S1.2.2.2.2.2.2.2.1, ((f_xe_fuelGiven S1), (f_xe_stepsDone S1), (f_xe_latestFault S1), (f_xe_underWay S1), (f_xe_reach S1), x2)) : CS), x1, (0 : Int32), (0 : Int32)) _ _ _ ⟨(show 0 ≤ (0 : Int32).toInt ∧ (0 : Int32).toInt ≤ 1000000 ∧ 1000000 ≤ (0 : Int32).toInt + ((1000000 : Nat) : Int) by have := tI_0; have := tI_0; omega), ⟨i_vst, i_vc0, i_vc1, i_vc2, i_vc3, i_vv0, i_vv1, i_vv2, i_vv3, i_vg, i_wct, i_wln, i_sd0, i_sd1, i_sd2, i_sd3, i_rln, i_rtx, i_rpl, i_rtk, i_cnv, i_pts, i_cik, i_und⟩, (show kcL S ((S1.1, S1.2.1, S1.2.2.1, S1.2.2.2.1, S1.2.2.2.2.1, S1.2.2.2.2.2.1, S1.2.2.2.2.2.2.1, S1.2.2.2.2.2.2.2.1, ((f_xe_fuelGiven S1), (f_xe_stepsDone S1), (f_xe_latestFault S1), (f_xe_underWay S1), (f_xe_reach S1), x2)) : CS) from kScL_S1), (show kcP S ((S1.1, S1.2.1, S1.2.2.1, S1.2.2.2.1, S1.2.2.2.2.1, S1.2.2.2.2.2.1, S1.2.2.2.2.2.2.1, S1.2.2.2.2.2.2.2.1, ((f_xe_fuelGiven S1), (f_xe_stepsDone S1), (f_xe_latestFault S1), (f_xe_underWay S1), (f_xe_reach S1), x2)) : CS) from kScP_S1), (show kcU S ((S1.1, S1.2.1, S1.2.2.1, S1.2.2.2.1, S1.2.2.2.2.1, S1.2.2.2.2.2.1, S1.2.2.2.2.2.2.1, S1.2.2.2.2.2.2.2.1, ((f_xe_fuelGiven S1), (f_xe_stepsDone S1), (f_xe_latestFault S1), (f_xe_underWay S1), (f_xe_reach S1), x2)) : CS) from kScU_S1), (show kcW S ((S1.1, S1.2.1, S1.2.2.1, S1.2.2.2.1, S1.2.2.2.2.1, S1.2.2.2.2.2.1, S1.2.2.2.2.2.2.1, S1.2.2.2.2.2.2.2.1, ((f_xe_fuelGiven S1), (f_xe_stepsDone S1), (f_xe_latestFault S1), (f_xe_underWay S1), (f_xe_reach S1), x2)) : CS) from kScW_S1), hP, hD, hS, lv_sub hl [0, 1, 2, 3, 4, 5, 6] rfl⟩
  obtain ⟨S2, v, e, i⟩ := x
  obtain ⟨hf1, hIx, klcL_S2, klcP_S2, klcU_S2, klcW_S2, hP, hD, hS, hl⟩ := hI9
  obtain ⟨i_vst, i_vc0, i_vc1, i_vc2, i_vc3, i_vv0, i_vv1, i_vv2, i_vv3, i_vg, i_wct, i_wln, i_sd0, i_sd1, i_sd2, i_sd3, i_rln, i_rtx, i_rpl, i_rtk, i_cnv, i_pts, i_cik, i_und⟩ := (show CIv S2 from hIx)
  have klcL_S2 : kcL S S2 := klcL_S2
  have klcP_S2 : kcP S S2 := klcP_S2
  have klcU_S2 : kcU S S2 := klcU_S2
  have klcW_S2 : kcW S S2 := klcW_S2
  have hf1 : 0 ≤ i.toInt ∧ i.toInt ≤ 1000000 ∧ 1000000 ≤ i.toInt + ((k : Nat) : Int) := hf1
  have hP : va_P D classes (cW T ad S2) H := hP
  have hD : va_D A (cW T ad S2) := hD
  have hl : lv_has ls 8 [(7, .int i), (6, .int e), (5, .int rv4), (4, .int rv3), (3, .int rv2), (1, .long v), (0, .ref (ad 72))] := hl
  have hu_S2 : (f_xe_underWay S2).toInt = (f_xe_underWay S).toInt := congrArg Int32.toInt klcU_S2
  refine lv_iload hx hb d_Engine_runFor_63 (lv_at hl 0 rfl) ?_
  refine lv_ldc (v := 1000000) hx hb hown (hts _ k_5_228) d_Engine_runFor_65 ?_
  refine lv_icmp_ge (tgt := 144) hx hb d_Engine_runFor_67 (by decide) (fun c67_1 => ?_) (fun c67_1 => ?_)
  · have fc67_1 : 1000000 ≤ i.toInt := zt_le tI_1000000 (show i.toInt = _ from rfl) c67_1
    refine lv_aload_n hx hb d_Engine_runFor_144 rfl (lv_at hl 6 rfl) ?_
    refine lv_dup hx hb d_Engine_runFor_145 rfl ?_
    refine va_get (D := D) (ci := 7) (v := .int (f_xe_loops S2)) (C := "PageScribe$Engine") (T := F_Engine) (N := 11) hx hb hts i_Engine hown hK hP 72 (ce_72 _ _ _) cl_7 10 (by decide) (hts _ k_2_34) (fun _ h9 => h9) rfl d_Engine_runFor_146 ?_
    refine lv_iconst (v := 1) hx hb d_Engine_runFor_149 (by decide) ?_
    refine lv_isub hx hb d_Engine_runFor_150 ?_
    refine lv_topi (fun x3 ex3 => ?_)
    have rx3 := zt_rng x3
    refine va_put (D := D) (ci := 7) (v := .int x3) (ty := .int) (C := "PageScribe$Engine") (T := F_Engine) (N := 11) hx hb hts i_Engine t_Engine t_Engine_ok n_Engine hown hK hP hD hS 72 (ce_72 _ _ _) cl_7 10 (by decide) (hts _ k_2_34) (fun _ h9 => h9) rfl (by decide +kernel) rfl rfl (Nat.le_of_ble_eq_true rfl) d_Engine_runFor_151 (fun H locs hP hD hS => ?_)
    rw [cp_xe_loops] at hP hD
    have hP : va_P D classes (cW T ad ((S2.1, S2.2.1, S2.2.2.1, S2.2.2.2.1, S2.2.2.2.2.1, S2.2.2.2.2.2.1, S2.2.2.2.2.2.2.1, S2.2.2.2.2.2.2.2.1, ((f_xe_fuelGiven S2), (f_xe_stepsDone S2), (f_xe_latestFault S2), (f_xe_underWay S2), (f_xe_reach S2), x3)) : CS)) H := hP
    have hD : va_D A (cW T ad ((S2.1, S2.2.1, S2.2.2.1, S2.2.2.2.1, S2.2.2.2.2.1, S2.2.2.2.2.2.1, S2.2.2.2.2.2.2.1, S2.2.2.2.2.2.2.2.1, ((f_xe_fuelGiven S2), (f_xe_stepsDone S2), (f_xe_latestFault S2), (f_xe_underWay S2), (f_xe_reach S2), x3)) : CS)) := hD
    refine lv_iload hx hb d_Engine_runFor_154 (lv_at hl 1 rfl) ?_
    refine lv_iconst (v := (-1)) hx hb d_Engine_runFor_156 (by decide) ?_
    refine lv_icmp_ne (tgt := 164) hx hb d_Engine_runFor_157 (by decide) (fun c157_1 => ?_) (fun c157_1 => ?_)
    · first | have fc157_1 : e.toInt < (-1) := (by have := zt_ne (show e.toInt = _ from rfl) tI_m1 c157_1; omega) | have fc157_1 : (-1) < e.toInt := (by have := zt_ne (show e.toInt = _ from rfl) tI_m1 c157_1; omega) | skip
      refine lv_iload hx hb d_Engine_runFor_164 (lv_at hl 1 rfl) ?_
      exact j_iret F hr hlocks hK hS ((S2.1, S2.2.1, S2.2.2.1, S2.2.2.2.1, S2.2.2.2.2.1, S2.2.2.2.2.2.1, S2.2.2.2.2.2.2.1, S2.2.2.2.2.2.2.2.1, ((f_xe_fuelGiven S2), (f_xe_stepsDone S2), (f_xe_latestFault S2), (f_xe_underWay S2), (f_xe_reach S2), x3)) : CS) ⟨⟨i_vst, i_vc0, i_vc1, i_vc2, i_vc3, i_vv0, i_vv1, i_vv2, i_vv3, i_vg, i_wct, i_wln, i_sd0, i_sd1, i_sd2, i_sd3, i_rln, i_rtx, i_rpl, i_rtk, i_cnv, i_pts, i_cik, i_und⟩, klcL_S2, klcP_S2, klcU_S2, klcW_S2⟩ hP hD d_Engine_runFor_166
    · have fc157_1 : e.toInt = (-1) := zt_eq (show e.toInt = _ from rfl) tI_m1 c157_1
      refine lv_iconst (v := 0) hx hb d_Engine_runFor_160 (by decide) ?_
      refine lv_goto (tgt := 166) hx hb d_Engine_runFor_161 (by decide) ?_
      exact j_iret F hr hlocks hK hS ((S2.1, S2.2.1, S2.2.2.1, S2.2.2.2.1, S2.2.2.2.2.1, S2.2.2.2.2.2.1, S2.2.2.2.2.2.2.1, S2.2.2.2.2.2.2.2.1, ((f_xe_fuelGiven S2), (f_xe_stepsDone S2), (f_xe_latestFault S2), (f_xe_underWay S2), (f_xe_reach S2), x3)) : CS) ⟨⟨i_vst, i_vc0, i_vc1, i_vc2, i_vc3, i_vv0, i_vv1, i_vv2, i_vv3, i_vg, i_wct, i_wln, i_sd0, i_sd1, i_sd2, i_sd3, i_rln, i_rtx, i_rpl, i_rtk, i_cnv, i_pts, i_cik, i_und⟩, klcL_S2, klcP_S2, klcU_S2, klcW_S2⟩ hP hD d_Engine_runFor_166
  · have fc67_1 : i.toInt < 1000000 := Int.not_le.mp (zt_nle tI_1000000 (show i.toInt = _ from rfl) c67_1)
    refine lv_iload hx hb d_Engine_runFor_70 (lv_at hl 1 rfl) ?_
    refine lv_if_ne (tgt := 144) hx hb d_Engine_runFor_72 (by decide) (fun c72_1 => ?_) (fun c72_1 => ?_)
    · first | have fc72_1 : e.toInt < 0 := (by have := zt_ne (show e.toInt = _ from rfl) tI_0 c72_1; omega) | have fc72_1 : 0 < e.toInt := (by have := zt_ne (show e.toInt = _ from rfl) tI_0 c72_1; omega) | skip
      refine lv_aload_n hx hb d_Engine_runFor_144 rfl (lv_at hl 6 rfl) ?_
      refine lv_dup hx hb d_Engine_runFor_145 rfl ?_
      refine va_get (D := D) (ci := 7) (v := .int (f_xe_loops S2)) (C := "PageScribe$Engine") (T := F_Engine) (N := 11) hx hb hts i_Engine hown hK hP 72 (ce_72 _ _ _) cl_7 10 (by decide) (hts _ k_2_34) (fun _ h9 => h9) rfl d_Engine_runFor_146 ?_
      refine lv_iconst (v := 1) hx hb d_Engine_runFor_149 (by decide) ?_
      refine lv_isub hx hb d_Engine_runFor_150 ?_
      refine lv_topi (fun x4 ex4 => ?_)
      have rx4 := zt_rng x4
      refine va_put (D := D) (ci := 7) (v := .int x4) (ty := .int) (C := "PageScribe$Engine") (T := F_Engine) (N := 11) hx hb hts i_Engine t_Engine t_Engine_ok n_Engine hown hK hP hD hS 72 (ce_72 _ _ _) cl_7 10 (by decide) (hts _ k_2_34) (fun _ h9 => h9) rfl (by decide +kernel) rfl rfl (Nat.le_of_ble_eq_true rfl) d_Engine_runFor_151 (fun H locs hP hD hS => ?_)
      rw [cp_xe_loops] at hP hD
      have hP : va_P D classes (cW T ad ((S2.1, S2.2.1, S2.2.2.1, S2.2.2.2.1, S2.2.2.2.2.1, S2.2.2.2.2.2.1, S2.2.2.2.2.2.2.1, S2.2.2.2.2.2.2.2.1, ((f_xe_fuelGiven S2), (f_xe_stepsDone S2), (f_xe_latestFault S2), (f_xe_underWay S2), (f_xe_reach S2), x4)) : CS)) H := hP
      have hD : va_D A (cW T ad ((S2.1, S2.2.1, S2.2.2.1, S2.2.2.2.1, S2.2.2.2.2.1, S2.2.2.2.2.2.1, S2.2.2.2.2.2.2.1, S2.2.2.2.2.2.2.2.1, ((f_xe_fuelGiven S2), (f_xe_stepsDone S2), (f_xe_latestFault S2), (f_xe_underWay S2), (f_xe_reach S2), x4)) : CS)) := hD
      refine lv_iload hx hb d_Engine_runFor_154 (lv_at hl 1 rfl) ?_
      refine lv_iconst (v := (-1)) hx hb d_Engine_runFor_156 (by decide) ?_
      refine lv_icmp_ne (tgt := 164) hx hb d_Engine_runFor_157 (by decide) (fun c157_2 => ?_) (fun c157_2 => ?_)
      · first | have fc157_2 : e.toInt < (-1) := (by have := zt_ne (show e.toInt = _ from rfl) tI_m1 c157_2; omega) | have fc157_2 : (-1) < e.toInt := (by have := zt_ne (show e.toInt = _ from rfl) tI_m1 c157_2; omega) | skip
        refine lv_iload hx hb d_Engine_runFor_164 (lv_at hl 1 rfl) ?_
        exact j_iret F hr hlocks hK hS ((S2.1, S2.2.1, S2.2.2.1, S2.2.2.2.1, S2.2.2.2.2.1, S2.2.2.2.2.2.1, S2.2.2.2.2.2.2.1, S2.2.2.2.2.2.2.2.1, ((f_xe_fuelGiven S2), (f_xe_stepsDone S2), (f_xe_latestFault S2), (f_xe_underWay S2), (f_xe_reach S2), x4)) : CS) ⟨⟨i_vst, i_vc0, i_vc1, i_vc2, i_vc3, i_vv0, i_vv1, i_vv2, i_vv3, i_vg, i_wct, i_wln, i_sd0, i_sd1, i_sd2, i_sd3, i_rln, i_rtx, i_rpl, i_rtk, i_cnv, i_pts, i_cik, i_und⟩, klcL_S2, klcP_S2, klcU_S2, klcW_S2⟩ hP hD d_Engine_runFor_166
      · have fc157_2 : e.toInt = (-1) := zt_eq (show e.toInt = _ from rfl) tI_m1 c157_2
        refine lv_iconst (v := 0) hx hb d_Engine_runFor_160 (by decide) ?_
        refine lv_goto (tgt := 166) hx hb d_Engine_runFor_161 (by decide) ?_
        exact j_iret F hr hlocks hK hS ((S2.1, S2.2.1, S2.2.2.1, S2.2.2.2.1, S2.2.2.2.2.1, S2.2.2.2.2.2.1, S2.2.2.2.2.2.2.1, S2.2.2.2.2.2.2.2.1, ((f_xe_fuelGiven S2), (f_xe_stepsDone S2), (f_xe_latestFault S2), (f_xe_underWay S2), (f_xe_reach S2), x4)) : CS) ⟨⟨i_vst, i_vc0, i_vc1, i_vc2, i_vc3, i_vv0, i_vv1, i_vv2, i_vv3, i_vg, i_wct, i_wln, i_sd0, i_sd1, i_sd2, i_sd3, i_rln, i_rtx, i_rpl, i_rtk, i_cnv, i_pts, i_cik, i_und⟩, klcL_S2, klcP_S2, klcU_S2, klcW_S2⟩ hP hD d_Engine_runFor_166
    · have fc72_1 : e.toInt = 0 := zt_eq (show e.toInt = _ from rfl) tI_0 c72_1
      refine j_joinH (α := Unit) (fun x H locs ls => (True) ∧ va_P D classes (cW T ad S2) H ∧ va_D A (cW T ad S2) ∧ va_S A s.heap H locs ∧ lv_has ls 8 [(7, .int i), (6, .int e), (5, .int rv4), (4, .int rv3), (3, .int rv2), (1, .long v), (0, .ref (ad 72))]) (fun x ls => F0 m 98 ls ([])) (fun x H locs ls hI9 => ?_) (fun key1 => ?_)
      · obtain ⟨hj1, hP, hD, hS, hl⟩ := hI9
        have hP : va_P D classes (cW T ad S2) H := hP
        have hD : va_D A (cW T ad S2) := hD
        have hl : lv_has ls 8 [(7, .int i), (6, .int e), (5, .int rv4), (4, .int rv3), (3, .int rv2), (1, .long v), (0, .ref (ad 72))] := hl
        refine lv_aload_n hx hb d_Engine_runFor_98 rfl (lv_at hl 6 rfl) ?_
        refine jc_ci (w := (fun u => u)) hK hP hD hS hA (va_runV (As := []) (rest := []) F (c_Engine_countStep l D T ad S2  H.size ⟨i_vst, i_vc0, i_vc1, i_vc2, i_vc3, i_vv0, i_vv1, i_vv2, i_vv3, i_vg, i_wct, i_wln, i_sd0, i_sd1, i_sd2, i_sd3, i_rln, i_rtx, i_rpl, i_rtk, i_cnv, i_pts, i_cik, i_und⟩) (j_cV (k := 0) (C := "PageScribe$Engine") hts k_3_171 k_1_9 k_3_168 k_3_170 k_0_14 (by decide +kernel) ⟨by dsimp only; omega, by dsimp only; omega⟩) (j_preV (q0 := 72) (ci := 7) hK hP hD csc csc_all csc_nd cl_7 (ce_72 _ _ _) (fun _ _ _ _ h => h) (fun _ _ _ => trivial)) rfl rfl hl.1 rfl (lv_room (Nat.le_of_ble_eq_true rfl)) d_Engine_runFor_99 ⟨Nat.le_of_ble_eq_true rfl, Nat.le_of_ble_eq_true rfl⟩) (fun rv6 S3 H locs hw6 hP hD hS => ?_)
        have hP : va_P D classes (cW T ad S3) H := hP
        have hD : va_D A (cW T ad S3) := hD
        obtain ⟨⟨i_vst, i_vc0, i_vc1, i_vc2, i_vc3, i_vv0, i_vv1, i_vv2, i_vv3, i_vg, i_wct, i_wln, i_sd0, i_sd1, i_sd2, i_sd3, i_rln, i_rtx, i_rpl, i_rtk, i_cnv, i_pts, i_cik, i_und⟩, kpcL_S3, kpcP_S3, kpcU_S3, kpcW_S3⟩ := hw6
        have kScL_S3 : kcL S S3 := kcL_t (show kcL S S2 from klcL_S2) kpcL_S3
        have kScP_S3 : kcP S S3 := kcP_t (show kcP S S2 from klcP_S2) kpcP_S3
        have kScU_S3 : kcU S S3 := kcU_t (show kcU S S2 from klcU_S2) kpcU_S3
        have kScW_S3 : kcW S S3 := kcW_t (show kcW S S2 from klcW_S2) kpcW_S3
        have nxr_length_S3 : (f_xr_length S3).toInt = (f_xr_length S2).toInt := congrArg Int32.toInt kpcL_S3
        have nxr_length_S3 : (f_xr_length S3).toInt = (f_xr_length S2).toInt := congrArg Int32.toInt kpcP_S3.1
        have nxr_place_S3 : (f_xr_place S3).toInt = (f_xr_place S2).toInt := congrArg Int32.toInt kpcP_S3.2.1
        have nxe_underWay_S3 : (f_xe_underWay S3).toInt = (f_xe_underWay S2).toInt := congrArg Int32.toInt kpcU_S3
        have nxp_columns_S3 : (f_xp_columns S3).toInt = (f_xp_columns S2).toInt := congrArg Int32.toInt kpcW_S3.1
        have nxp_rows_S3 : (f_xp_rows S3).toInt = (f_xp_rows S2).toInt := congrArg Int32.toInt kpcW_S3.2
        have rrv6 := zt_rng rv6
        refine lv_istore (lv' := [(6, .int rv6), (7, .int i), (5, .int rv4), (4, .int rv3), (3, .int rv2), (1, .long v), (0, .ref (ad 72))]) hx hb d_Engine_runFor_102 hl (by decide) rfl (fun ls hl => ?_)
        refine lv_iload hx hb d_Engine_runFor_104 (lv_at hl 0 rfl) ?_
        refine lv_if_ne (tgt := 120) hx hb d_Engine_runFor_106 (by decide) (fun c106_1 => ?_) (fun c106_1 => ?_)
        · first | have fc106_1 : rv6.toInt < 0 := (by have := zt_ne (show rv6.toInt = _ from rfl) tI_0 c106_1; omega) | have fc106_1 : 0 < rv6.toInt := (by have := zt_ne (show rv6.toInt = _ from rfl) tI_0 c106_1; omega) | skip
          refine lv_iload hx hb d_Engine_runFor_120 (lv_at hl 0 rfl) ?_
          refine lv_if_ne (tgt := 133) hx hb d_Engine_runFor_122 (by decide) (fun c122_1 => ?_) (fun c122_1 => ?_)
          · first | have fc122_1 : rv6.toInt < 0 := (by have := zt_ne (show rv6.toInt = _ from rfl) tI_0 c122_1; omega) | have fc122_1 : 0 < rv6.toInt := (by have := zt_ne (show rv6.toInt = _ from rfl) tI_0 c122_1; omega) | skip
            refine lv_lload_n hx hb d_Engine_runFor_133 rfl (lv_at hl 5 rfl) ?_
            refine lv_iload_n hx hb d_Engine_runFor_134 rfl (lv_at hl 4 rfl) ?_
            refine lv_i2l (v := (rv2).toInt64) hx hb d_Engine_runFor_135 rfl ?_
            refine lv_topl (fun x5 ex5 => ?_)
            have fx5 : x5.toInt = rv2.toInt := by rw [ex5]; exact zu_i2l (show rv2.toInt = _ from rfl)
            refine lv_ladd hx hb d_Engine_runFor_136 ?_
            refine lv_topl (fun x6 ex6 => ?_)
            refine lv_lstore_n (lv' := [(1, .long x6), (6, .int rv6), (7, .int i), (5, .int rv4), (4, .int rv3), (3, .int rv2), (0, .ref (ad 72))]) hx hb d_Engine_runFor_137 rfl hl (by decide) rfl (fun ls hl => ?_)
            refine lv_iinc (v := (i + 1)) (lv' := [(7, .int (i + 1)), (1, .long x6), (6, .int rv6), (5, .int rv4), (4, .int rv3), (3, .int rv2), (0, .ref (ad 72))]) hx hb d_Engine_runFor_138 hl (k := 2) rfl (by first | rfl | decide) (by decide) rfl (fun ls hl => ?_)
            obtain ⟨x7, ex7⟩ : ∃ z, z = (i + 1) := ⟨_, rfl⟩
            rw [← ex7] at hl
            have fx7 : x7.toInt = (i.toInt + 1) := by rw [ex7]; exact (zt_add (show i.toInt = _ from rfl) tI_1 (by omega) (by omega)).trans (by omega)
            have hl : lv_has ls 8 [(7, .int x7), (1, .long x6), (6, .int rv6), (5, .int rv4), (4, .int rv3), (3, .int rv2), (0, .ref (ad 72))] := hl
            refine lv_goto (tgt := 63) hx hb d_Engine_runFor_141 (by decide) ?_
            exact ih (k - 1) (S3, x6, rv6, x7) _ _ _ (by omega) ⟨(show 0 ≤ x7.toInt ∧ x7.toInt ≤ 1000000 ∧ 1000000 ≤ x7.toInt + (((k - 1) : Nat) : Int) by omega), ⟨i_vst, i_vc0, i_vc1, i_vc2, i_vc3, i_vv0, i_vv1, i_vv2, i_vv3, i_vg, i_wct, i_wln, i_sd0, i_sd1, i_sd2, i_sd3, i_rln, i_rtx, i_rpl, i_rtk, i_cnv, i_pts, i_cik, i_und⟩, (show kcL S S3 from kScL_S3), (show kcP S S3 from kScP_S3), (show kcU S S3 from kScU_S3), (show kcW S S3 from kScW_S3), hP, hD, hS, lv_sub hl [0, 2, 3, 4, 5, 1, 6] rfl⟩
          · have fc122_1 : rv6.toInt = 0 := zt_eq (show rv6.toInt = _ from rfl) tI_0 c122_1
            refine lv_aload_n hx hb d_Engine_runFor_125 rfl (lv_at hl 6 rfl) ?_
            refine lv_iload hx hb d_Engine_runFor_126 (lv_at hl 2 rfl) ?_
            refine jc_ci (w := (fun u => u)) hK hP hD hS hA (va_runV (As := [.int rv4]) (rest := []) F (c_Engine_runArray l D T ad g Bq d hdv S3 rv4  H.size ⟨i_vst, i_vc0, i_vc1, i_vc2, i_vc3, i_vv0, i_vv1, i_vv2, i_vv3, i_vg, i_wct, i_wln, i_sd0, i_sd1, i_sd2, i_sd3, i_rln, i_rtx, i_rpl, i_rtk, i_cnv, i_pts, i_cik, i_und⟩ (show 8 ≤ (f_xe_underWay S3).toInt + d by omega)) (j_cV (k := 1) (C := "PageScribe$Engine") hts k_5_203 k_1_9 k_5_200 k_5_202 k_0_68 (by decide +kernel) ⟨by dsimp only; omega, by dsimp only; omega⟩) (j_preV (q0 := 72) (ci := 7) hK hP hD csc csc_all csc_nd cl_7 (ce_72 _ _ _) (fun _ _ _ _ h => EC.calling h) (fun U hU hW => EC.at hS hAB hU hW hE)) rfl rfl hl.1 rfl (lv_room (Nat.le_of_ble_eq_true rfl)) d_Engine_runFor_128 ⟨Nat.le_of_ble_eq_true rfl, Nat.le_of_ble_eq_true rfl⟩) (fun rv7 S4 H locs hw7 hP hD hS => ?_)
            have hP : va_P D classes (cW T ad S4) H := hP
            have hD : va_D A (cW T ad S4) := hD
            obtain ⟨⟨i_vst, i_vc0, i_vc1, i_vc2, i_vc3, i_vv0, i_vv1, i_vv2, i_vv3, i_vg, i_wct, i_wln, i_sd0, i_sd1, i_sd2, i_sd3, i_rln, i_rtx, i_rpl, i_rtk, i_cnv, i_pts, i_cik, i_und⟩, kpcL_S4, kpcP_S4, kpcU_S4, kpcW_S4⟩ := hw7
            have kScL_S4 : kcL S S4 := kcL_t (show kcL S S3 from kScL_S3) kpcL_S4
            have kScP_S4 : kcP S S4 := kcP_t (show kcP S S3 from kScP_S3) kpcP_S4
            have kScU_S4 : kcU S S4 := kcU_t (show kcU S S3 from kScU_S3) kpcU_S4
            have kScW_S4 : kcW S S4 := kcW_t (show kcW S S3 from kScW_S3) kpcW_S4
            have nxr_length_S4 : (f_xr_length S4).toInt = (f_xr_length S3).toInt := congrArg Int32.toInt kpcL_S4
            have nxr_length_S4 : (f_xr_length S4).toInt = (f_xr_length S3).toInt := congrArg Int32.toInt kpcP_S4.1
            have nxr_place_S4 : (f_xr_place S4).toInt = (f_xr_place S3).toInt := congrArg Int32.toInt kpcP_S4.2.1
            have nxe_underWay_S4 : (f_xe_underWay S4).toInt = (f_xe_underWay S3).toInt := congrArg Int32.toInt kpcU_S4
            have nxp_columns_S4 : (f_xp_columns S4).toInt = (f_xp_columns S3).toInt := congrArg Int32.toInt kpcW_S4.1
            have nxp_rows_S4 : (f_xp_rows S4).toInt = (f_xp_rows S3).toInt := congrArg Int32.toInt kpcW_S4.2
            have rrv7 := zt_rng rv7
            refine lv_istore (lv' := [(6, .int rv7), (7, .int i), (5, .int rv4), (4, .int rv3), (3, .int rv2), (1, .long v), (0, .ref (ad 72))]) hx hb d_Engine_runFor_131 hl (by decide) rfl (fun ls hl => ?_)
            refine lv_lload_n hx hb d_Engine_runFor_133 rfl (lv_at hl 5 rfl) ?_
            refine lv_iload_n hx hb d_Engine_runFor_134 rfl (lv_at hl 4 rfl) ?_
            refine lv_i2l (v := (rv2).toInt64) hx hb d_Engine_runFor_135 rfl ?_
            refine lv_topl (fun x8 ex8 => ?_)
            have fx8 : x8.toInt = rv2.toInt := by rw [ex8]; exact zu_i2l (show rv2.toInt = _ from rfl)
            refine lv_ladd hx hb d_Engine_runFor_136 ?_
            refine lv_topl (fun x9 ex9 => ?_)
            refine lv_lstore_n (lv' := [(1, .long x9), (6, .int rv7), (7, .int i), (5, .int rv4), (4, .int rv3), (3, .int rv2), (0, .ref (ad 72))]) hx hb d_Engine_runFor_137 rfl hl (by decide) rfl (fun ls hl => ?_)
            refine lv_iinc (v := (i + 1)) (lv' := [(7, .int (i + 1)), (1, .long x9), (6, .int rv7), (5, .int rv4), (4, .int rv3), (3, .int rv2), (0, .ref (ad 72))]) hx hb d_Engine_runFor_138 hl (k := 2) rfl (by first | rfl | decide) (by decide) rfl (fun ls hl => ?_)
            obtain ⟨x10, ex10⟩ : ∃ z, z = (i + 1) := ⟨_, rfl⟩
            rw [← ex10] at hl
            have fx10 : x10.toInt = (i.toInt + 1) := by rw [ex10]; exact (zt_add (show i.toInt = _ from rfl) tI_1 (by omega) (by omega)).trans (by omega)
            have hl : lv_has ls 8 [(7, .int x10), (1, .long x9), (6, .int rv7), (5, .int rv4), (4, .int rv3), (3, .int rv2), (0, .ref (ad 72))] := hl
            refine lv_goto (tgt := 63) hx hb d_Engine_runFor_141 (by decide) ?_
            exact ih (k - 1) (S4, x9, rv7, x10) _ _ _ (by omega) ⟨(show 0 ≤ x10.toInt ∧ x10.toInt ≤ 1000000 ∧ 1000000 ≤ x10.toInt + (((k - 1) : Nat) : Int) by omega), ⟨i_vst, i_vc0, i_vc1, i_vc2, i_vc3, i_vv0, i_vv1, i_vv2, i_vv3, i_vg, i_wct, i_wln, i_sd0, i_sd1, i_sd2, i_sd3, i_rln, i_rtx, i_rpl, i_rtk, i_cnv, i_pts, i_cik, i_und⟩, (show kcL S S4 from kScL_S4), (show kcP S S4 from kScP_S4), (show kcU S S4 from kScU_S4), (show kcW S S4 from kScW_S4), hP, hD, hS, lv_sub hl [0, 2, 3, 4, 5, 1, 6] rfl⟩
        · have fc106_1 : rv6.toInt = 0 := zt_eq (show rv6.toInt = _ from rfl) tI_0 c106_1
          refine lv_aload_n hx hb d_Engine_runFor_109 rfl (lv_at hl 6 rfl) ?_
          refine va_get (D := D) (ci := 7) (v := .ref (ad 1)) (C := "PageScribe$Engine") (T := F_Engine) (N := 11) hx hb hts i_Engine hown hK hP 72 (ce_72 _ _ _) cl_7 0 (by decide) (hts _ k_2_22) (fun _ h9 => h9) rfl d_Engine_runFor_110 ?_
          refine lv_lload_n hx hb d_Engine_runFor_113 rfl (lv_at hl 5 rfl) ?_
          refine lv_l2i (v := (v).toInt32) hx hb d_Engine_runFor_114 rfl ?_
          refine lv_topi (fun x11 ex11 => ?_)
          have wx11 := zt_rng x11
          refine jc_ci (w := (fun u => u)) hK hP hD hS hA (va_runV (As := [.int x11]) (rest := []) F (c_Stack_pushInt l D T ad S3 x11  H.size ⟨i_vst, i_vc0, i_vc1, i_vc2, i_vc3, i_vv0, i_vv1, i_vv2, i_vv3, i_vg, i_wct, i_wln, i_sd0, i_sd1, i_sd2, i_sd3, i_rln, i_rtx, i_rpl, i_rtk, i_cnv, i_pts, i_cik, i_und⟩) (j_cV (k := 1) (C := "PageScribe$Stack") hts k_4_90 k_1_3 k_5_229 k_4_88 k_4_89 (by decide +kernel) ⟨by dsimp only; omega, by dsimp only; omega⟩) (j_preV (q0 := 1) (ci := 0) hK hP hD csc csc_all csc_nd cl_0 (ce_1 _ _ _) (fun _ _ _ _ h => h) (fun _ _ _ => trivial)) rfl rfl hl.1 rfl (lv_room (Nat.le_of_ble_eq_true rfl)) d_Engine_runFor_115 ⟨Nat.le_of_ble_eq_true rfl, Nat.le_of_ble_eq_true rfl⟩) (fun rv8 S5 H locs hw8 hP hD hS => ?_)
          have hP : va_P D classes (cW T ad S5) H := hP
          have hD : va_D A (cW T ad S5) := hD
          obtain ⟨⟨i_vst, i_vc0, i_vc1, i_vc2, i_vc3, i_vv0, i_vv1, i_vv2, i_vv3, i_vg, i_wct, i_wln, i_sd0, i_sd1, i_sd2, i_sd3, i_rln, i_rtx, i_rpl, i_rtk, i_cnv, i_pts, i_cik, i_und⟩, kpcL_S5, kpcP_S5, kpcU_S5, kpcW_S5⟩ := hw8
          have kScL_S5 : kcL S S5 := kcL_t (show kcL S S3 from kScL_S3) kpcL_S5
          have kScP_S5 : kcP S S5 := kcP_t (show kcP S S3 from kScP_S3) kpcP_S5
          have kScU_S5 : kcU S S5 := kcU_t (show kcU S S3 from kScU_S3) kpcU_S5
          have kScW_S5 : kcW S S5 := kcW_t (show kcW S S3 from kScW_S3) kpcW_S5
          have nxr_length_S5 : (f_xr_length S5).toInt = (f_xr_length S3).toInt := congrArg Int32.toInt kpcL_S5
          have nxr_length_S5 : (f_xr_length S5).toInt = (f_xr_length S3).toInt := congrArg Int32.toInt kpcP_S5.1
          have nxr_place_S5 : (f_xr_place S5).toInt = (f_xr_place S3).toInt := congrArg Int32.toInt kpcP_S5.2.1
          have nxe_underWay_S5 : (f_xe_underWay S5).toInt = (f_xe_underWay S3).toInt := congrArg Int32.toInt kpcU_S5
          have nxp_columns_S5 : (f_xp_columns S5).toInt = (f_xp_columns S3).toInt := congrArg Int32.toInt kpcW_S5.1
          have nxp_rows_S5 : (f_xp_rows S5).toInt = (f_xp_rows S3).toInt := congrArg Int32.toInt kpcW_S5.2
          have rrv8 := zt_rng rv8
          refine lv_istore (lv' := [(6, .int rv8), (7, .int i), (5, .int rv4), (4, .int rv3), (3, .int rv2), (1, .long v), (0, .ref (ad 72))]) hx hb d_Engine_runFor_118 hl (by decide) rfl (fun ls hl => ?_)
          refine lv_iload hx hb d_Engine_runFor_120 (lv_at hl 0 rfl) ?_
          refine lv_if_ne (tgt := 133) hx hb d_Engine_runFor_122 (by decide) (fun c122_2 => ?_) (fun c122_2 => ?_)
          · first | have fc122_2 : rv8.toInt < 0 := (by have := zt_ne (show rv8.toInt = _ from rfl) tI_0 c122_2; omega) | have fc122_2 : 0 < rv8.toInt := (by have := zt_ne (show rv8.toInt = _ from rfl) tI_0 c122_2; omega) | skip
            refine lv_lload_n hx hb d_Engine_runFor_133 rfl (lv_at hl 5 rfl) ?_
            refine lv_iload_n hx hb d_Engine_runFor_134 rfl (lv_at hl 4 rfl) ?_
            refine lv_i2l (v := (rv2).toInt64) hx hb d_Engine_runFor_135 rfl ?_
            refine lv_topl (fun x12 ex12 => ?_)
            have fx12 : x12.toInt = rv2.toInt := by rw [ex12]; exact zu_i2l (show rv2.toInt = _ from rfl)
            refine lv_ladd hx hb d_Engine_runFor_136 ?_
            refine lv_topl (fun x13 ex13 => ?_)
            refine lv_lstore_n (lv' := [(1, .long x13), (6, .int rv8), (7, .int i), (5, .int rv4), (4, .int rv3), (3, .int rv2), (0, .ref (ad 72))]) hx hb d_Engine_runFor_137 rfl hl (by decide) rfl (fun ls hl => ?_)
            refine lv_iinc (v := (i + 1)) (lv' := [(7, .int (i + 1)), (1, .long x13), (6, .int rv8), (5, .int rv4), (4, .int rv3), (3, .int rv2), (0, .ref (ad 72))]) hx hb d_Engine_runFor_138 hl (k := 2) rfl (by first | rfl | decide) (by decide) rfl (fun ls hl => ?_)
            obtain ⟨x14, ex14⟩ : ∃ z, z = (i + 1) := ⟨_, rfl⟩
            rw [← ex14] at hl
            have fx14 : x14.toInt = (i.toInt + 1) := by rw [ex14]; exact (zt_add (show i.toInt = _ from rfl) tI_1 (by omega) (by omega)).trans (by omega)
            have hl : lv_has ls 8 [(7, .int x14), (1, .long x13), (6, .int rv8), (5, .int rv4), (4, .int rv3), (3, .int rv2), (0, .ref (ad 72))] := hl
            refine lv_goto (tgt := 63) hx hb d_Engine_runFor_141 (by decide) ?_
            exact ih (k - 1) (S5, x13, rv8, x14) _ _ _ (by omega) ⟨(show 0 ≤ x14.toInt ∧ x14.toInt ≤ 1000000 ∧ 1000000 ≤ x14.toInt + (((k - 1) : Nat) : Int) by omega), ⟨i_vst, i_vc0, i_vc1, i_vc2, i_vc3, i_vv0, i_vv1, i_vv2, i_vv3, i_vg, i_wct, i_wln, i_sd0, i_sd1, i_sd2, i_sd3, i_rln, i_rtx, i_rpl, i_rtk, i_cnv, i_pts, i_cik, i_und⟩, (show kcL S S5 from kScL_S5), (show kcP S S5 from kScP_S5), (show kcU S S5 from kScU_S5), (show kcW S S5 from kScW_S5), hP, hD, hS, lv_sub hl [0, 2, 3, 4, 5, 1, 6] rfl⟩
          · have fc122_2 : rv8.toInt = 0 := zt_eq (show rv8.toInt = _ from rfl) tI_0 c122_2
            refine lv_aload_n hx hb d_Engine_runFor_125 rfl (lv_at hl 6 rfl) ?_
            refine lv_iload hx hb d_Engine_runFor_126 (lv_at hl 2 rfl) ?_
            refine jc_ci (w := (fun u => u)) hK hP hD hS hA (va_runV (As := [.int rv4]) (rest := []) F (c_Engine_runArray l D T ad g Bq d hdv S5 rv4  H.size ⟨i_vst, i_vc0, i_vc1, i_vc2, i_vc3, i_vv0, i_vv1, i_vv2, i_vv3, i_vg, i_wct, i_wln, i_sd0, i_sd1, i_sd2, i_sd3, i_rln, i_rtx, i_rpl, i_rtk, i_cnv, i_pts, i_cik, i_und⟩ (show 8 ≤ (f_xe_underWay S5).toInt + d by omega)) (j_cV (k := 1) (C := "PageScribe$Engine") hts k_5_203 k_1_9 k_5_200 k_5_202 k_0_68 (by decide +kernel) ⟨by dsimp only; omega, by dsimp only; omega⟩) (j_preV (q0 := 72) (ci := 7) hK hP hD csc csc_all csc_nd cl_7 (ce_72 _ _ _) (fun _ _ _ _ h => EC.calling h) (fun U hU hW => EC.at hS hAB hU hW hE)) rfl rfl hl.1 rfl (lv_room (Nat.le_of_ble_eq_true rfl)) d_Engine_runFor_128 ⟨Nat.le_of_ble_eq_true rfl, Nat.le_of_ble_eq_true rfl⟩) (fun rv9 S6 H locs hw9 hP hD hS => ?_)
            have hP : va_P D classes (cW T ad S6) H := hP
            have hD : va_D A (cW T ad S6) := hD
            obtain ⟨⟨i_vst, i_vc0, i_vc1, i_vc2, i_vc3, i_vv0, i_vv1, i_vv2, i_vv3, i_vg, i_wct, i_wln, i_sd0, i_sd1, i_sd2, i_sd3, i_rln, i_rtx, i_rpl, i_rtk, i_cnv, i_pts, i_cik, i_und⟩, kpcL_S6, kpcP_S6, kpcU_S6, kpcW_S6⟩ := hw9
            have kScL_S6 : kcL S S6 := kcL_t (show kcL S S5 from kScL_S5) kpcL_S6
            have kScP_S6 : kcP S S6 := kcP_t (show kcP S S5 from kScP_S5) kpcP_S6
            have kScU_S6 : kcU S S6 := kcU_t (show kcU S S5 from kScU_S5) kpcU_S6
            have kScW_S6 : kcW S S6 := kcW_t (show kcW S S5 from kScW_S5) kpcW_S6
            have nxr_length_S6 : (f_xr_length S6).toInt = (f_xr_length S5).toInt := congrArg Int32.toInt kpcL_S6
            have nxr_length_S6 : (f_xr_length S6).toInt = (f_xr_length S5).toInt := congrArg Int32.toInt kpcP_S6.1
            have nxr_place_S6 : (f_xr_place S6).toInt = (f_xr_place S5).toInt := congrArg Int32.toInt kpcP_S6.2.1
            have nxe_underWay_S6 : (f_xe_underWay S6).toInt = (f_xe_underWay S5).toInt := congrArg Int32.toInt kpcU_S6
            have nxp_columns_S6 : (f_xp_columns S6).toInt = (f_xp_columns S5).toInt := congrArg Int32.toInt kpcW_S6.1
            have nxp_rows_S6 : (f_xp_rows S6).toInt = (f_xp_rows S5).toInt := congrArg Int32.toInt kpcW_S6.2
            have rrv9 := zt_rng rv9
            refine lv_istore (lv' := [(6, .int rv9), (7, .int i), (5, .int rv4), (4, .int rv3), (3, .int rv2), (1, .long v), (0, .ref (ad 72))]) hx hb d_Engine_runFor_131 hl (by decide) rfl (fun ls hl => ?_)
            refine lv_lload_n hx hb d_Engine_runFor_133 rfl (lv_at hl 5 rfl) ?_
            refine lv_iload_n hx hb d_Engine_runFor_134 rfl (lv_at hl 4 rfl) ?_
            refine lv_i2l (v := (rv2).toInt64) hx hb d_Engine_runFor_135 rfl ?_
            refine lv_topl (fun x15 ex15 => ?_)
            have fx15 : x15.toInt = rv2.toInt := by rw [ex15]; exact zu_i2l (show rv2.toInt = _ from rfl)
            refine lv_ladd hx hb d_Engine_runFor_136 ?_
            refine lv_topl (fun x16 ex16 => ?_)
            refine lv_lstore_n (lv' := [(1, .long x16), (6, .int rv9), (7, .int i), (5, .int rv4), (4, .int rv3), (3, .int rv2), (0, .ref (ad 72))]) hx hb d_Engine_runFor_137 rfl hl (by decide) rfl (fun ls hl => ?_)
            refine lv_iinc (v := (i + 1)) (lv' := [(7, .int (i + 1)), (1, .long x16), (6, .int rv9), (5, .int rv4), (4, .int rv3), (3, .int rv2), (0, .ref (ad 72))]) hx hb d_Engine_runFor_138 hl (k := 2) rfl (by first | rfl | decide) (by decide) rfl (fun ls hl => ?_)
            obtain ⟨x17, ex17⟩ : ∃ z, z = (i + 1) := ⟨_, rfl⟩
            rw [← ex17] at hl
            have fx17 : x17.toInt = (i.toInt + 1) := by rw [ex17]; exact (zt_add (show i.toInt = _ from rfl) tI_1 (by omega) (by omega)).trans (by omega)
            have hl : lv_has ls 8 [(7, .int x17), (1, .long x16), (6, .int rv9), (5, .int rv4), (4, .int rv3), (3, .int rv2), (0, .ref (ad 72))] := hl
            refine lv_goto (tgt := 63) hx hb d_Engine_runFor_141 (by decide) ?_
            exact ih (k - 1) (S6, x16, rv9, x17) _ _ _ (by omega) ⟨(show 0 ≤ x17.toInt ∧ x17.toInt ≤ 1000000 ∧ 1000000 ≤ x17.toInt + (((k - 1) : Nat) : Int) by omega), ⟨i_vst, i_vc0, i_vc1, i_vc2, i_vc3, i_vv0, i_vv1, i_vv2, i_vv3, i_vg, i_wct, i_wln, i_sd0, i_sd1, i_sd2, i_sd3, i_rln, i_rtx, i_rpl, i_rtk, i_cnv, i_pts, i_cik, i_und⟩, (show kcL S S6 from kScL_S6), (show kcP S S6 from kScP_S6), (show kcU S S6 from kScU_S6), (show kcW S S6 from kScW_S6), hP, hD, hS, lv_sub hl [0, 2, 3, 4, 5, 1, 6] rfl⟩
      · refine lv_iload_n hx hb d_Engine_runFor_75 rfl (lv_at hl 4 rfl) ?_
        refine lv_if_ge (tgt := 90) hx hb d_Engine_runFor_76 (by decide) (fun c76_1 => ?_) (fun c76_1 => ?_)
        · have fc76_1 : 0 ≤ rv2.toInt := zt_le tI_0 (show rv2.toInt = _ from rfl) c76_1
          refine lv_lload_n hx hb d_Engine_runFor_90 rfl (lv_at hl 5 rfl) ?_
          refine lv_iload hx hb d_Engine_runFor_91 (lv_at hl 3 rfl) ?_
          refine lv_i2l (v := (rv3).toInt64) hx hb d_Engine_runFor_93 rfl ?_
          refine lv_topl (fun x18 ex18 => ?_)
          have fx18 : x18.toInt = rv3.toInt := by rw [ex18]; exact zu_i2l (show rv3.toInt = _ from rfl)
          refine W.lcmp hx hb d_Engine_runFor_94 ?_
          refine lv_topi (fun x19 ex19 => ?_)
          refine lv_if_gt (tgt := 144) hx hb d_Engine_runFor_95 (by decide) (fun c95_1 => ?_) (fun c95_1 => ?_)
          · have fc95_1 : 0 < x19.toInt := zt_lt tI_0 (show x19.toInt = _ from rfl) c95_1
            have vc95_1 : v.toInt > rv3.toInt := by have := zr_cmp ex19 (show v.toInt = _ from rfl) fx18; have := zt_lt tI_0 (show x19.toInt = _ from rfl) c95_1; omega
            refine lv_aload_n hx hb d_Engine_runFor_144 rfl (lv_at hl 6 rfl) ?_
            refine lv_dup hx hb d_Engine_runFor_145 rfl ?_
            refine va_get (D := D) (ci := 7) (v := .int (f_xe_loops S2)) (C := "PageScribe$Engine") (T := F_Engine) (N := 11) hx hb hts i_Engine hown hK hP 72 (ce_72 _ _ _) cl_7 10 (by decide) (hts _ k_2_34) (fun _ h9 => h9) rfl d_Engine_runFor_146 ?_
            refine lv_iconst (v := 1) hx hb d_Engine_runFor_149 (by decide) ?_
            refine lv_isub hx hb d_Engine_runFor_150 ?_
            refine lv_topi (fun x20 ex20 => ?_)
            have rx20 := zt_rng x20
            refine va_put (D := D) (ci := 7) (v := .int x20) (ty := .int) (C := "PageScribe$Engine") (T := F_Engine) (N := 11) hx hb hts i_Engine t_Engine t_Engine_ok n_Engine hown hK hP hD hS 72 (ce_72 _ _ _) cl_7 10 (by decide) (hts _ k_2_34) (fun _ h9 => h9) rfl (by decide +kernel) rfl rfl (Nat.le_of_ble_eq_true rfl) d_Engine_runFor_151 (fun H locs hP hD hS => ?_)
            rw [cp_xe_loops] at hP hD
            have hP : va_P D classes (cW T ad ((S2.1, S2.2.1, S2.2.2.1, S2.2.2.2.1, S2.2.2.2.2.1, S2.2.2.2.2.2.1, S2.2.2.2.2.2.2.1, S2.2.2.2.2.2.2.2.1, ((f_xe_fuelGiven S2), (f_xe_stepsDone S2), (f_xe_latestFault S2), (f_xe_underWay S2), (f_xe_reach S2), x20)) : CS)) H := hP
            have hD : va_D A (cW T ad ((S2.1, S2.2.1, S2.2.2.1, S2.2.2.2.1, S2.2.2.2.2.1, S2.2.2.2.2.2.1, S2.2.2.2.2.2.2.1, S2.2.2.2.2.2.2.2.1, ((f_xe_fuelGiven S2), (f_xe_stepsDone S2), (f_xe_latestFault S2), (f_xe_underWay S2), (f_xe_reach S2), x20)) : CS)) := hD
            refine lv_iload hx hb d_Engine_runFor_154 (lv_at hl 1 rfl) ?_
            refine lv_iconst (v := (-1)) hx hb d_Engine_runFor_156 (by decide) ?_
            refine lv_icmp_ne (tgt := 164) hx hb d_Engine_runFor_157 (by decide) (fun c157_3 => ?_) (fun c157_3 => ?_)
            · first | have fc157_3 : e.toInt < (-1) := (by have := zt_ne (show e.toInt = _ from rfl) tI_m1 c157_3; omega) | have fc157_3 : (-1) < e.toInt := (by have := zt_ne (show e.toInt = _ from rfl) tI_m1 c157_3; omega) | skip
              refine lv_iload hx hb d_Engine_runFor_164 (lv_at hl 1 rfl) ?_
              exact j_iret F hr hlocks hK hS ((S2.1, S2.2.1, S2.2.2.1, S2.2.2.2.1, S2.2.2.2.2.1, S2.2.2.2.2.2.1, S2.2.2.2.2.2.2.1, S2.2.2.2.2.2.2.2.1, ((f_xe_fuelGiven S2), (f_xe_stepsDone S2), (f_xe_latestFault S2), (f_xe_underWay S2), (f_xe_reach S2), x20)) : CS) ⟨⟨i_vst, i_vc0, i_vc1, i_vc2, i_vc3, i_vv0, i_vv1, i_vv2, i_vv3, i_vg, i_wct, i_wln, i_sd0, i_sd1, i_sd2, i_sd3, i_rln, i_rtx, i_rpl, i_rtk, i_cnv, i_pts, i_cik, i_und⟩, klcL_S2, klcP_S2, klcU_S2, klcW_S2⟩ hP hD d_Engine_runFor_166
            · have fc157_3 : e.toInt = (-1) := zt_eq (show e.toInt = _ from rfl) tI_m1 c157_3
              refine lv_iconst (v := 0) hx hb d_Engine_runFor_160 (by decide) ?_
              refine lv_goto (tgt := 166) hx hb d_Engine_runFor_161 (by decide) ?_
              exact j_iret F hr hlocks hK hS ((S2.1, S2.2.1, S2.2.2.1, S2.2.2.2.1, S2.2.2.2.2.1, S2.2.2.2.2.2.1, S2.2.2.2.2.2.2.1, S2.2.2.2.2.2.2.2.1, ((f_xe_fuelGiven S2), (f_xe_stepsDone S2), (f_xe_latestFault S2), (f_xe_underWay S2), (f_xe_reach S2), x20)) : CS) ⟨⟨i_vst, i_vc0, i_vc1, i_vc2, i_vc3, i_vv0, i_vv1, i_vv2, i_vv3, i_vg, i_wct, i_wln, i_sd0, i_sd1, i_sd2, i_sd3, i_rln, i_rtx, i_rpl, i_rtk, i_cnv, i_pts, i_cik, i_und⟩, klcL_S2, klcP_S2, klcU_S2, klcW_S2⟩ hP hD d_Engine_runFor_166
          · have fc95_1 : x19.toInt ≤ 0 := Int.not_lt.mp (zt_nlt tI_0 (show x19.toInt = _ from rfl) c95_1)
            have vc95_1 : v.toInt ≤ rv3.toInt := by have := zr_cmp ex19 (show v.toInt = _ from rfl) fx18; have := Int.not_lt.mp (zt_nlt tI_0 (show x19.toInt = _ from rfl) c95_1); omega
            exact key1 () _ _ _ ⟨trivial, hP, hD, hS, lv_sub hl [0, 1, 2, 3, 4, 5, 6] rfl⟩
        · have fc76_1 : rv2.toInt < 0 := Int.not_le.mp (zt_nle tI_0 (show rv2.toInt = _ from rfl) c76_1)
          refine lv_lload_n hx hb d_Engine_runFor_79 rfl (lv_at hl 5 rfl) ?_
          refine lv_iload hx hb d_Engine_runFor_80 (lv_at hl 3 rfl) ?_
          refine lv_i2l (v := (rv3).toInt64) hx hb d_Engine_runFor_82 rfl ?_
          refine lv_topl (fun x21 ex21 => ?_)
          have fx21 : x21.toInt = rv3.toInt := by rw [ex21]; exact zu_i2l (show rv3.toInt = _ from rfl)
          refine W.lcmp hx hb d_Engine_runFor_83 ?_
          refine lv_topi (fun x22 ex22 => ?_)
          refine lv_if_lt (tgt := 144) hx hb d_Engine_runFor_84 (by decide) (fun c84_1 => ?_) (fun c84_1 => ?_)
          · have fc84_1 : x22.toInt < 0 := zt_lt (show x22.toInt = _ from rfl) tI_0 c84_1
            have vc84_1 : v.toInt < rv3.toInt := by have := zr_cmp ex22 (show v.toInt = _ from rfl) fx21; have := zt_lt (show x22.toInt = _ from rfl) tI_0 c84_1; omega
            refine lv_aload_n hx hb d_Engine_runFor_144 rfl (lv_at hl 6 rfl) ?_
            refine lv_dup hx hb d_Engine_runFor_145 rfl ?_
            refine va_get (D := D) (ci := 7) (v := .int (f_xe_loops S2)) (C := "PageScribe$Engine") (T := F_Engine) (N := 11) hx hb hts i_Engine hown hK hP 72 (ce_72 _ _ _) cl_7 10 (by decide) (hts _ k_2_34) (fun _ h9 => h9) rfl d_Engine_runFor_146 ?_
            refine lv_iconst (v := 1) hx hb d_Engine_runFor_149 (by decide) ?_
            refine lv_isub hx hb d_Engine_runFor_150 ?_
            refine lv_topi (fun x23 ex23 => ?_)
            have rx23 := zt_rng x23
            refine va_put (D := D) (ci := 7) (v := .int x23) (ty := .int) (C := "PageScribe$Engine") (T := F_Engine) (N := 11) hx hb hts i_Engine t_Engine t_Engine_ok n_Engine hown hK hP hD hS 72 (ce_72 _ _ _) cl_7 10 (by decide) (hts _ k_2_34) (fun _ h9 => h9) rfl (by decide +kernel) rfl rfl (Nat.le_of_ble_eq_true rfl) d_Engine_runFor_151 (fun H locs hP hD hS => ?_)
            rw [cp_xe_loops] at hP hD
            have hP : va_P D classes (cW T ad ((S2.1, S2.2.1, S2.2.2.1, S2.2.2.2.1, S2.2.2.2.2.1, S2.2.2.2.2.2.1, S2.2.2.2.2.2.2.1, S2.2.2.2.2.2.2.2.1, ((f_xe_fuelGiven S2), (f_xe_stepsDone S2), (f_xe_latestFault S2), (f_xe_underWay S2), (f_xe_reach S2), x23)) : CS)) H := hP
            have hD : va_D A (cW T ad ((S2.1, S2.2.1, S2.2.2.1, S2.2.2.2.1, S2.2.2.2.2.1, S2.2.2.2.2.2.1, S2.2.2.2.2.2.2.1, S2.2.2.2.2.2.2.2.1, ((f_xe_fuelGiven S2), (f_xe_stepsDone S2), (f_xe_latestFault S2), (f_xe_underWay S2), (f_xe_reach S2), x23)) : CS)) := hD
            refine lv_iload hx hb d_Engine_runFor_154 (lv_at hl 1 rfl) ?_
            refine lv_iconst (v := (-1)) hx hb d_Engine_runFor_156 (by decide) ?_
            refine lv_icmp_ne (tgt := 164) hx hb d_Engine_runFor_157 (by decide) (fun c157_4 => ?_) (fun c157_4 => ?_)
            · first | have fc157_4 : e.toInt < (-1) := (by have := zt_ne (show e.toInt = _ from rfl) tI_m1 c157_4; omega) | have fc157_4 : (-1) < e.toInt := (by have := zt_ne (show e.toInt = _ from rfl) tI_m1 c157_4; omega) | skip
              refine lv_iload hx hb d_Engine_runFor_164 (lv_at hl 1 rfl) ?_
              exact j_iret F hr hlocks hK hS ((S2.1, S2.2.1, S2.2.2.1, S2.2.2.2.1, S2.2.2.2.2.1, S2.2.2.2.2.2.1, S2.2.2.2.2.2.2.1, S2.2.2.2.2.2.2.2.1, ((f_xe_fuelGiven S2), (f_xe_stepsDone S2), (f_xe_latestFault S2), (f_xe_underWay S2), (f_xe_reach S2), x23)) : CS) ⟨⟨i_vst, i_vc0, i_vc1, i_vc2, i_vc3, i_vv0, i_vv1, i_vv2, i_vv3, i_vg, i_wct, i_wln, i_sd0, i_sd1, i_sd2, i_sd3, i_rln, i_rtx, i_rpl, i_rtk, i_cnv, i_pts, i_cik, i_und⟩, klcL_S2, klcP_S2, klcU_S2, klcW_S2⟩ hP hD d_Engine_runFor_166
            · have fc157_4 : e.toInt = (-1) := zt_eq (show e.toInt = _ from rfl) tI_m1 c157_4
              refine lv_iconst (v := 0) hx hb d_Engine_runFor_160 (by decide) ?_
              refine lv_goto (tgt := 166) hx hb d_Engine_runFor_161 (by decide) ?_
              exact j_iret F hr hlocks hK hS ((S2.1, S2.2.1, S2.2.2.1, S2.2.2.2.1, S2.2.2.2.2.1, S2.2.2.2.2.2.1, S2.2.2.2.2.2.2.1, S2.2.2.2.2.2.2.2.1, ((f_xe_fuelGiven S2), (f_xe_stepsDone S2), (f_xe_latestFault S2), (f_xe_underWay S2), (f_xe_reach S2), x23)) : CS) ⟨⟨i_vst, i_vc0, i_vc1, i_vc2, i_vc3, i_vv0, i_vv1, i_vv2, i_vv3, i_vg, i_wct, i_wln, i_sd0, i_sd1, i_sd2, i_sd3, i_rln, i_rtx, i_rpl, i_rtk, i_cnv, i_pts, i_cik, i_und⟩, klcL_S2, klcP_S2, klcU_S2, klcW_S2⟩ hP hD d_Engine_runFor_166
          · have fc84_1 : 0 ≤ x22.toInt := Int.not_lt.mp (zt_nlt (show x22.toInt = _ from rfl) tI_0 c84_1)
            have vc84_1 : v.toInt ≥ rv3.toInt := by have := zr_cmp ex22 (show v.toInt = _ from rfl) fx21; have := Int.not_lt.mp (zt_nlt (show x22.toInt = _ from rfl) tI_0 c84_1); omega
            refine lv_goto (tgt := 98) hx hb d_Engine_runFor_87 (by decide) ?_
            exact key1 () _ _ _ ⟨trivial, hP, hD, hS, lv_sub hl [0, 1, 2, 3, 4, 5, 6] rfl⟩
theorem d_Engine_takeTurns_0 : decode prog_4_method_17_code 0 = .ok (.aload_n 0, 1) := by decide +kernel
theorem d_Engine_takeTurns_1 : decode prog_4_method_17_code 1 = .ok (.dup, 1) := by decide +kernel
theorem d_Engine_takeTurns_2 : decode prog_4_method_17_code 2 = .ok (.getfield 27, 3) := by decide +kernel
theorem d_Engine_takeTurns_5 : decode prog_4_method_17_code 5 = .ok (.iconst 1, 1) := by decide +kernel
theorem d_Engine_takeTurns_6 : decode prog_4_method_17_code 6 = .ok (.iadd, 1) := by decide +kernel
theorem d_Engine_takeTurns_7 : decode prog_4_method_17_code 7 = .ok (.putfield 27, 3) := by decide +kernel
theorem d_Engine_takeTurns_10 : decode prog_4_method_17_code 10 = .ok (.iconst 0, 1) := by decide +kernel
theorem d_Engine_takeTurns_11 : decode prog_4_method_17_code 11 = .ok (.istore_n 3, 1) := by decide +kernel
theorem d_Engine_takeTurns_12 : decode prog_4_method_17_code 12 = .ok (.iconst 0, 1) := by decide +kernel
theorem d_Engine_takeTurns_13 : decode prog_4_method_17_code 13 = .ok (.istore 4, 2) := by decide +kernel
theorem d_Engine_takeTurns_15 : decode prog_4_method_17_code 15 = .ok (.iload 4, 2) := by decide +kernel
theorem d_Engine_takeTurns_17 : decode prog_4_method_17_code 17 = .ok (.iload_n 1, 1) := by decide +kernel
theorem d_Engine_takeTurns_18 : decode prog_4_method_17_code 18 = .ok (.if_icmp .ge 28, 3) := by decide +kernel
theorem d_Engine_takeTurns_46 : decode prog_4_method_17_code 46 = .ok (.aload_n 0, 1) := by decide +kernel
theorem d_Engine_takeTurns_47 : decode prog_4_method_17_code 47 = .ok (.dup, 1) := by decide +kernel
theorem d_Engine_takeTurns_48 : decode prog_4_method_17_code 48 = .ok (.getfield 27, 3) := by decide +kernel
theorem d_Engine_takeTurns_51 : decode prog_4_method_17_code 51 = .ok (.iconst 1, 1) := by decide +kernel
theorem d_Engine_takeTurns_52 : decode prog_4_method_17_code 52 = .ok (.isub, 1) := by decide +kernel
theorem d_Engine_takeTurns_53 : decode prog_4_method_17_code 53 = .ok (.putfield 27, 3) := by decide +kernel
theorem d_Engine_takeTurns_56 : decode prog_4_method_17_code 56 = .ok (.iload_n 3, 1) := by decide +kernel
theorem d_Engine_takeTurns_57 : decode prog_4_method_17_code 57 = .ok (.iconst (-1), 1) := by decide +kernel
theorem d_Engine_takeTurns_58 : decode prog_4_method_17_code 58 = .ok (.if_icmp .ne 7, 3) := by decide +kernel
theorem d_Engine_takeTurns_65 : decode prog_4_method_17_code 65 = .ok (.iload_n 3, 1) := by decide +kernel
theorem d_Engine_takeTurns_66 : decode prog_4_method_17_code 66 = .ok (.ireturn, 1) := by decide +kernel
theorem d_Engine_takeTurns_61 : decode prog_4_method_17_code 61 = .ok (.iconst 0, 1) := by decide +kernel
theorem d_Engine_takeTurns_62 : decode prog_4_method_17_code 62 = .ok (.goto 4, 3) := by decide +kernel
theorem d_Engine_takeTurns_21 : decode prog_4_method_17_code 21 = .ok (.iload_n 3, 1) := by decide +kernel
theorem d_Engine_takeTurns_22 : decode prog_4_method_17_code 22 = .ok (.ifCond .ne 24, 3) := by decide +kernel
theorem d_Engine_takeTurns_25 : decode prog_4_method_17_code 25 = .ok (.aload_n 0, 1) := by decide +kernel
theorem d_Engine_takeTurns_26 : decode prog_4_method_17_code 26 = .ok (.invokevirtual 58, 3) := by decide +kernel
theorem d_Engine_takeTurns_29 : decode prog_4_method_17_code 29 = .ok (.istore_n 3, 1) := by decide +kernel
theorem d_Engine_takeTurns_30 : decode prog_4_method_17_code 30 = .ok (.iload_n 3, 1) := by decide +kernel
theorem d_Engine_takeTurns_31 : decode prog_4_method_17_code 31 = .ok (.ifCond .ne 9, 3) := by decide +kernel
theorem d_Engine_takeTurns_40 : decode prog_4_method_17_code 40 = .ok (.iinc 4 1, 3) := by decide +kernel
theorem d_Engine_takeTurns_43 : decode prog_4_method_17_code 43 = .ok (.goto (-28), 3) := by decide +kernel
theorem d_Engine_takeTurns_34 : decode prog_4_method_17_code 34 = .ok (.aload_n 0, 1) := by decide +kernel
theorem d_Engine_takeTurns_35 : decode prog_4_method_17_code 35 = .ok (.iload_n 2, 1) := by decide +kernel
theorem d_Engine_takeTurns_36 : decode prog_4_method_17_code 36 = .ok (.invokevirtual 98, 3) := by decide +kernel
theorem d_Engine_takeTurns_39 : decode prog_4_method_17_code 39 = .ok (.istore_n 3, 1) := by decide +kernel
set_option maxHeartbeats 4000000 in
set_option maxRecDepth 100000 in
theorem c_Engine_takeTurns (l : Launch) (D : va_G) (T : Nat → ClassId) (ad : Nat → Nat) (g : GE) (Bq : Nat → Prop) (d : Nat) (hdv : ∀ d2, d2 < d → DVP l D T ad g Bq d2) (S : CS) (p0 : Int32) (p1 : Int32) (sz : Nat)  (hI : CIv S) (hd : 8 ≤ (f_xe_underWay S).toInt + d) : Met l ⟨"PageScribe$Engine", "takeTurns", "(II)I"⟩ (wy ⟨"PageScribe$Engine", "takeTurns", "(II)I"⟩ prog_4_method_17_code 5 (some .int)) ({ frames := 7 + 10 * d, cells := 0, slots := 0, locals := 70 * (7 + 10 * d) }) (va_Pc [.ref (ad 72), .int p0, .int p1] (Pw D T (cW T ad S) sz (EC g Bq ad))) (va_Qi (fun (r : Int32) (u : CS) => CIv u ∧ kcL S u ∧ kcP S u ∧ kcU S u ∧ kcW S u) (fun u t => Bw D T (va_A (cW T ad S) sz) (cW T ad u) t) (va_A (cW T ad S) sz)) 0 0 (va_A (cW T ad S) sz) := by
  refine j_met (y := ⟨"PageScribe$Engine", "takeTurns", "(II)I"⟩) (b := prog_4_method_17_code) (n := 5) (ret := (some .int)) (av := [.ref (ad 72), .int p0, .int p1]) (Qc := fun A => va_Qi (fun (r : Int32) (u : CS) => CIv u ∧ kcL S u ∧ kcP S u ∧ kcU S u ∧ kcW S u) (fun u t => Bw D T A (cW T ad u) t) A) (by decide +kernel) (Nat.le_of_ble_eq_true rfl) (fun p e s m args below meth c A ls F hr hlocks hnm hK hP hD hS hA hN hE hl => ?_)
  obtain ⟨hx, hb, hml, hown, hts⟩ := id F
  have hl : lv_has ls 5 [(0, .ref (ad 72)), (1, .int p0), (2, .int p1)] := hl
  obtain ⟨i_vst, i_vc0, i_vc1, i_vc2, i_vc3, i_vv0, i_vv1, i_vv2, i_vv3, i_vg, i_wct, i_wln, i_sd0, i_sd1, i_sd2, i_sd3, i_rln, i_rtx, i_rpl, i_rtk, i_cnv, i_pts, i_cik, i_und⟩ := id hI
  have hAB : ∀ q, A q → Bq q := EC.ab hE hN
  have hEV := hE.1.narrow hAB
  have rp0 := zt_rng p0
  have rp1 := zt_rng p1
  refine lv_aload_n hx hb d_Engine_takeTurns_0 rfl (lv_at hl 0 rfl) ?_
  refine lv_dup hx hb d_Engine_takeTurns_1 rfl ?_
  refine va_get (D := D) (ci := 7) (v := .int (f_xe_loops S)) (C := "PageScribe$Engine") (T := F_Engine) (N := 11) hx hb hts i_Engine hown hK hP 72 (ce_72 _ _ _) cl_7 10 (by decide) (hts _ k_2_34) (fun _ h9 => h9) rfl d_Engine_takeTurns_2 ?_
  refine lv_iconst (v := 1) hx hb d_Engine_takeTurns_5 (by decide) ?_
  refine lv_iadd hx hb d_Engine_takeTurns_6 ?_
  refine lv_topi (fun x1 ex1 => ?_)
  have rx1 := zt_rng x1
  refine va_put (D := D) (ci := 7) (v := .int x1) (ty := .int) (C := "PageScribe$Engine") (T := F_Engine) (N := 11) hx hb hts i_Engine t_Engine t_Engine_ok n_Engine hown hK hP hD hS 72 (ce_72 _ _ _) cl_7 10 (by decide) (hts _ k_2_34) (fun _ h9 => h9) rfl (by decide +kernel) rfl rfl (Nat.le_of_ble_eq_true rfl) d_Engine_takeTurns_7 (fun H locs hP hD hS => ?_)
  rw [cp_xe_loops] at hP hD
  have hP : va_P D classes (cW T ad ((S.1, S.2.1, S.2.2.1, S.2.2.2.1, S.2.2.2.2.1, S.2.2.2.2.2.1, S.2.2.2.2.2.2.1, S.2.2.2.2.2.2.2.1, ((f_xe_fuelGiven S), (f_xe_stepsDone S), (f_xe_latestFault S), (f_xe_underWay S), (f_xe_reach S), x1)) : CS)) H := hP
  have hD : va_D A (cW T ad ((S.1, S.2.1, S.2.2.1, S.2.2.2.1, S.2.2.2.2.1, S.2.2.2.2.2.1, S.2.2.2.2.2.2.1, S.2.2.2.2.2.2.2.1, ((f_xe_fuelGiven S), (f_xe_stepsDone S), (f_xe_latestFault S), (f_xe_underWay S), (f_xe_reach S), x1)) : CS)) := hD
  refine lv_iconst (v := 0) hx hb d_Engine_takeTurns_10 (by decide) ?_
  refine lv_istore_n (lv' := [(3, .int 0), (0, .ref (ad 72)), (1, .int p0), (2, .int p1)]) hx hb d_Engine_takeTurns_11 rfl hl (by decide) rfl (fun ls hl => ?_)
  refine lv_iconst (v := 0) hx hb d_Engine_takeTurns_12 (by decide) ?_
  refine lv_istore (lv' := [(4, .int 0), (3, .int 0), (0, .ref (ad 72)), (1, .int p0), (2, .int p1)]) hx hb d_Engine_takeTurns_13 hl (by decide) rfl (fun ls hl => ?_)
  refine j_loop (α := CS × Int32 × Int32) (fun k x H locs ls => (0 ≤ x.2.2.toInt ∧ p0.toInt ≤ x.2.2.toInt + ((k : Nat) : Int)) ∧ CIv x.1 ∧ kcL S x.1 ∧ kcP S x.1 ∧ kcU S x.1 ∧ kcW S x.1 ∧ va_P D classes (cW T ad x.1) H ∧ va_D A (cW T ad x.1) ∧ va_S A s.heap H locs ∧ lv_has ls 5 [(4, .int x.2.2), (3, .int x.2.1), (0, .ref (ad 72)), (1, .int p0), (2, .int p1)]) (fun _ _ ls => F0 m 15 ls []) (fun k x H locs ls hI9 ih => ?_) p0.toInt.toNat (((S.1, S.2.1, S.2.2.1, S.2.2.2.1, S.2.2.2.2.1, S.2.2.2.2.2.1, S.2.2.2.2.2.2.1, S.2.2.2.2.2.2.2.1, ((f_xe_fuelGiven S), (f_xe_stepsDone S), (f_xe_latestFault S), (f_xe_underWay S), (f_xe_reach S), x1)) : CS), (0 : Int32), (0 : Int32)) _ _ _ ⟨(show 0 ≤ (0 : Int32).toInt ∧ p0.toInt ≤ (0 : Int32).toInt + ((p0.toInt.toNat : Nat) : Int) by have := tI_0; have := tI_0; omega), ⟨i_vst, i_vc0, i_vc1, i_vc2, i_vc3, i_vv0, i_vv1, i_vv2, i_vv3, i_vg, i_wct, i_wln, i_sd0, i_sd1, i_sd2, i_sd3, i_rln, i_rtx, i_rpl, i_rtk, i_cnv, i_pts, i_cik, i_und⟩, (show kcL S ((S.1, S.2.1, S.2.2.1, S.2.2.2.1, S.2.2.2.2.1, S.2.2.2.2.2.1, S.2.2.2.2.2.2.1, S.2.2.2.2.2.2.2.1, ((f_xe_fuelGiven S), (f_xe_stepsDone S), (f_xe_latestFault S), (f_xe_underWay S), (f_xe_reach S), x1)) : CS) from (kcL_r S)), (show kcP S ((S.1, S.2.1, S.2.2.1, S.2.2.2.1, S.2.2.2.2.1, S.2.2.2.2.2.1, S.2.2.2.2.2.2.1, S.2.2.2.2.2.2.2.1, ((f_xe_fuelGiven S), (f_xe_stepsDone S), (f_xe_latestFault S), (f_xe_underWay S), (f_xe_reach S), x1)) : CS) from (kcP_r S)), (show kcU S ((S.1, S.2.1, S.2.2.1, S.2.2.2.1, S.2.2.2.2.1, S.2.2.2.2.2.1, S.2.2.2.2.2.2.1, S.2.2.2.2.2.2.2.1, ((f_xe_fuelGiven S), (f_xe_stepsDone S), (f_xe_latestFault S), (f_xe_underWay S), (f_xe_reach S), x1)) : CS) from (kcU_r S)), (show kcW S ((S.1, S.2.1, S.2.2.1, S.2.2.2.1, S.2.2.2.2.1, S.2.2.2.2.2.1, S.2.2.2.2.2.2.1, S.2.2.2.2.2.2.2.1, ((f_xe_fuelGiven S), (f_xe_stepsDone S), (f_xe_latestFault S), (f_xe_underWay S), (f_xe_reach S), x1)) : CS) from (kcW_r S)), hP, hD, hS, lv_sub hl [0, 1, 2, 3, 4] rfl⟩
  obtain ⟨S1, e, i⟩ := x
  obtain ⟨hf1, hIx, klcL_S1, klcP_S1, klcU_S1, klcW_S1, hP, hD, hS, hl⟩ := hI9
  obtain ⟨i_vst, i_vc0, i_vc1, i_vc2, i_vc3, i_vv0, i_vv1, i_vv2, i_vv3, i_vg, i_wct, i_wln, i_sd0, i_sd1, i_sd2, i_sd3, i_rln, i_rtx, i_rpl, i_rtk, i_cnv, i_pts, i_cik, i_und⟩ := (show CIv S1 from hIx)
  have klcL_S1 : kcL S S1 := klcL_S1
  have klcP_S1 : kcP S S1 := klcP_S1
  have klcU_S1 : kcU S S1 := klcU_S1
  have klcW_S1 : kcW S S1 := klcW_S1
  have hf1 : 0 ≤ i.toInt ∧ p0.toInt ≤ i.toInt + ((k : Nat) : Int) := hf1
  have hP : va_P D classes (cW T ad S1) H := hP
  have hD : va_D A (cW T ad S1) := hD
  have hl : lv_has ls 5 [(4, .int i), (3, .int e), (0, .ref (ad 72)), (1, .int p0), (2, .int p1)] := hl
  have hu_S1 : (f_xe_underWay S1).toInt = (f_xe_underWay S).toInt := congrArg Int32.toInt klcU_S1
  refine lv_iload hx hb d_Engine_takeTurns_15 (lv_at hl 0 rfl) ?_
  refine lv_iload_n hx hb d_Engine_takeTurns_17 rfl (lv_at hl 3 rfl) ?_
  refine lv_icmp_ge (tgt := 46) hx hb d_Engine_takeTurns_18 (by decide) (fun c18_1 => ?_) (fun c18_1 => ?_)
  · have fc18_1 : p0.toInt ≤ i.toInt := zt_le (show p0.toInt = _ from rfl) (show i.toInt = _ from rfl) c18_1
    refine lv_aload_n hx hb d_Engine_takeTurns_46 rfl (lv_at hl 2 rfl) ?_
    refine lv_dup hx hb d_Engine_takeTurns_47 rfl ?_
    refine va_get (D := D) (ci := 7) (v := .int (f_xe_loops S1)) (C := "PageScribe$Engine") (T := F_Engine) (N := 11) hx hb hts i_Engine hown hK hP 72 (ce_72 _ _ _) cl_7 10 (by decide) (hts _ k_2_34) (fun _ h9 => h9) rfl d_Engine_takeTurns_48 ?_
    refine lv_iconst (v := 1) hx hb d_Engine_takeTurns_51 (by decide) ?_
    refine lv_isub hx hb d_Engine_takeTurns_52 ?_
    refine lv_topi (fun x2 ex2 => ?_)
    have rx2 := zt_rng x2
    refine va_put (D := D) (ci := 7) (v := .int x2) (ty := .int) (C := "PageScribe$Engine") (T := F_Engine) (N := 11) hx hb hts i_Engine t_Engine t_Engine_ok n_Engine hown hK hP hD hS 72 (ce_72 _ _ _) cl_7 10 (by decide) (hts _ k_2_34) (fun _ h9 => h9) rfl (by decide +kernel) rfl rfl (Nat.le_of_ble_eq_true rfl) d_Engine_takeTurns_53 (fun H locs hP hD hS => ?_)
    rw [cp_xe_loops] at hP hD
    have hP : va_P D classes (cW T ad ((S1.1, S1.2.1, S1.2.2.1, S1.2.2.2.1, S1.2.2.2.2.1, S1.2.2.2.2.2.1, S1.2.2.2.2.2.2.1, S1.2.2.2.2.2.2.2.1, ((f_xe_fuelGiven S1), (f_xe_stepsDone S1), (f_xe_latestFault S1), (f_xe_underWay S1), (f_xe_reach S1), x2)) : CS)) H := hP
    have hD : va_D A (cW T ad ((S1.1, S1.2.1, S1.2.2.1, S1.2.2.2.1, S1.2.2.2.2.1, S1.2.2.2.2.2.1, S1.2.2.2.2.2.2.1, S1.2.2.2.2.2.2.2.1, ((f_xe_fuelGiven S1), (f_xe_stepsDone S1), (f_xe_latestFault S1), (f_xe_underWay S1), (f_xe_reach S1), x2)) : CS)) := hD
    refine lv_iload_n hx hb d_Engine_takeTurns_56 rfl (lv_at hl 1 rfl) ?_
    refine lv_iconst (v := (-1)) hx hb d_Engine_takeTurns_57 (by decide) ?_
    refine lv_icmp_ne (tgt := 65) hx hb d_Engine_takeTurns_58 (by decide) (fun c58_1 => ?_) (fun c58_1 => ?_)
    · first | have fc58_1 : e.toInt < (-1) := (by have := zt_ne (show e.toInt = _ from rfl) tI_m1 c58_1; omega) | have fc58_1 : (-1) < e.toInt := (by have := zt_ne (show e.toInt = _ from rfl) tI_m1 c58_1; omega) | skip
      refine lv_iload_n hx hb d_Engine_takeTurns_65 rfl (lv_at hl 1 rfl) ?_
      exact j_iret F hr hlocks hK hS ((S1.1, S1.2.1, S1.2.2.1, S1.2.2.2.1, S1.2.2.2.2.1, S1.2.2.2.2.2.1, S1.2.2.2.2.2.2.1, S1.2.2.2.2.2.2.2.1, ((f_xe_fuelGiven S1), (f_xe_stepsDone S1), (f_xe_latestFault S1), (f_xe_underWay S1), (f_xe_reach S1), x2)) : CS) ⟨⟨i_vst, i_vc0, i_vc1, i_vc2, i_vc3, i_vv0, i_vv1, i_vv2, i_vv3, i_vg, i_wct, i_wln, i_sd0, i_sd1, i_sd2, i_sd3, i_rln, i_rtx, i_rpl, i_rtk, i_cnv, i_pts, i_cik, i_und⟩, klcL_S1, klcP_S1, klcU_S1, klcW_S1⟩ hP hD d_Engine_takeTurns_66
    · have fc58_1 : e.toInt = (-1) := zt_eq (show e.toInt = _ from rfl) tI_m1 c58_1
      refine lv_iconst (v := 0) hx hb d_Engine_takeTurns_61 (by decide) ?_
      refine lv_goto (tgt := 66) hx hb d_Engine_takeTurns_62 (by decide) ?_
      exact j_iret F hr hlocks hK hS ((S1.1, S1.2.1, S1.2.2.1, S1.2.2.2.1, S1.2.2.2.2.1, S1.2.2.2.2.2.1, S1.2.2.2.2.2.2.1, S1.2.2.2.2.2.2.2.1, ((f_xe_fuelGiven S1), (f_xe_stepsDone S1), (f_xe_latestFault S1), (f_xe_underWay S1), (f_xe_reach S1), x2)) : CS) ⟨⟨i_vst, i_vc0, i_vc1, i_vc2, i_vc3, i_vv0, i_vv1, i_vv2, i_vv3, i_vg, i_wct, i_wln, i_sd0, i_sd1, i_sd2, i_sd3, i_rln, i_rtx, i_rpl, i_rtk, i_cnv, i_pts, i_cik, i_und⟩, klcL_S1, klcP_S1, klcU_S1, klcW_S1⟩ hP hD d_Engine_takeTurns_66
  · have fc18_1 : i.toInt < p0.toInt := Int.not_le.mp (zt_nle (show p0.toInt = _ from rfl) (show i.toInt = _ from rfl) c18_1)
    refine lv_iload_n hx hb d_Engine_takeTurns_21 rfl (lv_at hl 1 rfl) ?_
    refine lv_if_ne (tgt := 46) hx hb d_Engine_takeTurns_22 (by decide) (fun c22_1 => ?_) (fun c22_1 => ?_)
    · first | have fc22_1 : e.toInt < 0 := (by have := zt_ne (show e.toInt = _ from rfl) tI_0 c22_1; omega) | have fc22_1 : 0 < e.toInt := (by have := zt_ne (show e.toInt = _ from rfl) tI_0 c22_1; omega) | skip
      refine lv_aload_n hx hb d_Engine_takeTurns_46 rfl (lv_at hl 2 rfl) ?_
      refine lv_dup hx hb d_Engine_takeTurns_47 rfl ?_
      refine va_get (D := D) (ci := 7) (v := .int (f_xe_loops S1)) (C := "PageScribe$Engine") (T := F_Engine) (N := 11) hx hb hts i_Engine hown hK hP 72 (ce_72 _ _ _) cl_7 10 (by decide) (hts _ k_2_34) (fun _ h9 => h9) rfl d_Engine_takeTurns_48 ?_
      refine lv_iconst (v := 1) hx hb d_Engine_takeTurns_51 (by decide) ?_
      refine lv_isub hx hb d_Engine_takeTurns_52 ?_
      refine lv_topi (fun x3 ex3 => ?_)
      have rx3 := zt_rng x3
      refine va_put (D := D) (ci := 7) (v := .int x3) (ty := .int) (C := "PageScribe$Engine") (T := F_Engine) (N := 11) hx hb hts i_Engine t_Engine t_Engine_ok n_Engine hown hK hP hD hS 72 (ce_72 _ _ _) cl_7 10 (by decide) (hts _ k_2_34) (fun _ h9 => h9) rfl (by decide +kernel) rfl rfl (Nat.le_of_ble_eq_true rfl) d_Engine_takeTurns_53 (fun H locs hP hD hS => ?_)
      rw [cp_xe_loops] at hP hD
      have hP : va_P D classes (cW T ad ((S1.1, S1.2.1, S1.2.2.1, S1.2.2.2.1, S1.2.2.2.2.1, S1.2.2.2.2.2.1, S1.2.2.2.2.2.2.1, S1.2.2.2.2.2.2.2.1, ((f_xe_fuelGiven S1), (f_xe_stepsDone S1), (f_xe_latestFault S1), (f_xe_underWay S1), (f_xe_reach S1), x3)) : CS)) H := hP
      have hD : va_D A (cW T ad ((S1.1, S1.2.1, S1.2.2.1, S1.2.2.2.1, S1.2.2.2.2.1, S1.2.2.2.2.2.1, S1.2.2.2.2.2.2.1, S1.2.2.2.2.2.2.2.1, ((f_xe_fuelGiven S1), (f_xe_stepsDone S1), (f_xe_latestFault S1), (f_xe_underWay S1), (f_xe_reach S1), x3)) : CS)) := hD
      refine lv_iload_n hx hb d_Engine_takeTurns_56 rfl (lv_at hl 1 rfl) ?_
      refine lv_iconst (v := (-1)) hx hb d_Engine_takeTurns_57 (by decide) ?_
      refine lv_icmp_ne (tgt := 65) hx hb d_Engine_takeTurns_58 (by decide) (fun c58_2 => ?_) (fun c58_2 => ?_)
      · first | have fc58_2 : e.toInt < (-1) := (by have := zt_ne (show e.toInt = _ from rfl) tI_m1 c58_2; omega) | have fc58_2 : (-1) < e.toInt := (by have := zt_ne (show e.toInt = _ from rfl) tI_m1 c58_2; omega) | skip
        refine lv_iload_n hx hb d_Engine_takeTurns_65 rfl (lv_at hl 1 rfl) ?_
        exact j_iret F hr hlocks hK hS ((S1.1, S1.2.1, S1.2.2.1, S1.2.2.2.1, S1.2.2.2.2.1, S1.2.2.2.2.2.1, S1.2.2.2.2.2.2.1, S1.2.2.2.2.2.2.2.1, ((f_xe_fuelGiven S1), (f_xe_stepsDone S1), (f_xe_latestFault S1), (f_xe_underWay S1), (f_xe_reach S1), x3)) : CS) ⟨⟨i_vst, i_vc0, i_vc1, i_vc2, i_vc3, i_vv0, i_vv1, i_vv2, i_vv3, i_vg, i_wct, i_wln, i_sd0, i_sd1, i_sd2, i_sd3, i_rln, i_rtx, i_rpl, i_rtk, i_cnv, i_pts, i_cik, i_und⟩, klcL_S1, klcP_S1, klcU_S1, klcW_S1⟩ hP hD d_Engine_takeTurns_66
      · have fc58_2 : e.toInt = (-1) := zt_eq (show e.toInt = _ from rfl) tI_m1 c58_2
        refine lv_iconst (v := 0) hx hb d_Engine_takeTurns_61 (by decide) ?_
        refine lv_goto (tgt := 66) hx hb d_Engine_takeTurns_62 (by decide) ?_
        exact j_iret F hr hlocks hK hS ((S1.1, S1.2.1, S1.2.2.1, S1.2.2.2.1, S1.2.2.2.2.1, S1.2.2.2.2.2.1, S1.2.2.2.2.2.2.1, S1.2.2.2.2.2.2.2.1, ((f_xe_fuelGiven S1), (f_xe_stepsDone S1), (f_xe_latestFault S1), (f_xe_underWay S1), (f_xe_reach S1), x3)) : CS) ⟨⟨i_vst, i_vc0, i_vc1, i_vc2, i_vc3, i_vv0, i_vv1, i_vv2, i_vv3, i_vg, i_wct, i_wln, i_sd0, i_sd1, i_sd2, i_sd3, i_rln, i_rtx, i_rpl, i_rtk, i_cnv, i_pts, i_cik, i_und⟩, klcL_S1, klcP_S1, klcU_S1, klcW_S1⟩ hP hD d_Engine_takeTurns_66
    · have fc22_1 : e.toInt = 0 := zt_eq (show e.toInt = _ from rfl) tI_0 c22_1
      refine lv_aload_n hx hb d_Engine_takeTurns_25 rfl (lv_at hl 2 rfl) ?_
      refine jc_ci (w := (fun u => u)) hK hP hD hS hA (va_runV (As := []) (rest := []) F (c_Engine_countStep l D T ad S1  H.size ⟨i_vst, i_vc0, i_vc1, i_vc2, i_vc3, i_vv0, i_vv1, i_vv2, i_vv3, i_vg, i_wct, i_wln, i_sd0, i_sd1, i_sd2, i_sd3, i_rln, i_rtx, i_rpl, i_rtk, i_cnv, i_pts, i_cik, i_und⟩) (j_cV (k := 0) (C := "PageScribe$Engine") hts k_3_171 k_1_9 k_3_168 k_3_170 k_0_14 (by decide +kernel) ⟨by dsimp only; omega, by dsimp only; omega⟩) (j_preV (q0 := 72) (ci := 7) hK hP hD csc csc_all csc_nd cl_7 (ce_72 _ _ _) (fun _ _ _ _ h => h) (fun _ _ _ => trivial)) rfl rfl hl.1 rfl (lv_room (Nat.le_of_ble_eq_true rfl)) d_Engine_takeTurns_26 ⟨Nat.le_of_ble_eq_true rfl, Nat.le_of_ble_eq_true rfl⟩) (fun rv1 S2 H locs hw1 hP hD hS => ?_)
      have hP : va_P D classes (cW T ad S2) H := hP
      have hD : va_D A (cW T ad S2) := hD
      obtain ⟨⟨i_vst, i_vc0, i_vc1, i_vc2, i_vc3, i_vv0, i_vv1, i_vv2, i_vv3, i_vg, i_wct, i_wln, i_sd0, i_sd1, i_sd2, i_sd3, i_rln, i_rtx, i_rpl, i_rtk, i_cnv, i_pts, i_cik, i_und⟩, kpcL_S2, kpcP_S2, kpcU_S2, kpcW_S2⟩ := hw1
      have kScL_S2 : kcL S S2 := kcL_t (show kcL S S1 from klcL_S1) kpcL_S2
      have kScP_S2 : kcP S S2 := kcP_t (show kcP S S1 from klcP_S1) kpcP_S2
      have kScU_S2 : kcU S S2 := kcU_t (show kcU S S1 from klcU_S1) kpcU_S2
      have kScW_S2 : kcW S S2 := kcW_t (show kcW S S1 from klcW_S1) kpcW_S2
      have nxr_length_S2 : (f_xr_length S2).toInt = (f_xr_length S1).toInt := congrArg Int32.toInt kpcL_S2
      have nxr_length_S2 : (f_xr_length S2).toInt = (f_xr_length S1).toInt := congrArg Int32.toInt kpcP_S2.1
      have nxr_place_S2 : (f_xr_place S2).toInt = (f_xr_place S1).toInt := congrArg Int32.toInt kpcP_S2.2.1
      have nxe_underWay_S2 : (f_xe_underWay S2).toInt = (f_xe_underWay S1).toInt := congrArg Int32.toInt kpcU_S2
      have nxp_columns_S2 : (f_xp_columns S2).toInt = (f_xp_columns S1).toInt := congrArg Int32.toInt kpcW_S2.1
      have nxp_rows_S2 : (f_xp_rows S2).toInt = (f_xp_rows S1).toInt := congrArg Int32.toInt kpcW_S2.2
      have rrv1 := zt_rng rv1
      refine lv_istore_n (lv' := [(3, .int rv1), (4, .int i), (0, .ref (ad 72)), (1, .int p0), (2, .int p1)]) hx hb d_Engine_takeTurns_29 rfl hl (by decide) rfl (fun ls hl => ?_)
      refine lv_iload_n hx hb d_Engine_takeTurns_30 rfl (lv_at hl 0 rfl) ?_
      refine lv_if_ne (tgt := 40) hx hb d_Engine_takeTurns_31 (by decide) (fun c31_1 => ?_) (fun c31_1 => ?_)
      · first | have fc31_1 : rv1.toInt < 0 := (by have := zt_ne (show rv1.toInt = _ from rfl) tI_0 c31_1; omega) | have fc31_1 : 0 < rv1.toInt := (by have := zt_ne (show rv1.toInt = _ from rfl) tI_0 c31_1; omega) | skip
        refine lv_iinc (v := (i + 1)) (lv' := [(4, .int (i + 1)), (3, .int rv1), (0, .ref (ad 72)), (1, .int p0), (2, .int p1)]) hx hb d_Engine_takeTurns_40 hl (k := 1) rfl (by first | rfl | decide) (by decide) rfl (fun ls hl => ?_)
        obtain ⟨x4, ex4⟩ : ∃ z, z = (i + 1) := ⟨_, rfl⟩
        rw [← ex4] at hl
        have fx4 : x4.toInt = (i.toInt + 1) := by rw [ex4]; exact (zt_add (show i.toInt = _ from rfl) tI_1 (by omega) (by omega)).trans (by omega)
        have hl : lv_has ls 5 [(4, .int x4), (3, .int rv1), (0, .ref (ad 72)), (1, .int p0), (2, .int p1)] := hl
        refine lv_goto (tgt := 15) hx hb d_Engine_takeTurns_43 (by decide) ?_
        exact ih (k - 1) (S2, rv1, x4) _ _ _ (by omega) ⟨(show 0 ≤ x4.toInt ∧ p0.toInt ≤ x4.toInt + (((k - 1) : Nat) : Int) by omega), ⟨i_vst, i_vc0, i_vc1, i_vc2, i_vc3, i_vv0, i_vv1, i_vv2, i_vv3, i_vg, i_wct, i_wln, i_sd0, i_sd1, i_sd2, i_sd3, i_rln, i_rtx, i_rpl, i_rtk, i_cnv, i_pts, i_cik, i_und⟩, (show kcL S S2 from kScL_S2), (show kcP S S2 from kScP_S2), (show kcU S S2 from kScU_S2), (show kcW S S2 from kScW_S2), hP, hD, hS, lv_sub hl [0, 1, 2, 3, 4] rfl⟩
      · have fc31_1 : rv1.toInt = 0 := zt_eq (show rv1.toInt = _ from rfl) tI_0 c31_1
        refine lv_aload_n hx hb d_Engine_takeTurns_34 rfl (lv_at hl 2 rfl) ?_
        refine lv_iload_n hx hb d_Engine_takeTurns_35 rfl (lv_at hl 4 rfl) ?_
        refine jc_ci (w := (fun u => u)) hK hP hD hS hA (va_runV (As := [.int p1]) (rest := []) F (c_Engine_runArray l D T ad g Bq d hdv S2 p1  H.size ⟨i_vst, i_vc0, i_vc1, i_vc2, i_vc3, i_vv0, i_vv1, i_vv2, i_vv3, i_vg, i_wct, i_wln, i_sd0, i_sd1, i_sd2, i_sd3, i_rln, i_rtx, i_rpl, i_rtk, i_cnv, i_pts, i_cik, i_und⟩ (show 8 ≤ (f_xe_underWay S2).toInt + d by omega)) (j_cV (k := 1) (C := "PageScribe$Engine") hts k_5_203 k_1_9 k_5_200 k_5_202 k_0_68 (by decide +kernel) ⟨by dsimp only; omega, by dsimp only; omega⟩) (j_preV (q0 := 72) (ci := 7) hK hP hD csc csc_all csc_nd cl_7 (ce_72 _ _ _) (fun _ _ _ _ h => EC.calling h) (fun U hU hW => EC.at hS hAB hU hW hE)) rfl rfl hl.1 rfl (lv_room (Nat.le_of_ble_eq_true rfl)) d_Engine_takeTurns_36 ⟨Nat.le_of_ble_eq_true rfl, Nat.le_of_ble_eq_true rfl⟩) (fun rv2 S3 H locs hw2 hP hD hS => ?_)
        have hP : va_P D classes (cW T ad S3) H := hP
        have hD : va_D A (cW T ad S3) := hD
        obtain ⟨⟨i_vst, i_vc0, i_vc1, i_vc2, i_vc3, i_vv0, i_vv1, i_vv2, i_vv3, i_vg, i_wct, i_wln, i_sd0, i_sd1, i_sd2, i_sd3, i_rln, i_rtx, i_rpl, i_rtk, i_cnv, i_pts, i_cik, i_und⟩, kpcL_S3, kpcP_S3, kpcU_S3, kpcW_S3⟩ := hw2
        have kScL_S3 : kcL S S3 := kcL_t (show kcL S S2 from kScL_S2) kpcL_S3
        have kScP_S3 : kcP S S3 := kcP_t (show kcP S S2 from kScP_S2) kpcP_S3
        have kScU_S3 : kcU S S3 := kcU_t (show kcU S S2 from kScU_S2) kpcU_S3
        have kScW_S3 : kcW S S3 := kcW_t (show kcW S S2 from kScW_S2) kpcW_S3
        have nxr_length_S3 : (f_xr_length S3).toInt = (f_xr_length S2).toInt := congrArg Int32.toInt kpcL_S3
        have nxr_length_S3 : (f_xr_length S3).toInt = (f_xr_length S2).toInt := congrArg Int32.toInt kpcP_S3.1
        have nxr_place_S3 : (f_xr_place S3).toInt = (f_xr_place S2).toInt := congrArg Int32.toInt kpcP_S3.2.1
        have nxe_underWay_S3 : (f_xe_underWay S3).toInt = (f_xe_underWay S2).toInt := congrArg Int32.toInt kpcU_S3
        have nxp_columns_S3 : (f_xp_columns S3).toInt = (f_xp_columns S2).toInt := congrArg Int32.toInt kpcW_S3.1
        have nxp_rows_S3 : (f_xp_rows S3).toInt = (f_xp_rows S2).toInt := congrArg Int32.toInt kpcW_S3.2
        have rrv2 := zt_rng rv2
        refine lv_istore_n (lv' := [(3, .int rv2), (4, .int i), (0, .ref (ad 72)), (1, .int p0), (2, .int p1)]) hx hb d_Engine_takeTurns_39 rfl hl (by decide) rfl (fun ls hl => ?_)
        refine lv_iinc (v := (i + 1)) (lv' := [(4, .int (i + 1)), (3, .int rv2), (0, .ref (ad 72)), (1, .int p0), (2, .int p1)]) hx hb d_Engine_takeTurns_40 hl (k := 1) rfl (by first | rfl | decide) (by decide) rfl (fun ls hl => ?_)
        obtain ⟨x5, ex5⟩ : ∃ z, z = (i + 1) := ⟨_, rfl⟩
        rw [← ex5] at hl
        have fx5 : x5.toInt = (i.toInt + 1) := by rw [ex5]; exact (zt_add (show i.toInt = _ from rfl) tI_1 (by omega) (by omega)).trans (by omega)
        have hl : lv_has ls 5 [(4, .int x5), (3, .int rv2), (0, .ref (ad 72)), (1, .int p0), (2, .int p1)] := hl
        refine lv_goto (tgt := 15) hx hb d_Engine_takeTurns_43 (by decide) ?_
        exact ih (k - 1) (S3, rv2, x5) _ _ _ (by omega) ⟨(show 0 ≤ x5.toInt ∧ p0.toInt ≤ x5.toInt + (((k - 1) : Nat) : Int) by omega), ⟨i_vst, i_vc0, i_vc1, i_vc2, i_vc3, i_vv0, i_vv1, i_vv2, i_vv3, i_vg, i_wct, i_wln, i_sd0, i_sd1, i_sd2, i_sd3, i_rln, i_rtx, i_rpl, i_rtk, i_cnv, i_pts, i_cik, i_und⟩, (show kcL S S3 from kScL_S3), (show kcP S S3 from kScP_S3), (show kcU S S3 from kScU_S3), (show kcW S S3 from kScW_S3), hP, hD, hS, lv_sub hl [0, 1, 2, 3, 4] rfl⟩
theorem d_Engine_runRepeat_0 : decode prog_4_method_15_code 0 = .ok (.aload_n 0, 1) := by decide +kernel
theorem d_Engine_runRepeat_1 : decode prog_4_method_15_code 1 = .ok (.getfield 30, 3) := by decide +kernel
theorem d_Engine_runRepeat_4 : decode prog_4_method_15_code 4 = .ok (.iconst 1, 1) := by decide +kernel
theorem d_Engine_runRepeat_5 : decode prog_4_method_15_code 5 = .ok (.invokevirtual 215, 3) := by decide +kernel
theorem d_Engine_runRepeat_8 : decode prog_4_method_15_code 8 = .ok (.istore_n 1, 1) := by decide +kernel
theorem d_Engine_runRepeat_9 : decode prog_4_method_15_code 9 = .ok (.iload_n 1, 1) := by decide +kernel
theorem d_Engine_runRepeat_10 : decode prog_4_method_15_code 10 = .ok (.ifCond .ge 5, 3) := by decide +kernel
theorem d_Engine_runRepeat_15 : decode prog_4_method_15_code 15 = .ok (.aload_n 0, 1) := by decide +kernel
theorem d_Engine_runRepeat_16 : decode prog_4_method_15_code 16 = .ok (.getfield 30, 3) := by decide +kernel
theorem d_Engine_runRepeat_19 : decode prog_4_method_15_code 19 = .ok (.iconst 0, 1) := by decide +kernel
theorem d_Engine_runRepeat_20 : decode prog_4_method_15_code 20 = .ok (.invokevirtual 215, 3) := by decide +kernel
theorem d_Engine_runRepeat_23 : decode prog_4_method_15_code 23 = .ok (.istore_n 2, 1) := by decide +kernel
theorem d_Engine_runRepeat_24 : decode prog_4_method_15_code 24 = .ok (.aload_n 0, 1) := by decide +kernel
theorem d_Engine_runRepeat_25 : decode prog_4_method_15_code 25 = .ok (.getfield 30, 3) := by decide +kernel
theorem d_Engine_runRepeat_28 : decode prog_4_method_15_code 28 = .ok (.iconst 2, 1) := by decide +kernel
theorem d_Engine_runRepeat_29 : decode prog_4_method_15_code 29 = .ok (.invokevirtual 221, 3) := by decide +kernel
theorem d_Engine_runRepeat_32 : decode prog_4_method_15_code 32 = .ok (.aload_n 0, 1) := by decide +kernel
theorem d_Engine_runRepeat_33 : decode prog_4_method_15_code 33 = .ok (.iload_n 1, 1) := by decide +kernel
theorem d_Engine_runRepeat_34 : decode prog_4_method_15_code 34 = .ok (.iload_n 2, 1) := by decide +kernel
theorem d_Engine_runRepeat_35 : decode prog_4_method_15_code 35 = .ok (.invokevirtual 226, 3) := by decide +kernel
theorem k_5_237 : Cond.code ⟨"PageScribe$Engine", "takeTurns", "(II)I"⟩ prog_4_method_17_code 5 (some .int) ∈ gw := gw_of (tb_5 (List.mem_of_getElem? (i := 237) (by decide +kernel))) (by decide +kernel)
theorem k_5_234 : Cond.methodLink "PageScribe$Engine" 226 ⟨"PageScribe$Engine", "takeTurns", "(II)I"⟩ ∈ gw := gw_of (tb_5 (List.mem_of_getElem? (i := 234) (by decide +kernel))) (by decide +kernel)
theorem k_5_236 : Cond.instanceMethod ⟨"PageScribe$Engine", "takeTurns", "(II)I"⟩ ∈ gw := gw_of (tb_5 (List.mem_of_getElem? (i := 236) (by decide +kernel))) (by decide +kernel)
theorem k_0_74 : Cond.selects "PageScribe$Engine" ⟨"PageScribe$Engine", "takeTurns", "(II)I"⟩ ⟨"PageScribe$Engine", "takeTurns", "(II)I"⟩ ∈ gw := gw_of (tb_0 (List.mem_of_getElem? (i := 74) (by decide +kernel))) (by decide +kernel)
theorem d_Engine_runRepeat_38 : decode prog_4_method_15_code 38 = .ok (.ireturn, 1) := by decide +kernel
theorem d_Engine_runRepeat_13 : decode prog_4_method_15_code 13 = .ok (.iconst 4, 1) := by decide +kernel
theorem d_Engine_runRepeat_14 : decode prog_4_method_15_code 14 = .ok (.ireturn, 1) := by decide +kernel
set_option maxHeartbeats 4000000 in
set_option maxRecDepth 100000 in
theorem c_Engine_runRepeat (l : Launch) (D : va_G) (T : Nat → ClassId) (ad : Nat → Nat) (g : GE) (Bq : Nat → Prop) (d : Nat) (hdv : ∀ d2, d2 < d → DVP l D T ad g Bq d2) (S : CS)  (sz : Nat)  (hI : CIv S) (hd : 8 ≤ (f_xe_underWay S).toInt + d) : Met l ⟨"PageScribe$Engine", "runRepeat", "()I"⟩ (wy ⟨"PageScribe$Engine", "runRepeat", "()I"⟩ prog_4_method_15_code 3 (some .int)) ({ frames := 8 + 10 * d, cells := 0, slots := 0, locals := 70 * (8 + 10 * d) }) (va_Pc [.ref (ad 72)] (Pw D T (cW T ad S) sz (EC g Bq ad))) (va_Qi (fun (r : Int32) (u : CS) => CIv u ∧ kcL S u ∧ kcP S u ∧ kcU S u ∧ kcW S u) (fun u t => Bw D T (va_A (cW T ad S) sz) (cW T ad u) t) (va_A (cW T ad S) sz)) 0 0 (va_A (cW T ad S) sz) := by
  refine j_met (y := ⟨"PageScribe$Engine", "runRepeat", "()I"⟩) (b := prog_4_method_15_code) (n := 3) (ret := (some .int)) (av := [.ref (ad 72)]) (Qc := fun A => va_Qi (fun (r : Int32) (u : CS) => CIv u ∧ kcL S u ∧ kcP S u ∧ kcU S u ∧ kcW S u) (fun u t => Bw D T A (cW T ad u) t) A) (by decide +kernel) (Nat.le_of_ble_eq_true rfl) (fun p e s m args below meth c A ls F hr hlocks hnm hK hP hD hS hA hN hE hl => ?_)
  obtain ⟨hx, hb, hml, hown, hts⟩ := id F
  have hl : lv_has ls 3 [(0, .ref (ad 72))] := hl
  obtain ⟨i_vst, i_vc0, i_vc1, i_vc2, i_vc3, i_vv0, i_vv1, i_vv2, i_vv3, i_vg, i_wct, i_wln, i_sd0, i_sd1, i_sd2, i_sd3, i_rln, i_rtx, i_rpl, i_rtk, i_cnv, i_pts, i_cik, i_und⟩ := id hI
  have hAB : ∀ q, A q → Bq q := EC.ab hE hN
  have hEV := hE.1.narrow hAB
  refine lv_aload_n hx hb d_Engine_runRepeat_0 rfl (lv_at hl 0 rfl) ?_
  refine va_get (D := D) (ci := 7) (v := .ref (ad 1)) (C := "PageScribe$Engine") (T := F_Engine) (N := 11) hx hb hts i_Engine hown hK hP 72 (ce_72 _ _ _) cl_7 0 (by decide) (hts _ k_2_22) (fun _ h9 => h9) rfl d_Engine_runRepeat_1 ?_
  refine lv_iconst (v := 1) hx hb d_Engine_runRepeat_4 (by decide) ?_
  refine jc_ci (w := (fun _ => S)) hK hP hD hS hA (va_runV (As := [.int 1]) (rest := []) F (c_Stack_numberDown l D T ad S (1 : Int32)  s.heap.size) (j_cV (k := 1) (C := "PageScribe$Stack") hts k_2_130 k_1_3 k_5_197 k_2_128 k_2_129 (by decide +kernel) ⟨by dsimp only; omega, by dsimp only; omega⟩) (j_preV (q0 := 1) (ci := 0) hK hP hD csc csc_all csc_nd cl_0 (ce_1 _ _ _) (fun _ _ _ _ h => h) (fun _ _ _ => trivial)) rfl rfl hl.1 rfl (lv_room (Nat.le_of_ble_eq_true rfl)) d_Engine_runRepeat_5 ⟨Nat.le_of_ble_eq_true rfl, Nat.le_of_ble_eq_true rfl⟩) (fun rv1 u1 H locs hw1 hP hD hS => ?_)
  have hP : va_P D classes (cW T ad S) H := hP
  have hD : va_D A (cW T ad S) := hD
  have rrv1 := zt_rng rv1
  refine lv_istore_n (lv' := [(1, .int rv1), (0, .ref (ad 72))]) hx hb d_Engine_runRepeat_8 rfl hl (by decide) rfl (fun ls hl => ?_)
  refine lv_iload_n hx hb d_Engine_runRepeat_9 rfl (lv_at hl 0 rfl) ?_
  refine lv_if_ge (tgt := 15) hx hb d_Engine_runRepeat_10 (by decide) (fun c10_1 => ?_) (fun c10_1 => ?_)
  · have fc10_1 : 0 ≤ rv1.toInt := zt_le tI_0 (show rv1.toInt = _ from rfl) c10_1
    refine lv_aload_n hx hb d_Engine_runRepeat_15 rfl (lv_at hl 1 rfl) ?_
    refine va_get (D := D) (ci := 7) (v := .ref (ad 1)) (C := "PageScribe$Engine") (T := F_Engine) (N := 11) hx hb hts i_Engine hown hK hP 72 (ce_72 _ _ _) cl_7 0 (by decide) (hts _ k_2_22) (fun _ h9 => h9) rfl d_Engine_runRepeat_16 ?_
    refine lv_iconst (v := 0) hx hb d_Engine_runRepeat_19 (by decide) ?_
    refine jc_ci (w := (fun _ => S)) hK hP hD hS hA (va_runV (As := [.int 0]) (rest := []) F (c_Stack_numberDown l D T ad S (0 : Int32)  H.size) (j_cV (k := 1) (C := "PageScribe$Stack") hts k_2_130 k_1_3 k_5_197 k_2_128 k_2_129 (by decide +kernel) ⟨by dsimp only; omega, by dsimp only; omega⟩) (j_preV (q0 := 1) (ci := 0) hK hP hD csc csc_all csc_nd cl_0 (ce_1 _ _ _) (fun _ _ _ _ h => h) (fun _ _ _ => trivial)) rfl rfl hl.1 rfl (lv_room (Nat.le_of_ble_eq_true rfl)) d_Engine_runRepeat_20 ⟨Nat.le_of_ble_eq_true rfl, Nat.le_of_ble_eq_true rfl⟩) (fun rv2 u2 H locs hw2 hP hD hS => ?_)
    have hP : va_P D classes (cW T ad S) H := hP
    have hD : va_D A (cW T ad S) := hD
    have rrv2 := zt_rng rv2
    refine lv_istore_n (lv' := [(2, .int rv2), (1, .int rv1), (0, .ref (ad 72))]) hx hb d_Engine_runRepeat_23 rfl hl (by decide) rfl (fun ls hl => ?_)
    refine lv_aload_n hx hb d_Engine_runRepeat_24 rfl (lv_at hl 2 rfl) ?_
    refine va_get (D := D) (ci := 7) (v := .ref (ad 1)) (C := "PageScribe$Engine") (T := F_Engine) (N := 11) hx hb hts i_Engine hown hK hP 72 (ce_72 _ _ _) cl_7 0 (by decide) (hts _ k_2_22) (fun _ h9 => h9) rfl d_Engine_runRepeat_25 ?_
    refine lv_iconst (v := 2) hx hb d_Engine_runRepeat_28 (by decide) ?_
    refine jc_cv (w := (fun u => u)) hK hP hD hS hA (va_runU (As := [.int 2]) (rest := []) F (c_Row_drop l D T ad S (2 : Int32)  H.size ⟨i_vst, i_vc0, i_vc1, i_vc2, i_vc3, i_vv0, i_vv1, i_vv2, i_vv3, i_vg, i_wct, i_wln, i_sd0, i_sd1, i_sd2, i_sd3, i_rln, i_rtx, i_rpl, i_rtk, i_cnv, i_pts, i_cik, i_und⟩) (j_cU (k := 1) (C := "PageScribe$Stack") (owner := "PageScribe$Row") (x := ⟨"PageScribe$Stack", "drop", "(I)V"⟩) hts k_4_47 k_5_199 k_4_43 k_4_45 k_4_46 k_1_2 rfl (by decide +kernel) ⟨by dsimp only; omega, by dsimp only; omega⟩) (j_preV (q0 := 1) (ci := 0) hK hP hD csc csc_all csc_nd cl_0 (ce_1 _ _ _) (fun _ _ _ _ h => h) (fun _ _ _ => trivial)) rfl rfl hl.1 rfl (lv_room (Nat.le_of_ble_eq_true rfl)) d_Engine_runRepeat_29 ⟨Nat.le_of_ble_eq_true rfl, Nat.le_of_ble_eq_true rfl⟩) (fun S1 H locs hw3 hP hD hS => ?_)
    have hP : va_P D classes (cW T ad S1) H := hP
    have hD : va_D A (cW T ad S1) := hD
    obtain ⟨⟨i_vst, i_vc0, i_vc1, i_vc2, i_vc3, i_vv0, i_vv1, i_vv2, i_vv3, i_vg, i_wct, i_wln, i_sd0, i_sd1, i_sd2, i_sd3, i_rln, i_rtx, i_rpl, i_rtk, i_cnv, i_pts, i_cik, i_und⟩, kpcL_S1, kpcP_S1, kpcU_S1, kpcW_S1⟩ := hw3
    have kScL_S1 : kcL S S1 := kcL_t (show kcL S S from (kcL_r S)) kpcL_S1
    have kScP_S1 : kcP S S1 := kcP_t (show kcP S S from (kcP_r S)) kpcP_S1
    have kScU_S1 : kcU S S1 := kcU_t (show kcU S S from (kcU_r S)) kpcU_S1
    have kScW_S1 : kcW S S1 := kcW_t (show kcW S S from (kcW_r S)) kpcW_S1
    have nxr_length_S1 : (f_xr_length S1).toInt = (f_xr_length S).toInt := congrArg Int32.toInt kpcL_S1
    have nxr_length_S1 : (f_xr_length S1).toInt = (f_xr_length S).toInt := congrArg Int32.toInt kpcP_S1.1
    have nxr_place_S1 : (f_xr_place S1).toInt = (f_xr_place S).toInt := congrArg Int32.toInt kpcP_S1.2.1
    have nxe_underWay_S1 : (f_xe_underWay S1).toInt = (f_xe_underWay S).toInt := congrArg Int32.toInt kpcU_S1
    have nxp_columns_S1 : (f_xp_columns S1).toInt = (f_xp_columns S).toInt := congrArg Int32.toInt kpcW_S1.1
    have nxp_rows_S1 : (f_xp_rows S1).toInt = (f_xp_rows S).toInt := congrArg Int32.toInt kpcW_S1.2
    refine lv_aload_n hx hb d_Engine_runRepeat_32 rfl (lv_at hl 2 rfl) ?_
    refine lv_iload_n hx hb d_Engine_runRepeat_33 rfl (lv_at hl 1 rfl) ?_
    refine lv_iload_n hx hb d_Engine_runRepeat_34 rfl (lv_at hl 0 rfl) ?_
    refine jc_ci (w := (fun u => u)) hK hP hD hS hA (va_runV (As := [.int rv1, .int rv2]) (rest := []) F (c_Engine_takeTurns l D T ad g Bq d hdv S1 rv1 rv2  H.size ⟨i_vst, i_vc0, i_vc1, i_vc2, i_vc3, i_vv0, i_vv1, i_vv2, i_vv3, i_vg, i_wct, i_wln, i_sd0, i_sd1, i_sd2, i_sd3, i_rln, i_rtx, i_rpl, i_rtk, i_cnv, i_pts, i_cik, i_und⟩ (show 8 ≤ (f_xe_underWay S1).toInt + d by omega)) (j_cV (k := 2) (C := "PageScribe$Engine") hts k_5_237 k_1_9 k_5_234 k_5_236 k_0_74 (by decide +kernel) ⟨by dsimp only; omega, by dsimp only; omega⟩) (j_preV (q0 := 72) (ci := 7) hK hP hD csc csc_all csc_nd cl_7 (ce_72 _ _ _) (fun _ _ _ _ h => EC.calling h) (fun U hU hW => EC.at hS hAB hU hW hE)) rfl rfl hl.1 rfl (lv_room (Nat.le_of_ble_eq_true rfl)) d_Engine_runRepeat_35 ⟨Nat.le_of_ble_eq_true rfl, Nat.le_of_ble_eq_true rfl⟩) (fun rv4 S2 H locs hw4 hP hD hS => ?_)
    have hP : va_P D classes (cW T ad S2) H := hP
    have hD : va_D A (cW T ad S2) := hD
    obtain ⟨⟨i_vst, i_vc0, i_vc1, i_vc2, i_vc3, i_vv0, i_vv1, i_vv2, i_vv3, i_vg, i_wct, i_wln, i_sd0, i_sd1, i_sd2, i_sd3, i_rln, i_rtx, i_rpl, i_rtk, i_cnv, i_pts, i_cik, i_und⟩, kpcL_S2, kpcP_S2, kpcU_S2, kpcW_S2⟩ := hw4
    have kScL_S2 : kcL S S2 := kcL_t (show kcL S S1 from kScL_S1) kpcL_S2
    have kScP_S2 : kcP S S2 := kcP_t (show kcP S S1 from kScP_S1) kpcP_S2
    have kScU_S2 : kcU S S2 := kcU_t (show kcU S S1 from kScU_S1) kpcU_S2
    have kScW_S2 : kcW S S2 := kcW_t (show kcW S S1 from kScW_S1) kpcW_S2
    have nxr_length_S2 : (f_xr_length S2).toInt = (f_xr_length S1).toInt := congrArg Int32.toInt kpcL_S2
    have nxr_length_S2 : (f_xr_length S2).toInt = (f_xr_length S1).toInt := congrArg Int32.toInt kpcP_S2.1
    have nxr_place_S2 : (f_xr_place S2).toInt = (f_xr_place S1).toInt := congrArg Int32.toInt kpcP_S2.2.1
    have nxe_underWay_S2 : (f_xe_underWay S2).toInt = (f_xe_underWay S1).toInt := congrArg Int32.toInt kpcU_S2
    have nxp_columns_S2 : (f_xp_columns S2).toInt = (f_xp_columns S1).toInt := congrArg Int32.toInt kpcW_S2.1
    have nxp_rows_S2 : (f_xp_rows S2).toInt = (f_xp_rows S1).toInt := congrArg Int32.toInt kpcW_S2.2
    have rrv4 := zt_rng rv4
    exact j_iret F hr hlocks hK hS S2 ⟨⟨i_vst, i_vc0, i_vc1, i_vc2, i_vc3, i_vv0, i_vv1, i_vv2, i_vv3, i_vg, i_wct, i_wln, i_sd0, i_sd1, i_sd2, i_sd3, i_rln, i_rtx, i_rpl, i_rtk, i_cnv, i_pts, i_cik, i_und⟩, kScL_S2, kScP_S2, kScU_S2, kScW_S2⟩ hP hD d_Engine_runRepeat_38
  · have fc10_1 : rv1.toInt < 0 := Int.not_le.mp (zt_nle tI_0 (show rv1.toInt = _ from rfl) c10_1)
    refine lv_iconst (v := 4) hx hb d_Engine_runRepeat_13 (by decide) ?_
    exact j_iret F hr hlocks hK hS S ⟨⟨i_vst, i_vc0, i_vc1, i_vc2, i_vc3, i_vv0, i_vv1, i_vv2, i_vv3, i_vg, i_wct, i_wln, i_sd0, i_sd1, i_sd2, i_sd3, i_rln, i_rtx, i_rpl, i_rtk, i_cnv, i_pts, i_cik, i_und⟩, (kcL_r S), (kcP_r S), (kcU_r S), (kcW_r S)⟩ hP hD d_Engine_runRepeat_14
theorem d_Engine_runLoop_0 : decode prog_4_method_16_code 0 = .ok (.aload_n 0, 1) := by decide +kernel
theorem d_Engine_runLoop_1 : decode prog_4_method_16_code 1 = .ok (.getfield 30, 3) := by decide +kernel
theorem d_Engine_runLoop_4 : decode prog_4_method_16_code 4 = .ok (.iconst 0, 1) := by decide +kernel
theorem d_Engine_runLoop_5 : decode prog_4_method_16_code 5 = .ok (.invokevirtual 215, 3) := by decide +kernel
theorem d_Engine_runLoop_8 : decode prog_4_method_16_code 8 = .ok (.istore_n 1, 1) := by decide +kernel
theorem d_Engine_runLoop_9 : decode prog_4_method_16_code 9 = .ok (.aload_n 0, 1) := by decide +kernel
theorem d_Engine_runLoop_10 : decode prog_4_method_16_code 10 = .ok (.getfield 30, 3) := by decide +kernel
theorem d_Engine_runLoop_13 : decode prog_4_method_16_code 13 = .ok (.iconst 1, 1) := by decide +kernel
theorem d_Engine_runLoop_14 : decode prog_4_method_16_code 14 = .ok (.invokevirtual 221, 3) := by decide +kernel
theorem d_Engine_runLoop_17 : decode prog_4_method_16_code 17 = .ok (.aload_n 0, 1) := by decide +kernel
theorem d_Engine_runLoop_18 : decode prog_4_method_16_code 18 = .ok (.ldc 225, 2) := by decide +kernel
theorem d_Engine_runLoop_20 : decode prog_4_method_16_code 20 = .ok (.iload_n 1, 1) := by decide +kernel
theorem d_Engine_runLoop_21 : decode prog_4_method_16_code 21 = .ok (.invokevirtual 226, 3) := by decide +kernel
theorem d_Engine_runLoop_24 : decode prog_4_method_16_code 24 = .ok (.ireturn, 1) := by decide +kernel
set_option maxHeartbeats 4000000 in
set_option maxRecDepth 100000 in
theorem c_Engine_runLoop (l : Launch) (D : va_G) (T : Nat → ClassId) (ad : Nat → Nat) (g : GE) (Bq : Nat → Prop) (d : Nat) (hdv : ∀ d2, d2 < d → DVP l D T ad g Bq d2) (S : CS)  (sz : Nat)  (hI : CIv S) (hd : 8 ≤ (f_xe_underWay S).toInt + d) : Met l ⟨"PageScribe$Engine", "runLoop", "()I"⟩ (wy ⟨"PageScribe$Engine", "runLoop", "()I"⟩ prog_4_method_16_code 2 (some .int)) ({ frames := 8 + 10 * d, cells := 0, slots := 0, locals := 70 * (8 + 10 * d) }) (va_Pc [.ref (ad 72)] (Pw D T (cW T ad S) sz (EC g Bq ad))) (va_Qi (fun (r : Int32) (u : CS) => CIv u ∧ kcL S u ∧ kcP S u ∧ kcU S u ∧ kcW S u) (fun u t => Bw D T (va_A (cW T ad S) sz) (cW T ad u) t) (va_A (cW T ad S) sz)) 0 0 (va_A (cW T ad S) sz) := by
  refine j_met (y := ⟨"PageScribe$Engine", "runLoop", "()I"⟩) (b := prog_4_method_16_code) (n := 2) (ret := (some .int)) (av := [.ref (ad 72)]) (Qc := fun A => va_Qi (fun (r : Int32) (u : CS) => CIv u ∧ kcL S u ∧ kcP S u ∧ kcU S u ∧ kcW S u) (fun u t => Bw D T A (cW T ad u) t) A) (by decide +kernel) (Nat.le_of_ble_eq_true rfl) (fun p e s m args below meth c A ls F hr hlocks hnm hK hP hD hS hA hN hE hl => ?_)
  obtain ⟨hx, hb, hml, hown, hts⟩ := id F
  have hl : lv_has ls 2 [(0, .ref (ad 72))] := hl
  obtain ⟨i_vst, i_vc0, i_vc1, i_vc2, i_vc3, i_vv0, i_vv1, i_vv2, i_vv3, i_vg, i_wct, i_wln, i_sd0, i_sd1, i_sd2, i_sd3, i_rln, i_rtx, i_rpl, i_rtk, i_cnv, i_pts, i_cik, i_und⟩ := id hI
  have hAB : ∀ q, A q → Bq q := EC.ab hE hN
  have hEV := hE.1.narrow hAB
  refine lv_aload_n hx hb d_Engine_runLoop_0 rfl (lv_at hl 0 rfl) ?_
  refine va_get (D := D) (ci := 7) (v := .ref (ad 1)) (C := "PageScribe$Engine") (T := F_Engine) (N := 11) hx hb hts i_Engine hown hK hP 72 (ce_72 _ _ _) cl_7 0 (by decide) (hts _ k_2_22) (fun _ h9 => h9) rfl d_Engine_runLoop_1 ?_
  refine lv_iconst (v := 0) hx hb d_Engine_runLoop_4 (by decide) ?_
  refine jc_ci (w := (fun _ => S)) hK hP hD hS hA (va_runV (As := [.int 0]) (rest := []) F (c_Stack_numberDown l D T ad S (0 : Int32)  s.heap.size) (j_cV (k := 1) (C := "PageScribe$Stack") hts k_2_130 k_1_3 k_5_197 k_2_128 k_2_129 (by decide +kernel) ⟨by dsimp only; omega, by dsimp only; omega⟩) (j_preV (q0 := 1) (ci := 0) hK hP hD csc csc_all csc_nd cl_0 (ce_1 _ _ _) (fun _ _ _ _ h => h) (fun _ _ _ => trivial)) rfl rfl hl.1 rfl (lv_room (Nat.le_of_ble_eq_true rfl)) d_Engine_runLoop_5 ⟨Nat.le_of_ble_eq_true rfl, Nat.le_of_ble_eq_true rfl⟩) (fun rv1 u1 H locs hw1 hP hD hS => ?_)
  have hP : va_P D classes (cW T ad S) H := hP
  have hD : va_D A (cW T ad S) := hD
  have rrv1 := zt_rng rv1
  refine lv_istore_n (lv' := [(1, .int rv1), (0, .ref (ad 72))]) hx hb d_Engine_runLoop_8 rfl hl (by decide) rfl (fun ls hl => ?_)
  refine lv_aload_n hx hb d_Engine_runLoop_9 rfl (lv_at hl 1 rfl) ?_
  refine va_get (D := D) (ci := 7) (v := .ref (ad 1)) (C := "PageScribe$Engine") (T := F_Engine) (N := 11) hx hb hts i_Engine hown hK hP 72 (ce_72 _ _ _) cl_7 0 (by decide) (hts _ k_2_22) (fun _ h9 => h9) rfl d_Engine_runLoop_10 ?_
  refine lv_iconst (v := 1) hx hb d_Engine_runLoop_13 (by decide) ?_
  refine jc_cv (w := (fun u => u)) hK hP hD hS hA (va_runU (As := [.int 1]) (rest := []) F (c_Row_drop l D T ad S (1 : Int32)  H.size ⟨i_vst, i_vc0, i_vc1, i_vc2, i_vc3, i_vv0, i_vv1, i_vv2, i_vv3, i_vg, i_wct, i_wln, i_sd0, i_sd1, i_sd2, i_sd3, i_rln, i_rtx, i_rpl, i_rtk, i_cnv, i_pts, i_cik, i_und⟩) (j_cU (k := 1) (C := "PageScribe$Stack") (owner := "PageScribe$Row") (x := ⟨"PageScribe$Stack", "drop", "(I)V"⟩) hts k_4_47 k_5_199 k_4_43 k_4_45 k_4_46 k_1_2 rfl (by decide +kernel) ⟨by dsimp only; omega, by dsimp only; omega⟩) (j_preV (q0 := 1) (ci := 0) hK hP hD csc csc_all csc_nd cl_0 (ce_1 _ _ _) (fun _ _ _ _ h => h) (fun _ _ _ => trivial)) rfl rfl hl.1 rfl (lv_room (Nat.le_of_ble_eq_true rfl)) d_Engine_runLoop_14 ⟨Nat.le_of_ble_eq_true rfl, Nat.le_of_ble_eq_true rfl⟩) (fun S1 H locs hw2 hP hD hS => ?_)
  have hP : va_P D classes (cW T ad S1) H := hP
  have hD : va_D A (cW T ad S1) := hD
  obtain ⟨⟨i_vst, i_vc0, i_vc1, i_vc2, i_vc3, i_vv0, i_vv1, i_vv2, i_vv3, i_vg, i_wct, i_wln, i_sd0, i_sd1, i_sd2, i_sd3, i_rln, i_rtx, i_rpl, i_rtk, i_cnv, i_pts, i_cik, i_und⟩, kpcL_S1, kpcP_S1, kpcU_S1, kpcW_S1⟩ := hw2
  have kScL_S1 : kcL S S1 := kcL_t (show kcL S S from (kcL_r S)) kpcL_S1
  have kScP_S1 : kcP S S1 := kcP_t (show kcP S S from (kcP_r S)) kpcP_S1
  have kScU_S1 : kcU S S1 := kcU_t (show kcU S S from (kcU_r S)) kpcU_S1
  have kScW_S1 : kcW S S1 := kcW_t (show kcW S S from (kcW_r S)) kpcW_S1
  have nxr_length_S1 : (f_xr_length S1).toInt = (f_xr_length S).toInt := congrArg Int32.toInt kpcL_S1
  have nxr_length_S1 : (f_xr_length S1).toInt = (f_xr_length S).toInt := congrArg Int32.toInt kpcP_S1.1
  have nxr_place_S1 : (f_xr_place S1).toInt = (f_xr_place S).toInt := congrArg Int32.toInt kpcP_S1.2.1
  have nxe_underWay_S1 : (f_xe_underWay S1).toInt = (f_xe_underWay S).toInt := congrArg Int32.toInt kpcU_S1
  have nxp_columns_S1 : (f_xp_columns S1).toInt = (f_xp_columns S).toInt := congrArg Int32.toInt kpcW_S1.1
  have nxp_rows_S1 : (f_xp_rows S1).toInt = (f_xp_rows S).toInt := congrArg Int32.toInt kpcW_S1.2
  refine lv_aload_n hx hb d_Engine_runLoop_17 rfl (lv_at hl 1 rfl) ?_
  refine lv_ldc (v := 1000000) hx hb hown (hts _ k_5_228) d_Engine_runLoop_18 ?_
  refine lv_iload_n hx hb d_Engine_runLoop_20 rfl (lv_at hl 0 rfl) ?_
  refine jc_ci (w := (fun u => u)) hK hP hD hS hA (va_runV (As := [.int 1000000, .int rv1]) (rest := []) F (c_Engine_takeTurns l D T ad g Bq d hdv S1 (1000000 : Int32) rv1  H.size ⟨i_vst, i_vc0, i_vc1, i_vc2, i_vc3, i_vv0, i_vv1, i_vv2, i_vv3, i_vg, i_wct, i_wln, i_sd0, i_sd1, i_sd2, i_sd3, i_rln, i_rtx, i_rpl, i_rtk, i_cnv, i_pts, i_cik, i_und⟩ (show 8 ≤ (f_xe_underWay S1).toInt + d by have := tI_1000000; omega)) (j_cV (k := 2) (C := "PageScribe$Engine") hts k_5_237 k_1_9 k_5_234 k_5_236 k_0_74 (by decide +kernel) ⟨by dsimp only; omega, by dsimp only; omega⟩) (j_preV (q0 := 72) (ci := 7) hK hP hD csc csc_all csc_nd cl_7 (ce_72 _ _ _) (fun _ _ _ _ h => EC.calling h) (fun U hU hW => EC.at hS hAB hU hW hE)) rfl rfl hl.1 rfl (lv_room (Nat.le_of_ble_eq_true rfl)) d_Engine_runLoop_21 ⟨Nat.le_of_ble_eq_true rfl, Nat.le_of_ble_eq_true rfl⟩) (fun rv3 S2 H locs hw3 hP hD hS => ?_)
  have hP : va_P D classes (cW T ad S2) H := hP
  have hD : va_D A (cW T ad S2) := hD
  obtain ⟨⟨i_vst, i_vc0, i_vc1, i_vc2, i_vc3, i_vv0, i_vv1, i_vv2, i_vv3, i_vg, i_wct, i_wln, i_sd0, i_sd1, i_sd2, i_sd3, i_rln, i_rtx, i_rpl, i_rtk, i_cnv, i_pts, i_cik, i_und⟩, kpcL_S2, kpcP_S2, kpcU_S2, kpcW_S2⟩ := hw3
  have kScL_S2 : kcL S S2 := kcL_t (show kcL S S1 from kScL_S1) kpcL_S2
  have kScP_S2 : kcP S S2 := kcP_t (show kcP S S1 from kScP_S1) kpcP_S2
  have kScU_S2 : kcU S S2 := kcU_t (show kcU S S1 from kScU_S1) kpcU_S2
  have kScW_S2 : kcW S S2 := kcW_t (show kcW S S1 from kScW_S1) kpcW_S2
  have nxr_length_S2 : (f_xr_length S2).toInt = (f_xr_length S1).toInt := congrArg Int32.toInt kpcL_S2
  have nxr_length_S2 : (f_xr_length S2).toInt = (f_xr_length S1).toInt := congrArg Int32.toInt kpcP_S2.1
  have nxr_place_S2 : (f_xr_place S2).toInt = (f_xr_place S1).toInt := congrArg Int32.toInt kpcP_S2.2.1
  have nxe_underWay_S2 : (f_xe_underWay S2).toInt = (f_xe_underWay S1).toInt := congrArg Int32.toInt kpcU_S2
  have nxp_columns_S2 : (f_xp_columns S2).toInt = (f_xp_columns S1).toInt := congrArg Int32.toInt kpcW_S2.1
  have nxp_rows_S2 : (f_xp_rows S2).toInt = (f_xp_rows S1).toInt := congrArg Int32.toInt kpcW_S2.2
  have rrv3 := zt_rng rv3
  exact j_iret F hr hlocks hK hS S2 ⟨⟨i_vst, i_vc0, i_vc1, i_vc2, i_vc3, i_vv0, i_vv1, i_vv2, i_vv3, i_vg, i_wct, i_wln, i_sd0, i_sd1, i_sd2, i_sd3, i_rln, i_rtx, i_rpl, i_rtk, i_cnv, i_pts, i_cik, i_und⟩, kScL_S2, kScP_S2, kScU_S2, kScW_S2⟩ hP hD d_Engine_runLoop_24
theorem d_Engine_runForAll_0 : decode prog_4_method_18_code 0 = .ok (.aload_n 0, 1) := by decide +kernel
theorem d_Engine_runForAll_1 : decode prog_4_method_18_code 1 = .ok (.getfield 30, 3) := by decide +kernel
theorem d_Engine_runForAll_4 : decode prog_4_method_18_code 4 = .ok (.iconst 1, 1) := by decide +kernel
theorem d_Engine_runForAll_5 : decode prog_4_method_18_code 5 = .ok (.invokevirtual 215, 3) := by decide +kernel
theorem d_Engine_runForAll_8 : decode prog_4_method_18_code 8 = .ok (.istore_n 1, 1) := by decide +kernel
theorem d_Engine_runForAll_9 : decode prog_4_method_18_code 9 = .ok (.aload_n 0, 1) := by decide +kernel
theorem d_Engine_runForAll_10 : decode prog_4_method_18_code 10 = .ok (.getfield 30, 3) := by decide +kernel
theorem d_Engine_runForAll_13 : decode prog_4_method_18_code 13 = .ok (.iconst 0, 1) := by decide +kernel
theorem d_Engine_runForAll_14 : decode prog_4_method_18_code 14 = .ok (.invokevirtual 215, 3) := by decide +kernel
theorem d_Engine_runForAll_17 : decode prog_4_method_18_code 17 = .ok (.istore_n 2, 1) := by decide +kernel
theorem d_Engine_runForAll_18 : decode prog_4_method_18_code 18 = .ok (.aload_n 0, 1) := by decide +kernel
theorem d_Engine_runForAll_19 : decode prog_4_method_18_code 19 = .ok (.getfield 30, 3) := by decide +kernel
theorem d_Engine_runForAll_22 : decode prog_4_method_18_code 22 = .ok (.iconst 2, 1) := by decide +kernel
theorem d_Engine_runForAll_23 : decode prog_4_method_18_code 23 = .ok (.invokevirtual 221, 3) := by decide +kernel
theorem d_Engine_runForAll_26 : decode prog_4_method_18_code 26 = .ok (.aload_n 0, 1) := by decide +kernel
theorem d_Engine_runForAll_27 : decode prog_4_method_18_code 27 = .ok (.getfield 24, 3) := by decide +kernel
theorem d_Engine_runForAll_30 : decode prog_4_method_18_code 30 = .ok (.istore_n 3, 1) := by decide +kernel
theorem d_Engine_runForAll_31 : decode prog_4_method_18_code 31 = .ok (.aload_n 0, 1) := by decide +kernel
theorem d_Engine_runForAll_32 : decode prog_4_method_18_code 32 = .ok (.aload_n 0, 1) := by decide +kernel
theorem d_Engine_runForAll_33 : decode prog_4_method_18_code 33 = .ok (.getfield 24, 3) := by decide +kernel
theorem d_Engine_runForAll_36 : decode prog_4_method_18_code 36 = .ok (.iload_n 1, 1) := by decide +kernel
theorem d_Engine_runForAll_37 : decode prog_4_method_18_code 37 = .ok (.invokestatic 112, 3) := by decide +kernel
theorem d_Engine_runForAll_40 : decode prog_4_method_18_code 40 = .ok (.invokestatic 115, 3) := by decide +kernel
theorem d_Engine_runForAll_43 : decode prog_4_method_18_code 43 = .ok (.putfield 24, 3) := by decide +kernel
theorem d_Engine_runForAll_46 : decode prog_4_method_18_code 46 = .ok (.aload_n 0, 1) := by decide +kernel
theorem d_Engine_runForAll_47 : decode prog_4_method_18_code 47 = .ok (.dup, 1) := by decide +kernel
theorem d_Engine_runForAll_48 : decode prog_4_method_18_code 48 = .ok (.getfield 27, 3) := by decide +kernel
theorem d_Engine_runForAll_51 : decode prog_4_method_18_code 51 = .ok (.iconst 1, 1) := by decide +kernel
theorem d_Engine_runForAll_52 : decode prog_4_method_18_code 52 = .ok (.iadd, 1) := by decide +kernel
theorem d_Engine_runForAll_53 : decode prog_4_method_18_code 53 = .ok (.putfield 27, 3) := by decide +kernel
theorem d_Engine_runForAll_56 : decode prog_4_method_18_code 56 = .ok (.iconst 0, 1) := by decide +kernel
theorem d_Engine_runForAll_57 : decode prog_4_method_18_code 57 = .ok (.istore 4, 2) := by decide +kernel
theorem d_Engine_runForAll_59 : decode prog_4_method_18_code 59 = .ok (.iconst 0, 1) := by decide +kernel
theorem d_Engine_runForAll_60 : decode prog_4_method_18_code 60 = .ok (.istore 5, 2) := by decide +kernel
theorem d_Engine_runForAll_62 : decode prog_4_method_18_code 62 = .ok (.iload 5, 2) := by decide +kernel
theorem d_Engine_runForAll_64 : decode prog_4_method_18_code 64 = .ok (.iload_n 1, 1) := by decide +kernel
theorem d_Engine_runForAll_65 : decode prog_4_method_18_code 65 = .ok (.invokestatic 126, 3) := by decide +kernel
theorem d_Engine_runForAll_68 : decode prog_4_method_18_code 68 = .ok (.if_icmp .ge 63, 3) := by decide +kernel
theorem d_Engine_runForAll_131 : decode prog_4_method_18_code 131 = .ok (.aload_n 0, 1) := by decide +kernel
theorem d_Engine_runForAll_132 : decode prog_4_method_18_code 132 = .ok (.dup, 1) := by decide +kernel
theorem d_Engine_runForAll_133 : decode prog_4_method_18_code 133 = .ok (.getfield 27, 3) := by decide +kernel
theorem d_Engine_runForAll_136 : decode prog_4_method_18_code 136 = .ok (.iconst 1, 1) := by decide +kernel
theorem d_Engine_runForAll_137 : decode prog_4_method_18_code 137 = .ok (.isub, 1) := by decide +kernel
theorem d_Engine_runForAll_138 : decode prog_4_method_18_code 138 = .ok (.putfield 27, 3) := by decide +kernel
theorem d_Engine_runForAll_141 : decode prog_4_method_18_code 141 = .ok (.aload_n 0, 1) := by decide +kernel
theorem d_Engine_runForAll_142 : decode prog_4_method_18_code 142 = .ok (.iload_n 3, 1) := by decide +kernel
theorem d_Engine_runForAll_143 : decode prog_4_method_18_code 143 = .ok (.putfield 24, 3) := by decide +kernel
theorem d_Engine_runForAll_146 : decode prog_4_method_18_code 146 = .ok (.iload 4, 2) := by decide +kernel
theorem d_Engine_runForAll_148 : decode prog_4_method_18_code 148 = .ok (.iconst (-1), 1) := by decide +kernel
theorem d_Engine_runForAll_149 : decode prog_4_method_18_code 149 = .ok (.if_icmp .ne 7, 3) := by decide +kernel
theorem d_Engine_runForAll_156 : decode prog_4_method_18_code 156 = .ok (.iload 4, 2) := by decide +kernel
theorem d_Engine_runForAll_158 : decode prog_4_method_18_code 158 = .ok (.ireturn, 1) := by decide +kernel
theorem d_Engine_runForAll_152 : decode prog_4_method_18_code 152 = .ok (.iconst 0, 1) := by decide +kernel
theorem d_Engine_runForAll_153 : decode prog_4_method_18_code 153 = .ok (.goto 5, 3) := by decide +kernel
theorem d_Engine_runForAll_71 : decode prog_4_method_18_code 71 = .ok (.iload 4, 2) := by decide +kernel
theorem d_Engine_runForAll_73 : decode prog_4_method_18_code 73 = .ok (.ifCond .ne 58, 3) := by decide +kernel
theorem d_Engine_runForAll_76 : decode prog_4_method_18_code 76 = .ok (.aload_n 0, 1) := by decide +kernel
theorem d_Engine_runForAll_77 : decode prog_4_method_18_code 77 = .ok (.invokevirtual 58, 3) := by decide +kernel
theorem d_Engine_runForAll_80 : decode prog_4_method_18_code 80 = .ok (.istore 4, 2) := by decide +kernel
theorem d_Engine_runForAll_82 : decode prog_4_method_18_code 82 = .ok (.iload 4, 2) := by decide +kernel
theorem d_Engine_runForAll_84 : decode prog_4_method_18_code 84 = .ok (.ifCond .ne 29, 3) := by decide +kernel
theorem d_Engine_runForAll_113 : decode prog_4_method_18_code 113 = .ok (.iload 4, 2) := by decide +kernel
theorem d_Engine_runForAll_115 : decode prog_4_method_18_code 115 = .ok (.ifCond .ne 10, 3) := by decide +kernel
theorem d_Engine_runForAll_125 : decode prog_4_method_18_code 125 = .ok (.iinc 5 1, 3) := by decide +kernel
theorem d_Engine_runForAll_128 : decode prog_4_method_18_code 128 = .ok (.goto (-66), 3) := by decide +kernel
theorem d_Engine_runForAll_118 : decode prog_4_method_18_code 118 = .ok (.aload_n 0, 1) := by decide +kernel
theorem d_Engine_runForAll_119 : decode prog_4_method_18_code 119 = .ok (.iload_n 2, 1) := by decide +kernel
theorem d_Engine_runForAll_120 : decode prog_4_method_18_code 120 = .ok (.invokevirtual 98, 3) := by decide +kernel
theorem d_Engine_runForAll_123 : decode prog_4_method_18_code 123 = .ok (.istore 4, 2) := by decide +kernel
theorem d_Engine_runForAll_87 : decode prog_4_method_18_code 87 = .ok (.aload_n 0, 1) := by decide +kernel
theorem d_Engine_runForAll_88 : decode prog_4_method_18_code 88 = .ok (.getfield 30, 3) := by decide +kernel
theorem d_Engine_runForAll_91 : decode prog_4_method_18_code 91 = .ok (.aload_n 0, 1) := by decide +kernel
theorem d_Engine_runForAll_92 : decode prog_4_method_18_code 92 = .ok (.getfield 34, 3) := by decide +kernel
theorem d_Engine_runForAll_95 : decode prog_4_method_18_code 95 = .ok (.getfield 80, 3) := by decide +kernel
theorem d_Engine_runForAll_98 : decode prog_4_method_18_code 98 = .ok (.getfield 120, 3) := by decide +kernel
theorem d_Engine_runForAll_101 : decode prog_4_method_18_code 101 = .ok (.iload_n 1, 1) := by decide +kernel
theorem d_Engine_runForAll_102 : decode prog_4_method_18_code 102 = .ok (.invokestatic 123, 3) := by decide +kernel
theorem d_Engine_runForAll_105 : decode prog_4_method_18_code 105 = .ok (.iload 5, 2) := by decide +kernel
theorem d_Engine_runForAll_107 : decode prog_4_method_18_code 107 = .ok (.iadd, 1) := by decide +kernel
theorem d_Engine_runForAll_108 : decode prog_4_method_18_code 108 = .ok (.invokevirtual 229, 3) := by decide +kernel
theorem k_6_6 : Cond.methodLink "PageScribe$Engine" 229 ⟨"PageScribe$Stack", "pushFrom", "(LPageScribe$Row;I)I"⟩ ∈ gw := gw_of (tb_6 (List.mem_of_getElem? (i := 6) (by decide +kernel))) (by decide +kernel)
theorem d_Engine_runForAll_111 : decode prog_4_method_18_code 111 = .ok (.istore 4, 2) := by decide +kernel
set_option maxHeartbeats 4000000 in
set_option maxRecDepth 100000 in
theorem c_Engine_runForAll (l : Launch) (D : va_G) (T : Nat → ClassId) (ad : Nat → Nat) (g : GE) (Bq : Nat → Prop) (d : Nat) (hdv : ∀ d2, d2 < d → DVP l D T ad g Bq d2) (S : CS)  (sz : Nat)  (hI : CIv S) (hd : 8 ≤ (f_xe_underWay S).toInt + d) : Met l ⟨"PageScribe$Engine", "runForAll", "()I"⟩ (wy ⟨"PageScribe$Engine", "runForAll", "()I"⟩ prog_4_method_18_code 6 (some .int)) ({ frames := 7 + 10 * d, cells := 0, slots := 0, locals := 70 * (7 + 10 * d) }) (va_Pc [.ref (ad 72)] (Pw D T (cW T ad S) sz (EC g Bq ad))) (va_Qi (fun (r : Int32) (u : CS) => CIv u ∧ kcL S u ∧ kcP S u ∧ kcU S u ∧ kcW S u) (fun u t => Bw D T (va_A (cW T ad S) sz) (cW T ad u) t) (va_A (cW T ad S) sz)) 0 0 (va_A (cW T ad S) sz) := by
  refine j_met (y := ⟨"PageScribe$Engine", "runForAll", "()I"⟩) (b := prog_4_method_18_code) (n := 6) (ret := (some .int)) (av := [.ref (ad 72)]) (Qc := fun A => va_Qi (fun (r : Int32) (u : CS) => CIv u ∧ kcL S u ∧ kcP S u ∧ kcU S u ∧ kcW S u) (fun u t => Bw D T A (cW T ad u) t) A) (by decide +kernel) (Nat.le_of_ble_eq_true rfl) (fun p e s m args below meth c A ls F hr hlocks hnm hK hP hD hS hA hN hE hl => ?_)
  obtain ⟨hx, hb, hml, hown, hts⟩ := id F
  have hl : lv_has ls 6 [(0, .ref (ad 72))] := hl
  obtain ⟨i_vst, i_vc0, i_vc1, i_vc2, i_vc3, i_vv0, i_vv1, i_vv2, i_vv3, i_vg, i_wct, i_wln, i_sd0, i_sd1, i_sd2, i_sd3, i_rln, i_rtx, i_rpl, i_rtk, i_cnv, i_pts, i_cik, i_und⟩ := id hI
  have hAB : ∀ q, A q → Bq q := EC.ab hE hN
  have hEV := hE.1.narrow hAB
  refine lv_aload_n hx hb d_Engine_runForAll_0 rfl (lv_at hl 0 rfl) ?_
  refine va_get (D := D) (ci := 7) (v := .ref (ad 1)) (C := "PageScribe$Engine") (T := F_Engine) (N := 11) hx hb hts i_Engine hown hK hP 72 (ce_72 _ _ _) cl_7 0 (by decide) (hts _ k_2_22) (fun _ h9 => h9) rfl d_Engine_runForAll_1 ?_
  refine lv_iconst (v := 1) hx hb d_Engine_runForAll_4 (by decide) ?_
  refine jc_ci (w := (fun _ => S)) hK hP hD hS hA (va_runV (As := [.int 1]) (rest := []) F (c_Stack_numberDown l D T ad S (1 : Int32)  s.heap.size) (j_cV (k := 1) (C := "PageScribe$Stack") hts k_2_130 k_1_3 k_5_197 k_2_128 k_2_129 (by decide +kernel) ⟨by dsimp only; omega, by dsimp only; omega⟩) (j_preV (q0 := 1) (ci := 0) hK hP hD csc csc_all csc_nd cl_0 (ce_1 _ _ _) (fun _ _ _ _ h => h) (fun _ _ _ => trivial)) rfl rfl hl.1 rfl (lv_room (Nat.le_of_ble_eq_true rfl)) d_Engine_runForAll_5 ⟨Nat.le_of_ble_eq_true rfl, Nat.le_of_ble_eq_true rfl⟩) (fun rv1 u1 H locs hw1 hP hD hS => ?_)
  have hP : va_P D classes (cW T ad S) H := hP
  have hD : va_D A (cW T ad S) := hD
  have rrv1 := zt_rng rv1
  refine lv_istore_n (lv' := [(1, .int rv1), (0, .ref (ad 72))]) hx hb d_Engine_runForAll_8 rfl hl (by decide) rfl (fun ls hl => ?_)
  refine lv_aload_n hx hb d_Engine_runForAll_9 rfl (lv_at hl 1 rfl) ?_
  refine va_get (D := D) (ci := 7) (v := .ref (ad 1)) (C := "PageScribe$Engine") (T := F_Engine) (N := 11) hx hb hts i_Engine hown hK hP 72 (ce_72 _ _ _) cl_7 0 (by decide) (hts _ k_2_22) (fun _ h9 => h9) rfl d_Engine_runForAll_10 ?_
  refine lv_iconst (v := 0) hx hb d_Engine_runForAll_13 (by decide) ?_
  refine jc_ci (w := (fun _ => S)) hK hP hD hS hA (va_runV (As := [.int 0]) (rest := []) F (c_Stack_numberDown l D T ad S (0 : Int32)  H.size) (j_cV (k := 1) (C := "PageScribe$Stack") hts k_2_130 k_1_3 k_5_197 k_2_128 k_2_129 (by decide +kernel) ⟨by dsimp only; omega, by dsimp only; omega⟩) (j_preV (q0 := 1) (ci := 0) hK hP hD csc csc_all csc_nd cl_0 (ce_1 _ _ _) (fun _ _ _ _ h => h) (fun _ _ _ => trivial)) rfl rfl hl.1 rfl (lv_room (Nat.le_of_ble_eq_true rfl)) d_Engine_runForAll_14 ⟨Nat.le_of_ble_eq_true rfl, Nat.le_of_ble_eq_true rfl⟩) (fun rv2 u2 H locs hw2 hP hD hS => ?_)
  have hP : va_P D classes (cW T ad S) H := hP
  have hD : va_D A (cW T ad S) := hD
  have rrv2 := zt_rng rv2
  refine lv_istore_n (lv' := [(2, .int rv2), (1, .int rv1), (0, .ref (ad 72))]) hx hb d_Engine_runForAll_17 rfl hl (by decide) rfl (fun ls hl => ?_)
  refine lv_aload_n hx hb d_Engine_runForAll_18 rfl (lv_at hl 2 rfl) ?_
  refine va_get (D := D) (ci := 7) (v := .ref (ad 1)) (C := "PageScribe$Engine") (T := F_Engine) (N := 11) hx hb hts i_Engine hown hK hP 72 (ce_72 _ _ _) cl_7 0 (by decide) (hts _ k_2_22) (fun _ h9 => h9) rfl d_Engine_runForAll_19 ?_
  refine lv_iconst (v := 2) hx hb d_Engine_runForAll_22 (by decide) ?_
  refine jc_cv (w := (fun u => u)) hK hP hD hS hA (va_runU (As := [.int 2]) (rest := []) F (c_Row_drop l D T ad S (2 : Int32)  H.size ⟨i_vst, i_vc0, i_vc1, i_vc2, i_vc3, i_vv0, i_vv1, i_vv2, i_vv3, i_vg, i_wct, i_wln, i_sd0, i_sd1, i_sd2, i_sd3, i_rln, i_rtx, i_rpl, i_rtk, i_cnv, i_pts, i_cik, i_und⟩) (j_cU (k := 1) (C := "PageScribe$Stack") (owner := "PageScribe$Row") (x := ⟨"PageScribe$Stack", "drop", "(I)V"⟩) hts k_4_47 k_5_199 k_4_43 k_4_45 k_4_46 k_1_2 rfl (by decide +kernel) ⟨by dsimp only; omega, by dsimp only; omega⟩) (j_preV (q0 := 1) (ci := 0) hK hP hD csc csc_all csc_nd cl_0 (ce_1 _ _ _) (fun _ _ _ _ h => h) (fun _ _ _ => trivial)) rfl rfl hl.1 rfl (lv_room (Nat.le_of_ble_eq_true rfl)) d_Engine_runForAll_23 ⟨Nat.le_of_ble_eq_true rfl, Nat.le_of_ble_eq_true rfl⟩) (fun S1 H locs hw3 hP hD hS => ?_)
  have hP : va_P D classes (cW T ad S1) H := hP
  have hD : va_D A (cW T ad S1) := hD
  obtain ⟨⟨i_vst, i_vc0, i_vc1, i_vc2, i_vc3, i_vv0, i_vv1, i_vv2, i_vv3, i_vg, i_wct, i_wln, i_sd0, i_sd1, i_sd2, i_sd3, i_rln, i_rtx, i_rpl, i_rtk, i_cnv, i_pts, i_cik, i_und⟩, kpcL_S1, kpcP_S1, kpcU_S1, kpcW_S1⟩ := hw3
  have kScL_S1 : kcL S S1 := kcL_t (show kcL S S from (kcL_r S)) kpcL_S1
  have kScP_S1 : kcP S S1 := kcP_t (show kcP S S from (kcP_r S)) kpcP_S1
  have kScU_S1 : kcU S S1 := kcU_t (show kcU S S from (kcU_r S)) kpcU_S1
  have kScW_S1 : kcW S S1 := kcW_t (show kcW S S from (kcW_r S)) kpcW_S1
  have nxr_length_S1 : (f_xr_length S1).toInt = (f_xr_length S).toInt := congrArg Int32.toInt kpcL_S1
  have nxr_length_S1 : (f_xr_length S1).toInt = (f_xr_length S).toInt := congrArg Int32.toInt kpcP_S1.1
  have nxr_place_S1 : (f_xr_place S1).toInt = (f_xr_place S).toInt := congrArg Int32.toInt kpcP_S1.2.1
  have nxe_underWay_S1 : (f_xe_underWay S1).toInt = (f_xe_underWay S).toInt := congrArg Int32.toInt kpcU_S1
  have nxp_columns_S1 : (f_xp_columns S1).toInt = (f_xp_columns S).toInt := congrArg Int32.toInt kpcW_S1.1
  have nxp_rows_S1 : (f_xp_rows S1).toInt = (f_xp_rows S).toInt := congrArg Int32.toInt kpcW_S1.2
  refine lv_aload_n hx hb d_Engine_runForAll_26 rfl (lv_at hl 2 rfl) ?_
  refine va_get (D := D) (ci := 7) (v := .int (f_xe_reach S1)) (C := "PageScribe$Engine") (T := F_Engine) (N := 11) hx hb hts i_Engine hown hK hP 72 (ce_72 _ _ _) cl_7 9 (by decide) (hts _ k_2_33) (fun _ h9 => h9) rfl d_Engine_runForAll_27 ?_
  refine lv_istore_n (lv' := [(3, .int (f_xe_reach S1)), (2, .int rv2), (1, .int rv1), (0, .ref (ad 72))]) hx hb d_Engine_runForAll_30 rfl hl (by decide) rfl (fun ls hl => ?_)
  refine lv_aload_n hx hb d_Engine_runForAll_31 rfl (lv_at hl 3 rfl) ?_
  refine lv_aload_n hx hb d_Engine_runForAll_32 rfl (lv_at hl 3 rfl) ?_
  refine va_get (D := D) (ci := 7) (v := .int (f_xe_reach S1)) (C := "PageScribe$Engine") (T := F_Engine) (N := 11) hx hb hts i_Engine hown hK hP 72 (ce_72 _ _ _) cl_7 9 (by decide) (hts _ k_2_33) (fun _ h9 => h9) rfl d_Engine_runForAll_33 ?_
  refine lv_iload_n hx hb d_Engine_runForAll_36 rfl (lv_at hl 2 rfl) ?_
  refine j_ci (wc := []) (wr := (cW T ad S1)) hK hP hD hS hA [] csc rfl csc_all csc_nd (fun _ _ => List.not_mem_nil) (va_runSN (As := [.int rv1]) (rest := [.int (f_xe_reach S1), .ref (ad 72)]) F (c_Ps_endOf l D T rv1  H.size) (j_cSN (k := 1) hts k_5_125 k_1_1 (hE.2.2.2 (Cond.methodLinkNest "PageScribe$Engine" 112 ⟨"PageScribe", "endOf", "(I)I"⟩ "PageScribe") (List.mem_of_getElem? (i := 10) rfl)) k_5_124 (by decide +kernel) ⟨by dsimp only; omega, by dsimp only; omega⟩) (j_preS hK hP hD [] rfl (by decide) (fun _ _ _ _ h => h) (fun _ _ _ => trivial)) rfl rfl hl.1 rfl (lv_room (Nat.le_of_ble_eq_true rfl)) d_Engine_runForAll_37 ⟨Nat.le_of_ble_eq_true rfl, Nat.le_of_ble_eq_true rfl⟩) (fun rv4 u3 H locs hw4 hP hD hS => ?_)
  have hP : va_P D classes (cW T ad S1) H := hP
  have hD : va_D A (cW T ad S1) := hD
  have rrv4 := zt_rng rv4
  refine j_ci (wc := []) (wr := (cW T ad S1)) hK hP hD hS hA [] csc rfl csc_all csc_nd (fun _ _ => List.not_mem_nil) (va_runS (As := [.int (f_xe_reach S1), .int rv4]) (rest := [.ref (ad 72)]) F (c_Math_max l D T (f_xe_reach S1) rv4  H.size) (j_cS (k := 2) hts k_3_218 k_1_21 k_5_205 k_3_217 (by decide +kernel) ⟨by dsimp only; omega, by dsimp only; omega⟩) (j_preS hK hP hD [] rfl (by decide) (fun _ _ _ _ h => h) (fun _ _ _ => trivial)) rfl rfl hl.1 rfl (lv_room (Nat.le_of_ble_eq_true rfl)) d_Engine_runForAll_40 ⟨Nat.le_of_ble_eq_true rfl, Nat.le_of_ble_eq_true rfl⟩) (fun rv5 u4 H locs hw5 hP hD hS => ?_)
  have hP : va_P D classes (cW T ad S1) H := hP
  have hD : va_D A (cW T ad S1) := hD
  have qhw5 : (f_xe_reach S1).toInt ≤ rv5.toInt ∧ rv4.toInt ≤ rv5.toInt ∧ (rv5.toInt = (f_xe_reach S1).toInt ∨ rv5.toInt = rv4.toInt) := hw5
  have rrv5 := zt_rng rv5
  refine va_put (D := D) (ci := 7) (v := .int rv5) (ty := .int) (C := "PageScribe$Engine") (T := F_Engine) (N := 11) hx hb hts i_Engine t_Engine t_Engine_ok n_Engine hown hK hP hD hS 72 (ce_72 _ _ _) cl_7 9 (by decide) (hts _ k_2_33) (fun _ h9 => h9) rfl (by decide +kernel) rfl rfl (Nat.le_of_ble_eq_true rfl) d_Engine_runForAll_43 (fun H locs hP hD hS => ?_)
  rw [cp_xe_reach] at hP hD
  have hP : va_P D classes (cW T ad ((S1.1, S1.2.1, S1.2.2.1, S1.2.2.2.1, S1.2.2.2.2.1, S1.2.2.2.2.2.1, S1.2.2.2.2.2.2.1, S1.2.2.2.2.2.2.2.1, ((f_xe_fuelGiven S1), (f_xe_stepsDone S1), (f_xe_latestFault S1), (f_xe_underWay S1), rv5, (f_xe_loops S1))) : CS)) H := hP
  have hD : va_D A (cW T ad ((S1.1, S1.2.1, S1.2.2.1, S1.2.2.2.1, S1.2.2.2.2.1, S1.2.2.2.2.2.1, S1.2.2.2.2.2.2.1, S1.2.2.2.2.2.2.2.1, ((f_xe_fuelGiven S1), (f_xe_stepsDone S1), (f_xe_latestFault S1), (f_xe_underWay S1), rv5, (f_xe_loops S1))) : CS)) := hD
  refine lv_aload_n hx hb d_Engine_runForAll_46 rfl (lv_at hl 3 rfl) ?_
  refine lv_dup hx hb d_Engine_runForAll_47 rfl ?_
  refine va_get (D := D) (ci := 7) (v := .int (f_xe_loops S1)) (C := "PageScribe$Engine") (T := F_Engine) (N := 11) hx hb hts i_Engine hown hK hP 72 (ce_72 _ _ _) cl_7 10 (by decide) (hts _ k_2_34) (fun _ h9 => h9) rfl d_Engine_runForAll_48 ?_
  refine lv_iconst (v := 1) hx hb d_Engine_runForAll_51 (by decide) ?_
  refine lv_iadd hx hb d_Engine_runForAll_52 ?_
  refine lv_topi (fun x1 ex1 => ?_)
  have rx1 := zt_rng x1
  refine va_put (D := D) (ci := 7) (v := .int x1) (ty := .int) (C := "PageScribe$Engine") (T := F_Engine) (N := 11) hx hb hts i_Engine t_Engine t_Engine_ok n_Engine hown hK hP hD hS 72 (ce_72 _ _ _) cl_7 10 (by decide) (hts _ k_2_34) (fun _ h9 => h9) rfl (by decide +kernel) rfl rfl (Nat.le_of_ble_eq_true rfl) d_Engine_runForAll_53 (fun H locs hP hD hS => ?_)
  rw [cp_xe_loops] at hP hD
  have hP : va_P D classes (cW T ad ((S1.1, S1.2.1, S1.2.2.1, S1.2.2.2.1, S1.2.2.2.2.1, S1.2.2.2.2.2.1, S1.2.2.2.2.2.2.1, S1.2.2.2.2.2.2.2.1, ((f_xe_fuelGiven S1), (f_xe_stepsDone S1), (f_xe_latestFault S1), (f_xe_underWay S1), rv5, x1)) : CS)) H := hP
  have hD : va_D A (cW T ad ((S1.1, S1.2.1, S1.2.2.1, S1.2.2.2.1, S1.2.2.2.2.1, S1.2.2.2.2.2.1, S1.2.2.2.2.2.2.1, S1.2.2.2.2.2.2.2.1, ((f_xe_fuelGiven S1), (f_xe_stepsDone S1), (f_xe_latestFault S1), (f_xe_underWay S1), rv5, x1)) : CS)) := hD
  refine lv_iconst (v := 0) hx hb d_Engine_runForAll_56 (by decide) ?_
  refine lv_istore (lv' := [(4, .int 0), (3, .int (f_xe_reach S1)), (2, .int rv2), (1, .int rv1), (0, .ref (ad 72))]) hx hb d_Engine_runForAll_57 hl (by decide) rfl (fun ls hl => ?_)
  refine lv_iconst (v := 0) hx hb d_Engine_runForAll_59 (by decide) ?_
  refine lv_istore (lv' := [(5, .int 0), (4, .int 0), (3, .int (f_xe_reach S1)), (2, .int rv2), (1, .int rv1), (0, .ref (ad 72))]) hx hb d_Engine_runForAll_60 hl (by decide) rfl (fun ls hl => ?_)
  refine j_loop (α := CS × Int32 × Int32) (fun k x H locs ls => (0 ≤ x.2.2.toInt ∧ x.2.2.toInt ≤ 256 ∧ 256 ≤ x.2.2.toInt + ((k : Nat) : Int)) ∧ CIv x.1 ∧ kcL S x.1 ∧ kcP S x.1 ∧ kcU S x.1 ∧ kcW S x.1 ∧ va_P D classes (cW T ad x.1) H ∧ va_D A (cW T ad x.1) ∧ va_S A s.heap H locs ∧ lv_has ls 6 [(5, .int x.2.2), (4, .int x.2.1), (3, .int (f_xe_reach S1)), (2, .int rv2), (1, .int rv1), (0, .ref (ad 72))]) (fun _ _ ls => F0 m 62 ls []) (fun k x H locs ls hI9 ih => ?_) 256 (((S1.1, S1.2.1, S1.2.2.1, S1.2.2.2.1, S1.2.2.2.2.1, S1.2.2.2.2.2.1, S1.2.2.2.2.2.2.1, S1.2.2.2.2.2.2.2.1, ((f_xe_fuelGiven S1), (f_xe_stepsDone S1), (f_xe_latestFault S1), (f_xe_underWay S1), rv5, x1)) : CS), (0 : Int32), (0 : Int32)) _ _ _ ⟨(show 0 ≤ (0 : Int32).toInt ∧ (0 : Int32).toInt ≤ 256 ∧ 256 ≤ (0 : Int32).toInt + ((256 : Nat) : Int) by have := tI_0; have := tI_0; omega), ⟨i_vst, i_vc0, i_vc1, i_vc2, i_vc3, i_vv0, i_vv1, i_vv2, i_vv3, i_vg, i_wct, i_wln, i_sd0, i_sd1, i_sd2, i_sd3, i_rln, i_rtx, i_rpl, i_rtk, i_cnv, i_pts, i_cik, i_und⟩, (show kcL S ((S1.1, S1.2.1, S1.2.2.1, S1.2.2.2.1, S1.2.2.2.2.1, S1.2.2.2.2.2.1, S1.2.2.2.2.2.2.1, S1.2.2.2.2.2.2.2.1, ((f_xe_fuelGiven S1), (f_xe_stepsDone S1), (f_xe_latestFault S1), (f_xe_underWay S1), rv5, x1)) : CS) from kScL_S1), (show kcP S ((S1.1, S1.2.1, S1.2.2.1, S1.2.2.2.1, S1.2.2.2.2.1, S1.2.2.2.2.2.1, S1.2.2.2.2.2.2.1, S1.2.2.2.2.2.2.2.1, ((f_xe_fuelGiven S1), (f_xe_stepsDone S1), (f_xe_latestFault S1), (f_xe_underWay S1), rv5, x1)) : CS) from kScP_S1), (show kcU S ((S1.1, S1.2.1, S1.2.2.1, S1.2.2.2.1, S1.2.2.2.2.1, S1.2.2.2.2.2.1, S1.2.2.2.2.2.2.1, S1.2.2.2.2.2.2.2.1, ((f_xe_fuelGiven S1), (f_xe_stepsDone S1), (f_xe_latestFault S1), (f_xe_underWay S1), rv5, x1)) : CS) from kScU_S1), (show kcW S ((S1.1, S1.2.1, S1.2.2.1, S1.2.2.2.1, S1.2.2.2.2.1, S1.2.2.2.2.2.1, S1.2.2.2.2.2.2.1, S1.2.2.2.2.2.2.2.1, ((f_xe_fuelGiven S1), (f_xe_stepsDone S1), (f_xe_latestFault S1), (f_xe_underWay S1), rv5, x1)) : CS) from kScW_S1), hP, hD, hS, lv_sub hl [0, 1, 2, 3, 4, 5] rfl⟩
  obtain ⟨S2, e, i⟩ := x
  obtain ⟨hf1, hIx, klcL_S2, klcP_S2, klcU_S2, klcW_S2, hP, hD, hS, hl⟩ := hI9
  obtain ⟨i_vst, i_vc0, i_vc1, i_vc2, i_vc3, i_vv0, i_vv1, i_vv2, i_vv3, i_vg, i_wct, i_wln, i_sd0, i_sd1, i_sd2, i_sd3, i_rln, i_rtx, i_rpl, i_rtk, i_cnv, i_pts, i_cik, i_und⟩ := (show CIv S2 from hIx)
  have klcL_S2 : kcL S S2 := klcL_S2
  have klcP_S2 : kcP S S2 := klcP_S2
  have klcU_S2 : kcU S S2 := klcU_S2
  have klcW_S2 : kcW S S2 := klcW_S2
  have hf1 : 0 ≤ i.toInt ∧ i.toInt ≤ 256 ∧ 256 ≤ i.toInt + ((k : Nat) : Int) := hf1
  have hP : va_P D classes (cW T ad S2) H := hP
  have hD : va_D A (cW T ad S2) := hD
  have hl : lv_has ls 6 [(5, .int i), (4, .int e), (3, .int (f_xe_reach S1)), (2, .int rv2), (1, .int rv1), (0, .ref (ad 72))] := hl
  have hu_S2 : (f_xe_underWay S2).toInt = (f_xe_underWay S).toInt := congrArg Int32.toInt klcU_S2
  refine lv_iload hx hb d_Engine_runForAll_62 (lv_at hl 0 rfl) ?_
  refine lv_iload_n hx hb d_Engine_runForAll_64 rfl (lv_at hl 4 rfl) ?_
  refine j_ci (wc := []) (wr := (cW T ad S2)) hK hP hD hS hA [] csc rfl csc_all csc_nd (fun _ _ => List.not_mem_nil) (va_runSN (As := [.int rv1]) (rest := [.int i]) F (c_Ps_lengthOf2 l D T rv1  H.size) (j_cSN (k := 1) hts k_4_189 k_1_1 (hE.2.2.2 (Cond.methodLinkNest "PageScribe$Engine" 126 ⟨"PageScribe", "lengthOf", "(I)I"⟩ "PageScribe") (List.mem_of_getElem? (i := 12) rfl)) k_4_188 (by decide +kernel) ⟨by dsimp only; omega, by dsimp only; omega⟩) (j_preS hK hP hD [] rfl (by decide) (fun _ _ _ _ h => h) (fun _ _ _ => trivial)) rfl rfl hl.1 rfl (lv_room (Nat.le_of_ble_eq_true rfl)) d_Engine_runForAll_65 ⟨Nat.le_of_ble_eq_true rfl, Nat.le_of_ble_eq_true rfl⟩) (fun rv6 u5 H locs hw6 hP hD hS => ?_)
  have hP : va_P D classes (cW T ad S2) H := hP
  have hD : va_D A (cW T ad S2) := hD
  have qhw6 : rv6.toInt < 256 := hw6
  have rrv6 := zt_rng rv6
  refine lv_icmp_ge (tgt := 131) hx hb d_Engine_runForAll_68 (by decide) (fun c68_1 => ?_) (fun c68_1 => ?_)
  · have fc68_1 : rv6.toInt ≤ i.toInt := zt_le (show rv6.toInt = _ from rfl) (show i.toInt = _ from rfl) c68_1
    refine lv_aload_n hx hb d_Engine_runForAll_131 rfl (lv_at hl 5 rfl) ?_
    refine lv_dup hx hb d_Engine_runForAll_132 rfl ?_
    refine va_get (D := D) (ci := 7) (v := .int (f_xe_loops S2)) (C := "PageScribe$Engine") (T := F_Engine) (N := 11) hx hb hts i_Engine hown hK hP 72 (ce_72 _ _ _) cl_7 10 (by decide) (hts _ k_2_34) (fun _ h9 => h9) rfl d_Engine_runForAll_133 ?_
    refine lv_iconst (v := 1) hx hb d_Engine_runForAll_136 (by decide) ?_
    refine lv_isub hx hb d_Engine_runForAll_137 ?_
    refine lv_topi (fun x2 ex2 => ?_)
    have rx2 := zt_rng x2
    refine va_put (D := D) (ci := 7) (v := .int x2) (ty := .int) (C := "PageScribe$Engine") (T := F_Engine) (N := 11) hx hb hts i_Engine t_Engine t_Engine_ok n_Engine hown hK hP hD hS 72 (ce_72 _ _ _) cl_7 10 (by decide) (hts _ k_2_34) (fun _ h9 => h9) rfl (by decide +kernel) rfl rfl (Nat.le_of_ble_eq_true rfl) d_Engine_runForAll_138 (fun H locs hP hD hS => ?_)
    rw [cp_xe_loops] at hP hD
    have hP : va_P D classes (cW T ad ((S2.1, S2.2.1, S2.2.2.1, S2.2.2.2.1, S2.2.2.2.2.1, S2.2.2.2.2.2.1, S2.2.2.2.2.2.2.1, S2.2.2.2.2.2.2.2.1, ((f_xe_fuelGiven S2), (f_xe_stepsDone S2), (f_xe_latestFault S2), (f_xe_underWay S2), (f_xe_reach S2), x2)) : CS)) H := hP
    have hD : va_D A (cW T ad ((S2.1, S2.2.1, S2.2.2.1, S2.2.2.2.1, S2.2.2.2.2.1, S2.2.2.2.2.2.1, S2.2.2.2.2.2.2.1, S2.2.2.2.2.2.2.2.1, ((f_xe_fuelGiven S2), (f_xe_stepsDone S2), (f_xe_latestFault S2), (f_xe_underWay S2), (f_xe_reach S2), x2)) : CS)) := hD
    refine lv_aload_n hx hb d_Engine_runForAll_141 rfl (lv_at hl 5 rfl) ?_
    refine lv_iload_n hx hb d_Engine_runForAll_142 rfl (lv_at hl 2 rfl) ?_
    refine va_put (D := D) (ci := 7) (v := .int (f_xe_reach S1)) (ty := .int) (C := "PageScribe$Engine") (T := F_Engine) (N := 11) hx hb hts i_Engine t_Engine t_Engine_ok n_Engine hown hK hP hD hS 72 (ce_72 _ _ _) cl_7 9 (by decide) (hts _ k_2_33) (fun _ h9 => h9) rfl (by decide +kernel) rfl rfl (Nat.le_of_ble_eq_true rfl) d_Engine_runForAll_143 (fun H locs hP hD hS => ?_)
    rw [cp_xe_reach] at hP hD
    have hP : va_P D classes (cW T ad ((S2.1, S2.2.1, S2.2.2.1, S2.2.2.2.1, S2.2.2.2.2.1, S2.2.2.2.2.2.1, S2.2.2.2.2.2.2.1, S2.2.2.2.2.2.2.2.1, ((f_xe_fuelGiven S2), (f_xe_stepsDone S2), (f_xe_latestFault S2), (f_xe_underWay S2), (f_xe_reach S1), x2)) : CS)) H := hP
    have hD : va_D A (cW T ad ((S2.1, S2.2.1, S2.2.2.1, S2.2.2.2.1, S2.2.2.2.2.1, S2.2.2.2.2.2.1, S2.2.2.2.2.2.2.1, S2.2.2.2.2.2.2.2.1, ((f_xe_fuelGiven S2), (f_xe_stepsDone S2), (f_xe_latestFault S2), (f_xe_underWay S2), (f_xe_reach S1), x2)) : CS)) := hD
    refine lv_iload hx hb d_Engine_runForAll_146 (lv_at hl 1 rfl) ?_
    refine lv_iconst (v := (-1)) hx hb d_Engine_runForAll_148 (by decide) ?_
    refine lv_icmp_ne (tgt := 156) hx hb d_Engine_runForAll_149 (by decide) (fun c149_1 => ?_) (fun c149_1 => ?_)
    · first | have fc149_1 : e.toInt < (-1) := (by have := zt_ne (show e.toInt = _ from rfl) tI_m1 c149_1; omega) | have fc149_1 : (-1) < e.toInt := (by have := zt_ne (show e.toInt = _ from rfl) tI_m1 c149_1; omega) | skip
      refine lv_iload hx hb d_Engine_runForAll_156 (lv_at hl 1 rfl) ?_
      exact j_iret F hr hlocks hK hS ((S2.1, S2.2.1, S2.2.2.1, S2.2.2.2.1, S2.2.2.2.2.1, S2.2.2.2.2.2.1, S2.2.2.2.2.2.2.1, S2.2.2.2.2.2.2.2.1, ((f_xe_fuelGiven S2), (f_xe_stepsDone S2), (f_xe_latestFault S2), (f_xe_underWay S2), (f_xe_reach S1), x2)) : CS) ⟨⟨i_vst, i_vc0, i_vc1, i_vc2, i_vc3, i_vv0, i_vv1, i_vv2, i_vv3, i_vg, i_wct, i_wln, i_sd0, i_sd1, i_sd2, i_sd3, i_rln, i_rtx, i_rpl, i_rtk, i_cnv, i_pts, i_cik, i_und⟩, klcL_S2, klcP_S2, klcU_S2, klcW_S2⟩ hP hD d_Engine_runForAll_158
    · have fc149_1 : e.toInt = (-1) := zt_eq (show e.toInt = _ from rfl) tI_m1 c149_1
      refine lv_iconst (v := 0) hx hb d_Engine_runForAll_152 (by decide) ?_
      refine lv_goto (tgt := 158) hx hb d_Engine_runForAll_153 (by decide) ?_
      exact j_iret F hr hlocks hK hS ((S2.1, S2.2.1, S2.2.2.1, S2.2.2.2.1, S2.2.2.2.2.1, S2.2.2.2.2.2.1, S2.2.2.2.2.2.2.1, S2.2.2.2.2.2.2.2.1, ((f_xe_fuelGiven S2), (f_xe_stepsDone S2), (f_xe_latestFault S2), (f_xe_underWay S2), (f_xe_reach S1), x2)) : CS) ⟨⟨i_vst, i_vc0, i_vc1, i_vc2, i_vc3, i_vv0, i_vv1, i_vv2, i_vv3, i_vg, i_wct, i_wln, i_sd0, i_sd1, i_sd2, i_sd3, i_rln, i_rtx, i_rpl, i_rtk, i_cnv, i_pts, i_cik, i_und⟩, klcL_S2, klcP_S2, klcU_S2, klcW_S2⟩ hP hD d_Engine_runForAll_158
  · have fc68_1 : i.toInt < rv6.toInt := Int.not_le.mp (zt_nle (show rv6.toInt = _ from rfl) (show i.toInt = _ from rfl) c68_1)
    refine lv_iload hx hb d_Engine_runForAll_71 (lv_at hl 1 rfl) ?_
    refine lv_if_ne (tgt := 131) hx hb d_Engine_runForAll_73 (by decide) (fun c73_1 => ?_) (fun c73_1 => ?_)
    · first | have fc73_1 : e.toInt < 0 := (by have := zt_ne (show e.toInt = _ from rfl) tI_0 c73_1; omega) | have fc73_1 : 0 < e.toInt := (by have := zt_ne (show e.toInt = _ from rfl) tI_0 c73_1; omega) | skip
      refine lv_aload_n hx hb d_Engine_runForAll_131 rfl (lv_at hl 5 rfl) ?_
      refine lv_dup hx hb d_Engine_runForAll_132 rfl ?_
      refine va_get (D := D) (ci := 7) (v := .int (f_xe_loops S2)) (C := "PageScribe$Engine") (T := F_Engine) (N := 11) hx hb hts i_Engine hown hK hP 72 (ce_72 _ _ _) cl_7 10 (by decide) (hts _ k_2_34) (fun _ h9 => h9) rfl d_Engine_runForAll_133 ?_
      refine lv_iconst (v := 1) hx hb d_Engine_runForAll_136 (by decide) ?_
      refine lv_isub hx hb d_Engine_runForAll_137 ?_
      refine lv_topi (fun x3 ex3 => ?_)
      have rx3 := zt_rng x3
      refine va_put (D := D) (ci := 7) (v := .int x3) (ty := .int) (C := "PageScribe$Engine") (T := F_Engine) (N := 11) hx hb hts i_Engine t_Engine t_Engine_ok n_Engine hown hK hP hD hS 72 (ce_72 _ _ _) cl_7 10 (by decide) (hts _ k_2_34) (fun _ h9 => h9) rfl (by decide +kernel) rfl rfl (Nat.le_of_ble_eq_true rfl) d_Engine_runForAll_138 (fun H locs hP hD hS => ?_)
      rw [cp_xe_loops] at hP hD
      have hP : va_P D classes (cW T ad ((S2.1, S2.2.1, S2.2.2.1, S2.2.2.2.1, S2.2.2.2.2.1, S2.2.2.2.2.2.1, S2.2.2.2.2.2.2.1, S2.2.2.2.2.2.2.2.1, ((f_xe_fuelGiven S2), (f_xe_stepsDone S2), (f_xe_latestFault S2), (f_xe_underWay S2), (f_xe_reach S2), x3)) : CS)) H := hP
      have hD : va_D A (cW T ad ((S2.1, S2.2.1, S2.2.2.1, S2.2.2.2.1, S2.2.2.2.2.1, S2.2.2.2.2.2.1, S2.2.2.2.2.2.2.1, S2.2.2.2.2.2.2.2.1, ((f_xe_fuelGiven S2), (f_xe_stepsDone S2), (f_xe_latestFault S2), (f_xe_underWay S2), (f_xe_reach S2), x3)) : CS)) := hD
      refine lv_aload_n hx hb d_Engine_runForAll_141 rfl (lv_at hl 5 rfl) ?_
      refine lv_iload_n hx hb d_Engine_runForAll_142 rfl (lv_at hl 2 rfl) ?_
      refine va_put (D := D) (ci := 7) (v := .int (f_xe_reach S1)) (ty := .int) (C := "PageScribe$Engine") (T := F_Engine) (N := 11) hx hb hts i_Engine t_Engine t_Engine_ok n_Engine hown hK hP hD hS 72 (ce_72 _ _ _) cl_7 9 (by decide) (hts _ k_2_33) (fun _ h9 => h9) rfl (by decide +kernel) rfl rfl (Nat.le_of_ble_eq_true rfl) d_Engine_runForAll_143 (fun H locs hP hD hS => ?_)
      rw [cp_xe_reach] at hP hD
      have hP : va_P D classes (cW T ad ((S2.1, S2.2.1, S2.2.2.1, S2.2.2.2.1, S2.2.2.2.2.1, S2.2.2.2.2.2.1, S2.2.2.2.2.2.2.1, S2.2.2.2.2.2.2.2.1, ((f_xe_fuelGiven S2), (f_xe_stepsDone S2), (f_xe_latestFault S2), (f_xe_underWay S2), (f_xe_reach S1), x3)) : CS)) H := hP
      have hD : va_D A (cW T ad ((S2.1, S2.2.1, S2.2.2.1, S2.2.2.2.1, S2.2.2.2.2.1, S2.2.2.2.2.2.1, S2.2.2.2.2.2.2.1, S2.2.2.2.2.2.2.2.1, ((f_xe_fuelGiven S2), (f_xe_stepsDone S2), (f_xe_latestFault S2), (f_xe_underWay S2), (f_xe_reach S1), x3)) : CS)) := hD
      refine lv_iload hx hb d_Engine_runForAll_146 (lv_at hl 1 rfl) ?_
      refine lv_iconst (v := (-1)) hx hb d_Engine_runForAll_148 (by decide) ?_
      refine lv_icmp_ne (tgt := 156) hx hb d_Engine_runForAll_149 (by decide) (fun c149_2 => ?_) (fun c149_2 => ?_)
      · first | have fc149_2 : e.toInt < (-1) := (by have := zt_ne (show e.toInt = _ from rfl) tI_m1 c149_2; omega) | have fc149_2 : (-1) < e.toInt := (by have := zt_ne (show e.toInt = _ from rfl) tI_m1 c149_2; omega) | skip
        refine lv_iload hx hb d_Engine_runForAll_156 (lv_at hl 1 rfl) ?_
        exact j_iret F hr hlocks hK hS ((S2.1, S2.2.1, S2.2.2.1, S2.2.2.2.1, S2.2.2.2.2.1, S2.2.2.2.2.2.1, S2.2.2.2.2.2.2.1, S2.2.2.2.2.2.2.2.1, ((f_xe_fuelGiven S2), (f_xe_stepsDone S2), (f_xe_latestFault S2), (f_xe_underWay S2), (f_xe_reach S1), x3)) : CS) ⟨⟨i_vst, i_vc0, i_vc1, i_vc2, i_vc3, i_vv0, i_vv1, i_vv2, i_vv3, i_vg, i_wct, i_wln, i_sd0, i_sd1, i_sd2, i_sd3, i_rln, i_rtx, i_rpl, i_rtk, i_cnv, i_pts, i_cik, i_und⟩, klcL_S2, klcP_S2, klcU_S2, klcW_S2⟩ hP hD d_Engine_runForAll_158
      · have fc149_2 : e.toInt = (-1) := zt_eq (show e.toInt = _ from rfl) tI_m1 c149_2
        refine lv_iconst (v := 0) hx hb d_Engine_runForAll_152 (by decide) ?_
        refine lv_goto (tgt := 158) hx hb d_Engine_runForAll_153 (by decide) ?_
        exact j_iret F hr hlocks hK hS ((S2.1, S2.2.1, S2.2.2.1, S2.2.2.2.1, S2.2.2.2.2.1, S2.2.2.2.2.2.1, S2.2.2.2.2.2.2.1, S2.2.2.2.2.2.2.2.1, ((f_xe_fuelGiven S2), (f_xe_stepsDone S2), (f_xe_latestFault S2), (f_xe_underWay S2), (f_xe_reach S1), x3)) : CS) ⟨⟨i_vst, i_vc0, i_vc1, i_vc2, i_vc3, i_vv0, i_vv1, i_vv2, i_vv3, i_vg, i_wct, i_wln, i_sd0, i_sd1, i_sd2, i_sd3, i_rln, i_rtx, i_rpl, i_rtk, i_cnv, i_pts, i_cik, i_und⟩, klcL_S2, klcP_S2, klcU_S2, klcW_S2⟩ hP hD d_Engine_runForAll_158
    · have fc73_1 : e.toInt = 0 := zt_eq (show e.toInt = _ from rfl) tI_0 c73_1
      refine lv_aload_n hx hb d_Engine_runForAll_76 rfl (lv_at hl 5 rfl) ?_
      refine jc_ci (w := (fun u => u)) hK hP hD hS hA (va_runV (As := []) (rest := []) F (c_Engine_countStep l D T ad S2  H.size ⟨i_vst, i_vc0, i_vc1, i_vc2, i_vc3, i_vv0, i_vv1, i_vv2, i_vv3, i_vg, i_wct, i_wln, i_sd0, i_sd1, i_sd2, i_sd3, i_rln, i_rtx, i_rpl, i_rtk, i_cnv, i_pts, i_cik, i_und⟩) (j_cV (k := 0) (C := "PageScribe$Engine") hts k_3_171 k_1_9 k_3_168 k_3_170 k_0_14 (by decide +kernel) ⟨by dsimp only; omega, by dsimp only; omega⟩) (j_preV (q0 := 72) (ci := 7) hK hP hD csc csc_all csc_nd cl_7 (ce_72 _ _ _) (fun _ _ _ _ h => h) (fun _ _ _ => trivial)) rfl rfl hl.1 rfl (lv_room (Nat.le_of_ble_eq_true rfl)) d_Engine_runForAll_77 ⟨Nat.le_of_ble_eq_true rfl, Nat.le_of_ble_eq_true rfl⟩) (fun rv7 S3 H locs hw7 hP hD hS => ?_)
      have hP : va_P D classes (cW T ad S3) H := hP
      have hD : va_D A (cW T ad S3) := hD
      obtain ⟨⟨i_vst, i_vc0, i_vc1, i_vc2, i_vc3, i_vv0, i_vv1, i_vv2, i_vv3, i_vg, i_wct, i_wln, i_sd0, i_sd1, i_sd2, i_sd3, i_rln, i_rtx, i_rpl, i_rtk, i_cnv, i_pts, i_cik, i_und⟩, kpcL_S3, kpcP_S3, kpcU_S3, kpcW_S3⟩ := hw7
      have kScL_S3 : kcL S S3 := kcL_t (show kcL S S2 from klcL_S2) kpcL_S3
      have kScP_S3 : kcP S S3 := kcP_t (show kcP S S2 from klcP_S2) kpcP_S3
      have kScU_S3 : kcU S S3 := kcU_t (show kcU S S2 from klcU_S2) kpcU_S3
      have kScW_S3 : kcW S S3 := kcW_t (show kcW S S2 from klcW_S2) kpcW_S3
      have nxr_length_S3 : (f_xr_length S3).toInt = (f_xr_length S2).toInt := congrArg Int32.toInt kpcL_S3
      have nxr_length_S3 : (f_xr_length S3).toInt = (f_xr_length S2).toInt := congrArg Int32.toInt kpcP_S3.1
      have nxr_place_S3 : (f_xr_place S3).toInt = (f_xr_place S2).toInt := congrArg Int32.toInt kpcP_S3.2.1
      have nxe_underWay_S3 : (f_xe_underWay S3).toInt = (f_xe_underWay S2).toInt := congrArg Int32.toInt kpcU_S3
      have nxp_columns_S3 : (f_xp_columns S3).toInt = (f_xp_columns S2).toInt := congrArg Int32.toInt kpcW_S3.1
      have nxp_rows_S3 : (f_xp_rows S3).toInt = (f_xp_rows S2).toInt := congrArg Int32.toInt kpcW_S3.2
      have rrv7 := zt_rng rv7
      refine lv_istore (lv' := [(4, .int rv7), (5, .int i), (3, .int (f_xe_reach S1)), (2, .int rv2), (1, .int rv1), (0, .ref (ad 72))]) hx hb d_Engine_runForAll_80 hl (by decide) rfl (fun ls hl => ?_)
      refine lv_iload hx hb d_Engine_runForAll_82 (lv_at hl 0 rfl) ?_
      refine lv_if_ne (tgt := 113) hx hb d_Engine_runForAll_84 (by decide) (fun c84_1 => ?_) (fun c84_1 => ?_)
      · first | have fc84_1 : rv7.toInt < 0 := (by have := zt_ne (show rv7.toInt = _ from rfl) tI_0 c84_1; omega) | have fc84_1 : 0 < rv7.toInt := (by have := zt_ne (show rv7.toInt = _ from rfl) tI_0 c84_1; omega) | skip
        refine lv_iload hx hb d_Engine_runForAll_113 (lv_at hl 0 rfl) ?_
        refine lv_if_ne (tgt := 125) hx hb d_Engine_runForAll_115 (by decide) (fun c115_1 => ?_) (fun c115_1 => ?_)
        · first | have fc115_1 : rv7.toInt < 0 := (by have := zt_ne (show rv7.toInt = _ from rfl) tI_0 c115_1; omega) | have fc115_1 : 0 < rv7.toInt := (by have := zt_ne (show rv7.toInt = _ from rfl) tI_0 c115_1; omega) | skip
          refine lv_iinc (v := (i + 1)) (lv' := [(5, .int (i + 1)), (4, .int rv7), (3, .int (f_xe_reach S1)), (2, .int rv2), (1, .int rv1), (0, .ref (ad 72))]) hx hb d_Engine_runForAll_125 hl (k := 1) rfl (by first | rfl | decide) (by decide) rfl (fun ls hl => ?_)
          obtain ⟨x4, ex4⟩ : ∃ z, z = (i + 1) := ⟨_, rfl⟩
          rw [← ex4] at hl
          have fx4 : x4.toInt = (i.toInt + 1) := by rw [ex4]; exact (zt_add (show i.toInt = _ from rfl) tI_1 (by omega) (by omega)).trans (by omega)
          have hl : lv_has ls 6 [(5, .int x4), (4, .int rv7), (3, .int (f_xe_reach S1)), (2, .int rv2), (1, .int rv1), (0, .ref (ad 72))] := hl
          refine lv_goto (tgt := 62) hx hb d_Engine_runForAll_128 (by decide) ?_
          exact ih (k - 1) (S3, rv7, x4) _ _ _ (by omega) ⟨(show 0 ≤ x4.toInt ∧ x4.toInt ≤ 256 ∧ 256 ≤ x4.toInt + (((k - 1) : Nat) : Int) by omega), ⟨i_vst, i_vc0, i_vc1, i_vc2, i_vc3, i_vv0, i_vv1, i_vv2, i_vv3, i_vg, i_wct, i_wln, i_sd0, i_sd1, i_sd2, i_sd3, i_rln, i_rtx, i_rpl, i_rtk, i_cnv, i_pts, i_cik, i_und⟩, (show kcL S S3 from kScL_S3), (show kcP S S3 from kScP_S3), (show kcU S S3 from kScU_S3), (show kcW S S3 from kScW_S3), hP, hD, hS, lv_sub hl [0, 1, 2, 3, 4, 5] rfl⟩
        · have fc115_1 : rv7.toInt = 0 := zt_eq (show rv7.toInt = _ from rfl) tI_0 c115_1
          refine lv_aload_n hx hb d_Engine_runForAll_118 rfl (lv_at hl 5 rfl) ?_
          refine lv_iload_n hx hb d_Engine_runForAll_119 rfl (lv_at hl 3 rfl) ?_
          refine jc_ci (w := (fun u => u)) hK hP hD hS hA (va_runV (As := [.int rv2]) (rest := []) F (c_Engine_runArray l D T ad g Bq d hdv S3 rv2  H.size ⟨i_vst, i_vc0, i_vc1, i_vc2, i_vc3, i_vv0, i_vv1, i_vv2, i_vv3, i_vg, i_wct, i_wln, i_sd0, i_sd1, i_sd2, i_sd3, i_rln, i_rtx, i_rpl, i_rtk, i_cnv, i_pts, i_cik, i_und⟩ (show 8 ≤ (f_xe_underWay S3).toInt + d by omega)) (j_cV (k := 1) (C := "PageScribe$Engine") hts k_5_203 k_1_9 k_5_200 k_5_202 k_0_68 (by decide +kernel) ⟨by dsimp only; omega, by dsimp only; omega⟩) (j_preV (q0 := 72) (ci := 7) hK hP hD csc csc_all csc_nd cl_7 (ce_72 _ _ _) (fun _ _ _ _ h => EC.calling h) (fun U hU hW => EC.at hS hAB hU hW hE)) rfl rfl hl.1 rfl (lv_room (Nat.le_of_ble_eq_true rfl)) d_Engine_runForAll_120 ⟨Nat.le_of_ble_eq_true rfl, Nat.le_of_ble_eq_true rfl⟩) (fun rv8 S4 H locs hw8 hP hD hS => ?_)
          have hP : va_P D classes (cW T ad S4) H := hP
          have hD : va_D A (cW T ad S4) := hD
          obtain ⟨⟨i_vst, i_vc0, i_vc1, i_vc2, i_vc3, i_vv0, i_vv1, i_vv2, i_vv3, i_vg, i_wct, i_wln, i_sd0, i_sd1, i_sd2, i_sd3, i_rln, i_rtx, i_rpl, i_rtk, i_cnv, i_pts, i_cik, i_und⟩, kpcL_S4, kpcP_S4, kpcU_S4, kpcW_S4⟩ := hw8
          have kScL_S4 : kcL S S4 := kcL_t (show kcL S S3 from kScL_S3) kpcL_S4
          have kScP_S4 : kcP S S4 := kcP_t (show kcP S S3 from kScP_S3) kpcP_S4
          have kScU_S4 : kcU S S4 := kcU_t (show kcU S S3 from kScU_S3) kpcU_S4
          have kScW_S4 : kcW S S4 := kcW_t (show kcW S S3 from kScW_S3) kpcW_S4
          have nxr_length_S4 : (f_xr_length S4).toInt = (f_xr_length S3).toInt := congrArg Int32.toInt kpcL_S4
          have nxr_length_S4 : (f_xr_length S4).toInt = (f_xr_length S3).toInt := congrArg Int32.toInt kpcP_S4.1
          have nxr_place_S4 : (f_xr_place S4).toInt = (f_xr_place S3).toInt := congrArg Int32.toInt kpcP_S4.2.1
          have nxe_underWay_S4 : (f_xe_underWay S4).toInt = (f_xe_underWay S3).toInt := congrArg Int32.toInt kpcU_S4
          have nxp_columns_S4 : (f_xp_columns S4).toInt = (f_xp_columns S3).toInt := congrArg Int32.toInt kpcW_S4.1
          have nxp_rows_S4 : (f_xp_rows S4).toInt = (f_xp_rows S3).toInt := congrArg Int32.toInt kpcW_S4.2
          have rrv8 := zt_rng rv8
          refine lv_istore (lv' := [(4, .int rv8), (5, .int i), (3, .int (f_xe_reach S1)), (2, .int rv2), (1, .int rv1), (0, .ref (ad 72))]) hx hb d_Engine_runForAll_123 hl (by decide) rfl (fun ls hl => ?_)
          refine lv_iinc (v := (i + 1)) (lv' := [(5, .int (i + 1)), (4, .int rv8), (3, .int (f_xe_reach S1)), (2, .int rv2), (1, .int rv1), (0, .ref (ad 72))]) hx hb d_Engine_runForAll_125 hl (k := 1) rfl (by first | rfl | decide) (by decide) rfl (fun ls hl => ?_)
          obtain ⟨x5, ex5⟩ : ∃ z, z = (i + 1) := ⟨_, rfl⟩
          rw [← ex5] at hl
          have fx5 : x5.toInt = (i.toInt + 1) := by rw [ex5]; exact (zt_add (show i.toInt = _ from rfl) tI_1 (by omega) (by omega)).trans (by omega)
          have hl : lv_has ls 6 [(5, .int x5), (4, .int rv8), (3, .int (f_xe_reach S1)), (2, .int rv2), (1, .int rv1), (0, .ref (ad 72))] := hl
          refine lv_goto (tgt := 62) hx hb d_Engine_runForAll_128 (by decide) ?_
          exact ih (k - 1) (S4, rv8, x5) _ _ _ (by omega) ⟨(show 0 ≤ x5.toInt ∧ x5.toInt ≤ 256 ∧ 256 ≤ x5.toInt + (((k - 1) : Nat) : Int) by omega), ⟨i_vst, i_vc0, i_vc1, i_vc2, i_vc3, i_vv0, i_vv1, i_vv2, i_vv3, i_vg, i_wct, i_wln, i_sd0, i_sd1, i_sd2, i_sd3, i_rln, i_rtx, i_rpl, i_rtk, i_cnv, i_pts, i_cik, i_und⟩, (show kcL S S4 from kScL_S4), (show kcP S S4 from kScP_S4), (show kcU S S4 from kScU_S4), (show kcW S S4 from kScW_S4), hP, hD, hS, lv_sub hl [0, 1, 2, 3, 4, 5] rfl⟩
      · have fc84_1 : rv7.toInt = 0 := zt_eq (show rv7.toInt = _ from rfl) tI_0 c84_1
        refine lv_aload_n hx hb d_Engine_runForAll_87 rfl (lv_at hl 5 rfl) ?_
        refine va_get (D := D) (ci := 7) (v := .ref (ad 1)) (C := "PageScribe$Engine") (T := F_Engine) (N := 11) hx hb hts i_Engine hown hK hP 72 (ce_72 _ _ _) cl_7 0 (by decide) (hts _ k_2_22) (fun _ h9 => h9) rfl d_Engine_runForAll_88 ?_
        refine lv_aload_n hx hb d_Engine_runForAll_91 rfl (lv_at hl 5 rfl) ?_
        refine va_get (D := D) (ci := 7) (v := .ref (ad 8)) (C := "PageScribe$Engine") (T := F_Engine) (N := 11) hx hb hts i_Engine hown hK hP 72 (ce_72 _ _ _) cl_7 1 (by decide) (hts _ k_2_23) (fun _ h9 => h9) rfl d_Engine_runForAll_92 ?_
        refine va_get (D := D) (ci := 2) (v := .ref (ad 12)) (C := "PageScribe$Memory") (T := F_Memory) (N := 8) hx hb hts i_Memory hown hK hP 8 (ce_8 _ _ _) cl_2 1 (by decide) (hts _ k_1_132) (fun _ h9 => h9) rfl d_Engine_runForAll_95 ?_
        refine va_get (D := D) (ci := 3) (v := .ref (ad 13)) (C := "PageScribe$Store") (T := F_Store) (N := 5) hx hb hts i_Store hown hK hP 12 (ce_12 _ _ _) cl_3 0 (by decide) (hts _ k_1_109) (fun _ h9 => h9) rfl d_Engine_runForAll_98 ?_
        refine lv_iload_n hx hb d_Engine_runForAll_101 rfl (lv_at hl 4 rfl) ?_
        refine j_ci (wc := []) (wr := (cW T ad S3)) hK hP hD hS hA [] csc rfl csc_all csc_nd (fun _ _ => List.not_mem_nil) (va_runSN (As := [.int rv1]) (rest := [.ref (ad 13), .ref (ad 1)]) F (c_Ps_firstOf l D T rv1  H.size) (j_cSN (k := 1) hts k_5_23 k_1_1 (hE.2.2.2 (Cond.methodLinkNest "PageScribe$Engine" 123 ⟨"PageScribe", "firstOf", "(I)I"⟩ "PageScribe") (List.mem_of_getElem? (i := 11) rfl)) k_5_22 (by decide +kernel) ⟨by dsimp only; omega, by dsimp only; omega⟩) (j_preS hK hP hD [] rfl (by decide) (fun _ _ _ _ h => h) (fun _ _ _ => trivial)) rfl rfl hl.1 rfl (lv_room (Nat.le_of_ble_eq_true rfl)) d_Engine_runForAll_102 ⟨Nat.le_of_ble_eq_true rfl, Nat.le_of_ble_eq_true rfl⟩) (fun rv9 u6 H locs hw9 hP hD hS => ?_)
        have hP : va_P D classes (cW T ad S3) H := hP
        have hD : va_D A (cW T ad S3) := hD
        have rrv9 := zt_rng rv9
        refine lv_iload hx hb d_Engine_runForAll_105 (lv_at hl 1 rfl) ?_
        refine lv_iadd hx hb d_Engine_runForAll_107 ?_
        refine lv_topi (fun x6 ex6 => ?_)
        have rx6 := zt_rng x6
        refine jc_ci (w := (fun u => u)) hK hP hD hS hA (va_runU (As := [.ref (ad 13), .int x6]) (rest := []) F (c_Row_pushFrom_1_13 l D T ad S3 x6  H.size ⟨i_vst, i_vc0, i_vc1, i_vc2, i_vc3, i_vv0, i_vv1, i_vv2, i_vv3, i_vg, i_wct, i_wln, i_sd0, i_sd1, i_sd2, i_sd3, i_rln, i_rtx, i_rpl, i_rtk, i_cnv, i_pts, i_cik, i_und⟩) (j_cU (k := 2) (C := "PageScribe$Stack") (owner := "PageScribe$Row") (x := ⟨"PageScribe$Stack", "pushFrom", "(LPageScribe$Row;I)I"⟩) hts k_3_96 k_6_6 k_4_64 k_4_66 k_3_92 k_1_2 rfl (by decide +kernel) ⟨by dsimp only; omega, by dsimp only; omega⟩) (j_preV (q0 := 1) (ci := 0) hK hP hD csc csc_all csc_nd cl_0 (ce_1 _ _ _) (fun _ _ _ _ h => h) (fun _ _ _ => trivial)) rfl rfl hl.1 rfl (lv_room (Nat.le_of_ble_eq_true rfl)) d_Engine_runForAll_108 ⟨Nat.le_of_ble_eq_true rfl, Nat.le_of_ble_eq_true rfl⟩) (fun rv10 S5 H locs hw10 hP hD hS => ?_)
        have hP : va_P D classes (cW T ad S5) H := hP
        have hD : va_D A (cW T ad S5) := hD
        obtain ⟨⟨i_vst, i_vc0, i_vc1, i_vc2, i_vc3, i_vv0, i_vv1, i_vv2, i_vv3, i_vg, i_wct, i_wln, i_sd0, i_sd1, i_sd2, i_sd3, i_rln, i_rtx, i_rpl, i_rtk, i_cnv, i_pts, i_cik, i_und⟩, kpcL_S5, kpcP_S5, kpcU_S5, kpcW_S5⟩ := hw10
        have kScL_S5 : kcL S S5 := kcL_t (show kcL S S3 from kScL_S3) kpcL_S5
        have kScP_S5 : kcP S S5 := kcP_t (show kcP S S3 from kScP_S3) kpcP_S5
        have kScU_S5 : kcU S S5 := kcU_t (show kcU S S3 from kScU_S3) kpcU_S5
        have kScW_S5 : kcW S S5 := kcW_t (show kcW S S3 from kScW_S3) kpcW_S5
        have nxr_length_S5 : (f_xr_length S5).toInt = (f_xr_length S3).toInt := congrArg Int32.toInt kpcL_S5
        have nxr_length_S5 : (f_xr_length S5).toInt = (f_xr_length S3).toInt := congrArg Int32.toInt kpcP_S5.1
        have nxr_place_S5 : (f_xr_place S5).toInt = (f_xr_place S3).toInt := congrArg Int32.toInt kpcP_S5.2.1
        have nxe_underWay_S5 : (f_xe_underWay S5).toInt = (f_xe_underWay S3).toInt := congrArg Int32.toInt kpcU_S5
        have nxp_columns_S5 : (f_xp_columns S5).toInt = (f_xp_columns S3).toInt := congrArg Int32.toInt kpcW_S5.1
        have nxp_rows_S5 : (f_xp_rows S5).toInt = (f_xp_rows S3).toInt := congrArg Int32.toInt kpcW_S5.2
        have rrv10 := zt_rng rv10
        refine lv_istore (lv' := [(4, .int rv10), (5, .int i), (3, .int (f_xe_reach S1)), (2, .int rv2), (1, .int rv1), (0, .ref (ad 72))]) hx hb d_Engine_runForAll_111 hl (by decide) rfl (fun ls hl => ?_)
        refine lv_iload hx hb d_Engine_runForAll_113 (lv_at hl 0 rfl) ?_
        refine lv_if_ne (tgt := 125) hx hb d_Engine_runForAll_115 (by decide) (fun c115_2 => ?_) (fun c115_2 => ?_)
        · first | have fc115_2 : rv10.toInt < 0 := (by have := zt_ne (show rv10.toInt = _ from rfl) tI_0 c115_2; omega) | have fc115_2 : 0 < rv10.toInt := (by have := zt_ne (show rv10.toInt = _ from rfl) tI_0 c115_2; omega) | skip
          refine lv_iinc (v := (i + 1)) (lv' := [(5, .int (i + 1)), (4, .int rv10), (3, .int (f_xe_reach S1)), (2, .int rv2), (1, .int rv1), (0, .ref (ad 72))]) hx hb d_Engine_runForAll_125 hl (k := 1) rfl (by first | rfl | decide) (by decide) rfl (fun ls hl => ?_)
          obtain ⟨x7, ex7⟩ : ∃ z, z = (i + 1) := ⟨_, rfl⟩
          rw [← ex7] at hl
          have fx7 : x7.toInt = (i.toInt + 1) := by rw [ex7]; exact (zt_add (show i.toInt = _ from rfl) tI_1 (by omega) (by omega)).trans (by omega)
          have hl : lv_has ls 6 [(5, .int x7), (4, .int rv10), (3, .int (f_xe_reach S1)), (2, .int rv2), (1, .int rv1), (0, .ref (ad 72))] := hl
          refine lv_goto (tgt := 62) hx hb d_Engine_runForAll_128 (by decide) ?_
          exact ih (k - 1) (S5, rv10, x7) _ _ _ (by omega) ⟨(show 0 ≤ x7.toInt ∧ x7.toInt ≤ 256 ∧ 256 ≤ x7.toInt + (((k - 1) : Nat) : Int) by omega), ⟨i_vst, i_vc0, i_vc1, i_vc2, i_vc3, i_vv0, i_vv1, i_vv2, i_vv3, i_vg, i_wct, i_wln, i_sd0, i_sd1, i_sd2, i_sd3, i_rln, i_rtx, i_rpl, i_rtk, i_cnv, i_pts, i_cik, i_und⟩, (show kcL S S5 from kScL_S5), (show kcP S S5 from kScP_S5), (show kcU S S5 from kScU_S5), (show kcW S S5 from kScW_S5), hP, hD, hS, lv_sub hl [0, 1, 2, 3, 4, 5] rfl⟩
        · have fc115_2 : rv10.toInt = 0 := zt_eq (show rv10.toInt = _ from rfl) tI_0 c115_2
          refine lv_aload_n hx hb d_Engine_runForAll_118 rfl (lv_at hl 5 rfl) ?_
          refine lv_iload_n hx hb d_Engine_runForAll_119 rfl (lv_at hl 3 rfl) ?_
          refine jc_ci (w := (fun u => u)) hK hP hD hS hA (va_runV (As := [.int rv2]) (rest := []) F (c_Engine_runArray l D T ad g Bq d hdv S5 rv2  H.size ⟨i_vst, i_vc0, i_vc1, i_vc2, i_vc3, i_vv0, i_vv1, i_vv2, i_vv3, i_vg, i_wct, i_wln, i_sd0, i_sd1, i_sd2, i_sd3, i_rln, i_rtx, i_rpl, i_rtk, i_cnv, i_pts, i_cik, i_und⟩ (show 8 ≤ (f_xe_underWay S5).toInt + d by omega)) (j_cV (k := 1) (C := "PageScribe$Engine") hts k_5_203 k_1_9 k_5_200 k_5_202 k_0_68 (by decide +kernel) ⟨by dsimp only; omega, by dsimp only; omega⟩) (j_preV (q0 := 72) (ci := 7) hK hP hD csc csc_all csc_nd cl_7 (ce_72 _ _ _) (fun _ _ _ _ h => EC.calling h) (fun U hU hW => EC.at hS hAB hU hW hE)) rfl rfl hl.1 rfl (lv_room (Nat.le_of_ble_eq_true rfl)) d_Engine_runForAll_120 ⟨Nat.le_of_ble_eq_true rfl, Nat.le_of_ble_eq_true rfl⟩) (fun rv11 S6 H locs hw11 hP hD hS => ?_)
          have hP : va_P D classes (cW T ad S6) H := hP
          have hD : va_D A (cW T ad S6) := hD
          obtain ⟨⟨i_vst, i_vc0, i_vc1, i_vc2, i_vc3, i_vv0, i_vv1, i_vv2, i_vv3, i_vg, i_wct, i_wln, i_sd0, i_sd1, i_sd2, i_sd3, i_rln, i_rtx, i_rpl, i_rtk, i_cnv, i_pts, i_cik, i_und⟩, kpcL_S6, kpcP_S6, kpcU_S6, kpcW_S6⟩ := hw11
          have kScL_S6 : kcL S S6 := kcL_t (show kcL S S5 from kScL_S5) kpcL_S6
          have kScP_S6 : kcP S S6 := kcP_t (show kcP S S5 from kScP_S5) kpcP_S6
          have kScU_S6 : kcU S S6 := kcU_t (show kcU S S5 from kScU_S5) kpcU_S6
          have kScW_S6 : kcW S S6 := kcW_t (show kcW S S5 from kScW_S5) kpcW_S6
          have nxr_length_S6 : (f_xr_length S6).toInt = (f_xr_length S5).toInt := congrArg Int32.toInt kpcL_S6
          have nxr_length_S6 : (f_xr_length S6).toInt = (f_xr_length S5).toInt := congrArg Int32.toInt kpcP_S6.1
          have nxr_place_S6 : (f_xr_place S6).toInt = (f_xr_place S5).toInt := congrArg Int32.toInt kpcP_S6.2.1
          have nxe_underWay_S6 : (f_xe_underWay S6).toInt = (f_xe_underWay S5).toInt := congrArg Int32.toInt kpcU_S6
          have nxp_columns_S6 : (f_xp_columns S6).toInt = (f_xp_columns S5).toInt := congrArg Int32.toInt kpcW_S6.1
          have nxp_rows_S6 : (f_xp_rows S6).toInt = (f_xp_rows S5).toInt := congrArg Int32.toInt kpcW_S6.2
          have rrv11 := zt_rng rv11
          refine lv_istore (lv' := [(4, .int rv11), (5, .int i), (3, .int (f_xe_reach S1)), (2, .int rv2), (1, .int rv1), (0, .ref (ad 72))]) hx hb d_Engine_runForAll_123 hl (by decide) rfl (fun ls hl => ?_)
          refine lv_iinc (v := (i + 1)) (lv' := [(5, .int (i + 1)), (4, .int rv11), (3, .int (f_xe_reach S1)), (2, .int rv2), (1, .int rv1), (0, .ref (ad 72))]) hx hb d_Engine_runForAll_125 hl (k := 1) rfl (by first | rfl | decide) (by decide) rfl (fun ls hl => ?_)
          obtain ⟨x8, ex8⟩ : ∃ z, z = (i + 1) := ⟨_, rfl⟩
          rw [← ex8] at hl
          have fx8 : x8.toInt = (i.toInt + 1) := by rw [ex8]; exact (zt_add (show i.toInt = _ from rfl) tI_1 (by omega) (by omega)).trans (by omega)
          have hl : lv_has ls 6 [(5, .int x8), (4, .int rv11), (3, .int (f_xe_reach S1)), (2, .int rv2), (1, .int rv1), (0, .ref (ad 72))] := hl
          refine lv_goto (tgt := 62) hx hb d_Engine_runForAll_128 (by decide) ?_
          exact ih (k - 1) (S6, rv11, x8) _ _ _ (by omega) ⟨(show 0 ≤ x8.toInt ∧ x8.toInt ≤ 256 ∧ 256 ≤ x8.toInt + (((k - 1) : Nat) : Int) by omega), ⟨i_vst, i_vc0, i_vc1, i_vc2, i_vc3, i_vv0, i_vv1, i_vv2, i_vv3, i_vg, i_wct, i_wln, i_sd0, i_sd1, i_sd2, i_sd3, i_rln, i_rtx, i_rpl, i_rtk, i_cnv, i_pts, i_cik, i_und⟩, (show kcL S S6 from kScL_S6), (show kcP S S6 from kScP_S6), (show kcU S S6 from kScU_S6), (show kcW S S6 from kScW_S6), hP, hD, hS, lv_sub hl [0, 1, 2, 3, 4, 5] rfl⟩
theorem d_Engine_runStopped_0 : decode prog_4_method_19_code 0 = .ok (.aload_n 0, 1) := by decide +kernel
theorem d_Engine_runStopped_1 : decode prog_4_method_19_code 1 = .ok (.getfield 27, 3) := by decide +kernel
theorem d_Engine_runStopped_4 : decode prog_4_method_19_code 4 = .ok (.istore_n 1, 1) := by decide +kernel
theorem d_Engine_runStopped_5 : decode prog_4_method_19_code 5 = .ok (.aload_n 0, 1) := by decide +kernel
theorem d_Engine_runStopped_6 : decode prog_4_method_19_code 6 = .ok (.iconst 0, 1) := by decide +kernel
theorem d_Engine_runStopped_7 : decode prog_4_method_19_code 7 = .ok (.putfield 27, 3) := by decide +kernel
theorem d_Engine_runStopped_10 : decode prog_4_method_19_code 10 = .ok (.aload_n 0, 1) := by decide +kernel
theorem d_Engine_runStopped_11 : decode prog_4_method_19_code 11 = .ok (.invokevirtual 185, 3) := by decide +kernel
theorem k_5_195 : Cond.code ⟨"PageScribe$Engine", "execute", "()I"⟩ prog_4_method_11_code 5 (some .int) ∈ gw := gw_of (tb_5 (List.mem_of_getElem? (i := 195) (by decide +kernel))) (by decide +kernel)
theorem k_5_192 : Cond.methodLink "PageScribe$Engine" 185 ⟨"PageScribe$Engine", "execute", "()I"⟩ ∈ gw := gw_of (tb_5 (List.mem_of_getElem? (i := 192) (by decide +kernel))) (by decide +kernel)
theorem k_5_194 : Cond.instanceMethod ⟨"PageScribe$Engine", "execute", "()I"⟩ ∈ gw := gw_of (tb_5 (List.mem_of_getElem? (i := 194) (by decide +kernel))) (by decide +kernel)
theorem k_0_67 : Cond.selects "PageScribe$Engine" ⟨"PageScribe$Engine", "execute", "()I"⟩ ⟨"PageScribe$Engine", "execute", "()I"⟩ ∈ gw := gw_of (tb_0 (List.mem_of_getElem? (i := 67) (by decide +kernel))) (by decide +kernel)
theorem d_Engine_runStopped_14 : decode prog_4_method_19_code 14 = .ok (.istore_n 2, 1) := by decide +kernel
theorem d_Engine_runStopped_15 : decode prog_4_method_19_code 15 = .ok (.aload_n 0, 1) := by decide +kernel
theorem d_Engine_runStopped_16 : decode prog_4_method_19_code 16 = .ok (.iload_n 1, 1) := by decide +kernel
theorem d_Engine_runStopped_17 : decode prog_4_method_19_code 17 = .ok (.putfield 27, 3) := by decide +kernel
theorem d_Engine_runStopped_20 : decode prog_4_method_19_code 20 = .ok (.iload_n 2, 1) := by decide +kernel
theorem d_Engine_runStopped_21 : decode prog_4_method_19_code 21 = .ok (.bipush 16, 2) := by decide +kernel
theorem d_Engine_runStopped_23 : decode prog_4_method_19_code 23 = .ok (.if_icmp .ne 5, 3) := by decide +kernel
theorem d_Engine_runStopped_28 : decode prog_4_method_19_code 28 = .ok (.aload_n 0, 1) := by decide +kernel
theorem d_Engine_runStopped_29 : decode prog_4_method_19_code 29 = .ok (.iload_n 2, 1) := by decide +kernel
theorem d_Engine_runStopped_30 : decode prog_4_method_19_code 30 = .ok (.invokevirtual 233, 3) := by decide +kernel
theorem k_6_14 : Cond.code ⟨"PageScribe$Engine", "note", "(I)V"⟩ prog_4_method_3_code 2 none ∈ gw := gw_of (tb_6 (List.mem_of_getElem? (i := 14) (by decide +kernel))) (by decide +kernel)
theorem k_6_11 : Cond.methodLink "PageScribe$Engine" 233 ⟨"PageScribe$Engine", "note", "(I)V"⟩ ∈ gw := gw_of (tb_6 (List.mem_of_getElem? (i := 11) (by decide +kernel))) (by decide +kernel)
theorem k_6_12 : Cond.instanceMethod ⟨"PageScribe$Engine", "note", "(I)V"⟩ ∈ gw := gw_of (tb_6 (List.mem_of_getElem? (i := 12) (by decide +kernel))) (by decide +kernel)
theorem k_6_13 : Cond.selects "PageScribe$Engine" ⟨"PageScribe$Engine", "note", "(I)V"⟩ ⟨"PageScribe$Engine", "note", "(I)V"⟩ ∈ gw := gw_of (tb_6 (List.mem_of_getElem? (i := 13) (by decide +kernel))) (by decide +kernel)
theorem d_Engine_runStopped_33 : decode prog_4_method_19_code 33 = .ok (.aload_n 0, 1) := by decide +kernel
theorem d_Engine_runStopped_34 : decode prog_4_method_19_code 34 = .ok (.getfield 30, 3) := by decide +kernel
theorem d_Engine_runStopped_46 : decode prog_4_method_19_code 46 = .ok (.invokevirtual 236, 3) := by decide +kernel
theorem k_6_15 : Cond.methodLink "PageScribe$Engine" 236 ⟨"PageScribe$Stack", "pushFlag", "(Z)I"⟩ ∈ gw := gw_of (tb_6 (List.mem_of_getElem? (i := 15) (by decide +kernel))) (by decide +kernel)
theorem d_Engine_runStopped_49 : decode prog_4_method_19_code 49 = .ok (.ireturn, 1) := by decide +kernel
theorem d_Engine_runStopped_37 : decode prog_4_method_19_code 37 = .ok (.iload_n 2, 1) := by decide +kernel
theorem d_Engine_runStopped_38 : decode prog_4_method_19_code 38 = .ok (.ifCond .eq 7, 3) := by decide +kernel
theorem d_Engine_runStopped_45 : decode prog_4_method_19_code 45 = .ok (.iconst 0, 1) := by decide +kernel
theorem d_Engine_runStopped_41 : decode prog_4_method_19_code 41 = .ok (.iconst 1, 1) := by decide +kernel
theorem d_Engine_runStopped_42 : decode prog_4_method_19_code 42 = .ok (.goto 4, 3) := by decide +kernel
theorem d_Engine_runStopped_26 : decode prog_4_method_19_code 26 = .ok (.iload_n 2, 1) := by decide +kernel
theorem d_Engine_runStopped_27 : decode prog_4_method_19_code 27 = .ok (.ireturn, 1) := by decide +kernel
set_option maxHeartbeats 4000000 in
set_option maxRecDepth 100000 in
theorem c_Engine_runStopped (l : Launch) (D : va_G) (T : Nat → ClassId) (ad : Nat → Nat) (g : GE) (Bq : Nat → Prop) (d : Nat) (hdv : ∀ d2, d2 < d → DVP l D T ad g Bq d2) (S : CS)  (sz : Nat)  (hI : CIv S) (hd : 8 ≤ (f_xe_underWay S).toInt + d) : Met l ⟨"PageScribe$Engine", "runStopped", "()I"⟩ (wy ⟨"PageScribe$Engine", "runStopped", "()I"⟩ prog_4_method_19_code 3 (some .int)) ({ frames := 8 + 10 * d, cells := 0, slots := 0, locals := 70 * (8 + 10 * d) }) (va_Pc [.ref (ad 72)] (Pw D T (cW T ad S) sz (EC g Bq ad))) (va_Qi (fun (r : Int32) (u : CS) => CIv u ∧ kcL S u ∧ kcP S u ∧ kcU S u ∧ kcW S u) (fun u t => Bw D T (va_A (cW T ad S) sz) (cW T ad u) t) (va_A (cW T ad S) sz)) 0 0 (va_A (cW T ad S) sz) := by
  refine j_met (y := ⟨"PageScribe$Engine", "runStopped", "()I"⟩) (b := prog_4_method_19_code) (n := 3) (ret := (some .int)) (av := [.ref (ad 72)]) (Qc := fun A => va_Qi (fun (r : Int32) (u : CS) => CIv u ∧ kcL S u ∧ kcP S u ∧ kcU S u ∧ kcW S u) (fun u t => Bw D T A (cW T ad u) t) A) (by decide +kernel) (Nat.le_of_ble_eq_true rfl) (fun p e s m args below meth c A ls F hr hlocks hnm hK hP hD hS hA hN hE hl => ?_)
  obtain ⟨hx, hb, hml, hown, hts⟩ := id F
  have hl : lv_has ls 3 [(0, .ref (ad 72))] := hl
  obtain ⟨i_vst, i_vc0, i_vc1, i_vc2, i_vc3, i_vv0, i_vv1, i_vv2, i_vv3, i_vg, i_wct, i_wln, i_sd0, i_sd1, i_sd2, i_sd3, i_rln, i_rtx, i_rpl, i_rtk, i_cnv, i_pts, i_cik, i_und⟩ := id hI
  have hAB : ∀ q, A q → Bq q := EC.ab hE hN
  have hEV := hE.1.narrow hAB
  refine lv_aload_n hx hb d_Engine_runStopped_0 rfl (lv_at hl 0 rfl) ?_
  refine va_get (D := D) (ci := 7) (v := .int (f_xe_loops S)) (C := "PageScribe$Engine") (T := F_Engine) (N := 11) hx hb hts i_Engine hown hK hP 72 (ce_72 _ _ _) cl_7 10 (by decide) (hts _ k_2_34) (fun _ h9 => h9) rfl d_Engine_runStopped_1 ?_
  refine lv_istore_n (lv' := [(1, .int (f_xe_loops S)), (0, .ref (ad 72))]) hx hb d_Engine_runStopped_4 rfl hl (by decide) rfl (fun ls hl => ?_)
  refine lv_aload_n hx hb d_Engine_runStopped_5 rfl (lv_at hl 1 rfl) ?_
  refine lv_iconst (v := 0) hx hb d_Engine_runStopped_6 (by decide) ?_
  refine va_put (D := D) (ci := 7) (v := .int 0) (ty := .int) (C := "PageScribe$Engine") (T := F_Engine) (N := 11) hx hb hts i_Engine t_Engine t_Engine_ok n_Engine hown hK hP hD hS 72 (ce_72 _ _ _) cl_7 10 (by decide) (hts _ k_2_34) (fun _ h9 => h9) rfl (by decide +kernel) rfl rfl (Nat.le_of_ble_eq_true rfl) d_Engine_runStopped_7 (fun H locs hP hD hS => ?_)
  rw [cp_xe_loops] at hP hD
  have hP : va_P D classes (cW T ad ((S.1, S.2.1, S.2.2.1, S.2.2.2.1, S.2.2.2.2.1, S.2.2.2.2.2.1, S.2.2.2.2.2.2.1, S.2.2.2.2.2.2.2.1, ((f_xe_fuelGiven S), (f_xe_stepsDone S), (f_xe_latestFault S), (f_xe_underWay S), (f_xe_reach S), 0)) : CS)) H := hP
  have hD : va_D A (cW T ad ((S.1, S.2.1, S.2.2.1, S.2.2.2.1, S.2.2.2.2.1, S.2.2.2.2.2.1, S.2.2.2.2.2.2.1, S.2.2.2.2.2.2.2.1, ((f_xe_fuelGiven S), (f_xe_stepsDone S), (f_xe_latestFault S), (f_xe_underWay S), (f_xe_reach S), 0)) : CS)) := hD
  refine lv_aload_n hx hb d_Engine_runStopped_10 rfl (lv_at hl 1 rfl) ?_
  refine jc_ci (w := (fun u => u)) hK hP hD hS hA (va_runV (As := []) (rest := []) F (c_Engine_execute l D T ad g Bq d hdv ((S.1, S.2.1, S.2.2.1, S.2.2.2.1, S.2.2.2.2.1, S.2.2.2.2.2.1, S.2.2.2.2.2.2.1, S.2.2.2.2.2.2.2.1, ((f_xe_fuelGiven S), (f_xe_stepsDone S), (f_xe_latestFault S), (f_xe_underWay S), (f_xe_reach S), 0)) : CS)  H.size ⟨i_vst, i_vc0, i_vc1, i_vc2, i_vc3, i_vv0, i_vv1, i_vv2, i_vv3, i_vg, i_wct, i_wln, i_sd0, i_sd1, i_sd2, i_sd3, i_rln, i_rtx, i_rpl, i_rtk, i_cnv, i_pts, i_cik, i_und⟩ (show 8 ≤ (f_xe_underWay S).toInt + d by have := tI_0; omega)) (j_cV (k := 0) (C := "PageScribe$Engine") hts k_5_195 k_1_9 k_5_192 k_5_194 k_0_67 (by decide +kernel) ⟨by dsimp only; omega, by dsimp only; omega⟩) (j_preV (q0 := 72) (ci := 7) hK hP hD csc csc_all csc_nd cl_7 (ce_72 _ _ _) (fun _ _ _ _ h => EC.calling h) (fun U hU hW => EC.at hS hAB hU hW hE)) rfl rfl hl.1 rfl (lv_room (Nat.le_of_ble_eq_true rfl)) d_Engine_runStopped_11 ⟨Nat.le_of_ble_eq_true rfl, Nat.le_of_ble_eq_true rfl⟩) (fun rv1 S1 H locs hw1 hP hD hS => ?_)
  have hP : va_P D classes (cW T ad S1) H := hP
  have hD : va_D A (cW T ad S1) := hD
  obtain ⟨⟨i_vst, i_vc0, i_vc1, i_vc2, i_vc3, i_vv0, i_vv1, i_vv2, i_vv3, i_vg, i_wct, i_wln, i_sd0, i_sd1, i_sd2, i_sd3, i_rln, i_rtx, i_rpl, i_rtk, i_cnv, i_pts, i_cik, i_und⟩, kpcL_S1, kpcP_S1, kpcU_S1, kpcW_S1⟩ := hw1
  have kScL_S1 : kcL S S1 := kcL_t (show kcL S ((S.1, S.2.1, S.2.2.1, S.2.2.2.1, S.2.2.2.2.1, S.2.2.2.2.2.1, S.2.2.2.2.2.2.1, S.2.2.2.2.2.2.2.1, ((f_xe_fuelGiven S), (f_xe_stepsDone S), (f_xe_latestFault S), (f_xe_underWay S), (f_xe_reach S), 0)) : CS) from (kcL_r S)) kpcL_S1
  have kScP_S1 : kcP S S1 := kcP_t (show kcP S ((S.1, S.2.1, S.2.2.1, S.2.2.2.1, S.2.2.2.2.1, S.2.2.2.2.2.1, S.2.2.2.2.2.2.1, S.2.2.2.2.2.2.2.1, ((f_xe_fuelGiven S), (f_xe_stepsDone S), (f_xe_latestFault S), (f_xe_underWay S), (f_xe_reach S), 0)) : CS) from (kcP_r S)) kpcP_S1
  have kScU_S1 : kcU S S1 := kcU_t (show kcU S ((S.1, S.2.1, S.2.2.1, S.2.2.2.1, S.2.2.2.2.1, S.2.2.2.2.2.1, S.2.2.2.2.2.2.1, S.2.2.2.2.2.2.2.1, ((f_xe_fuelGiven S), (f_xe_stepsDone S), (f_xe_latestFault S), (f_xe_underWay S), (f_xe_reach S), 0)) : CS) from (kcU_r S)) kpcU_S1
  have kScW_S1 : kcW S S1 := kcW_t (show kcW S ((S.1, S.2.1, S.2.2.1, S.2.2.2.1, S.2.2.2.2.1, S.2.2.2.2.2.1, S.2.2.2.2.2.2.1, S.2.2.2.2.2.2.2.1, ((f_xe_fuelGiven S), (f_xe_stepsDone S), (f_xe_latestFault S), (f_xe_underWay S), (f_xe_reach S), 0)) : CS) from (kcW_r S)) kpcW_S1
  have nxr_length_S1 : (f_xr_length S1).toInt = (f_xr_length S).toInt := congrArg Int32.toInt kpcL_S1
  have nxr_length_S1 : (f_xr_length S1).toInt = (f_xr_length S).toInt := congrArg Int32.toInt kpcP_S1.1
  have nxr_place_S1 : (f_xr_place S1).toInt = (f_xr_place S).toInt := congrArg Int32.toInt kpcP_S1.2.1
  have nxe_underWay_S1 : (f_xe_underWay S1).toInt = (f_xe_underWay S).toInt := congrArg Int32.toInt kpcU_S1
  have nxp_columns_S1 : (f_xp_columns S1).toInt = (f_xp_columns S).toInt := congrArg Int32.toInt kpcW_S1.1
  have nxp_rows_S1 : (f_xp_rows S1).toInt = (f_xp_rows S).toInt := congrArg Int32.toInt kpcW_S1.2
  have rrv1 := zt_rng rv1
  refine lv_istore_n (lv' := [(2, .int rv1), (1, .int (f_xe_loops S)), (0, .ref (ad 72))]) hx hb d_Engine_runStopped_14 rfl hl (by decide) rfl (fun ls hl => ?_)
  refine lv_aload_n hx hb d_Engine_runStopped_15 rfl (lv_at hl 2 rfl) ?_
  refine lv_iload_n hx hb d_Engine_runStopped_16 rfl (lv_at hl 1 rfl) ?_
  refine va_put (D := D) (ci := 7) (v := .int (f_xe_loops S)) (ty := .int) (C := "PageScribe$Engine") (T := F_Engine) (N := 11) hx hb hts i_Engine t_Engine t_Engine_ok n_Engine hown hK hP hD hS 72 (ce_72 _ _ _) cl_7 10 (by decide) (hts _ k_2_34) (fun _ h9 => h9) rfl (by decide +kernel) rfl rfl (Nat.le_of_ble_eq_true rfl) d_Engine_runStopped_17 (fun H locs hP hD hS => ?_)
  rw [cp_xe_loops] at hP hD
  have hP : va_P D classes (cW T ad ((S1.1, S1.2.1, S1.2.2.1, S1.2.2.2.1, S1.2.2.2.2.1, S1.2.2.2.2.2.1, S1.2.2.2.2.2.2.1, S1.2.2.2.2.2.2.2.1, ((f_xe_fuelGiven S1), (f_xe_stepsDone S1), (f_xe_latestFault S1), (f_xe_underWay S1), (f_xe_reach S1), (f_xe_loops S))) : CS)) H := hP
  have hD : va_D A (cW T ad ((S1.1, S1.2.1, S1.2.2.1, S1.2.2.2.1, S1.2.2.2.2.1, S1.2.2.2.2.2.1, S1.2.2.2.2.2.2.1, S1.2.2.2.2.2.2.2.1, ((f_xe_fuelGiven S1), (f_xe_stepsDone S1), (f_xe_latestFault S1), (f_xe_underWay S1), (f_xe_reach S1), (f_xe_loops S))) : CS)) := hD
  refine lv_iload_n hx hb d_Engine_runStopped_20 rfl (lv_at hl 0 rfl) ?_
  refine lv_bipush (v := 16) hx hb d_Engine_runStopped_21 (by decide) ?_
  refine lv_icmp_ne (tgt := 28) hx hb d_Engine_runStopped_23 (by decide) (fun c23_1 => ?_) (fun c23_1 => ?_)
  · first | have fc23_1 : rv1.toInt < 16 := (by have := zt_ne (show rv1.toInt = _ from rfl) tI_16 c23_1; omega) | have fc23_1 : 16 < rv1.toInt := (by have := zt_ne (show rv1.toInt = _ from rfl) tI_16 c23_1; omega) | skip
    refine lv_aload_n hx hb d_Engine_runStopped_28 rfl (lv_at hl 2 rfl) ?_
    refine lv_iload_n hx hb d_Engine_runStopped_29 rfl (lv_at hl 0 rfl) ?_
    refine jc_cv (w := (fun u => u)) hK hP hD hS hA (va_runV (As := [.int rv1]) (rest := []) F (c_Engine_note l D T ad ((S1.1, S1.2.1, S1.2.2.1, S1.2.2.2.1, S1.2.2.2.2.1, S1.2.2.2.2.2.1, S1.2.2.2.2.2.2.1, S1.2.2.2.2.2.2.2.1, ((f_xe_fuelGiven S1), (f_xe_stepsDone S1), (f_xe_latestFault S1), (f_xe_underWay S1), (f_xe_reach S1), (f_xe_loops S))) : CS) rv1  H.size ⟨i_vst, i_vc0, i_vc1, i_vc2, i_vc3, i_vv0, i_vv1, i_vv2, i_vv3, i_vg, i_wct, i_wln, i_sd0, i_sd1, i_sd2, i_sd3, i_rln, i_rtx, i_rpl, i_rtk, i_cnv, i_pts, i_cik, i_und⟩) (j_cV (k := 1) (C := "PageScribe$Engine") hts k_6_14 k_1_9 k_6_11 k_6_12 k_6_13 (by decide +kernel) ⟨by dsimp only; omega, by dsimp only; omega⟩) (j_preV (q0 := 72) (ci := 7) hK hP hD csc csc_all csc_nd cl_7 (ce_72 _ _ _) (fun _ _ _ _ h => h) (fun _ _ _ => trivial)) rfl rfl hl.1 rfl (lv_room (Nat.le_of_ble_eq_true rfl)) d_Engine_runStopped_30 ⟨Nat.le_of_ble_eq_true rfl, Nat.le_of_ble_eq_true rfl⟩) (fun S2 H locs hw2 hP hD hS => ?_)
    have hP : va_P D classes (cW T ad S2) H := hP
    have hD : va_D A (cW T ad S2) := hD
    obtain ⟨⟨i_vst, i_vc0, i_vc1, i_vc2, i_vc3, i_vv0, i_vv1, i_vv2, i_vv3, i_vg, i_wct, i_wln, i_sd0, i_sd1, i_sd2, i_sd3, i_rln, i_rtx, i_rpl, i_rtk, i_cnv, i_pts, i_cik, i_und⟩, kpcL_S2, kpcP_S2, kpcU_S2, kpcW_S2⟩ := hw2
    have kScL_S2 : kcL S S2 := kcL_t (show kcL S ((S1.1, S1.2.1, S1.2.2.1, S1.2.2.2.1, S1.2.2.2.2.1, S1.2.2.2.2.2.1, S1.2.2.2.2.2.2.1, S1.2.2.2.2.2.2.2.1, ((f_xe_fuelGiven S1), (f_xe_stepsDone S1), (f_xe_latestFault S1), (f_xe_underWay S1), (f_xe_reach S1), (f_xe_loops S))) : CS) from kScL_S1) kpcL_S2
    have kScP_S2 : kcP S S2 := kcP_t (show kcP S ((S1.1, S1.2.1, S1.2.2.1, S1.2.2.2.1, S1.2.2.2.2.1, S1.2.2.2.2.2.1, S1.2.2.2.2.2.2.1, S1.2.2.2.2.2.2.2.1, ((f_xe_fuelGiven S1), (f_xe_stepsDone S1), (f_xe_latestFault S1), (f_xe_underWay S1), (f_xe_reach S1), (f_xe_loops S))) : CS) from kScP_S1) kpcP_S2
    have kScU_S2 : kcU S S2 := kcU_t (show kcU S ((S1.1, S1.2.1, S1.2.2.1, S1.2.2.2.1, S1.2.2.2.2.1, S1.2.2.2.2.2.1, S1.2.2.2.2.2.2.1, S1.2.2.2.2.2.2.2.1, ((f_xe_fuelGiven S1), (f_xe_stepsDone S1), (f_xe_latestFault S1), (f_xe_underWay S1), (f_xe_reach S1), (f_xe_loops S))) : CS) from kScU_S1) kpcU_S2
    have kScW_S2 : kcW S S2 := kcW_t (show kcW S ((S1.1, S1.2.1, S1.2.2.1, S1.2.2.2.1, S1.2.2.2.2.1, S1.2.2.2.2.2.1, S1.2.2.2.2.2.2.1, S1.2.2.2.2.2.2.2.1, ((f_xe_fuelGiven S1), (f_xe_stepsDone S1), (f_xe_latestFault S1), (f_xe_underWay S1), (f_xe_reach S1), (f_xe_loops S))) : CS) from kScW_S1) kpcW_S2
    have nxr_length_S2 : (f_xr_length S2).toInt = (f_xr_length S1).toInt := congrArg Int32.toInt kpcL_S2
    have nxr_length_S2 : (f_xr_length S2).toInt = (f_xr_length S1).toInt := congrArg Int32.toInt kpcP_S2.1
    have nxr_place_S2 : (f_xr_place S2).toInt = (f_xr_place S1).toInt := congrArg Int32.toInt kpcP_S2.2.1
    have nxe_underWay_S2 : (f_xe_underWay S2).toInt = (f_xe_underWay S1).toInt := congrArg Int32.toInt kpcU_S2
    have nxp_columns_S2 : (f_xp_columns S2).toInt = (f_xp_columns S1).toInt := congrArg Int32.toInt kpcW_S2.1
    have nxp_rows_S2 : (f_xp_rows S2).toInt = (f_xp_rows S1).toInt := congrArg Int32.toInt kpcW_S2.2
    refine lv_aload_n hx hb d_Engine_runStopped_33 rfl (lv_at hl 2 rfl) ?_
    refine va_get (D := D) (ci := 7) (v := .ref (ad 1)) (C := "PageScribe$Engine") (T := F_Engine) (N := 11) hx hb hts i_Engine hown hK hP 72 (ce_72 _ _ _) cl_7 0 (by decide) (hts _ k_2_22) (fun _ h9 => h9) rfl d_Engine_runStopped_34 ?_
    refine j_joinH (α := Int32) (fun x H locs ls => (True) ∧ va_P D classes (cW T ad S2) H ∧ va_D A (cW T ad S2) ∧ va_S A s.heap H locs ∧ lv_has ls 3 [(2, .int rv1), (1, .int (f_xe_loops S)), (0, .ref (ad 72))]) (fun x ls => F0 m 46 ls (.int x :: [.ref (ad 1)])) (fun x H locs ls hI9 => ?_) (fun key1 => ?_)
    · obtain ⟨j1, rfl⟩ : ∃ z, z = x := ⟨_, rfl⟩
      obtain ⟨hj1, hP, hD, hS, hl⟩ := hI9
      have hP : va_P D classes (cW T ad S2) H := hP
      have hD : va_D A (cW T ad S2) := hD
      have hl : lv_has ls 3 [(2, .int rv1), (1, .int (f_xe_loops S)), (0, .ref (ad 72))] := hl
      refine jc_ci (w := (fun u => u)) hK hP hD hS hA (va_runV (As := [.int j1]) (rest := []) F (c_Stack_pushFlag l D T ad S2 j1  H.size ⟨i_vst, i_vc0, i_vc1, i_vc2, i_vc3, i_vv0, i_vv1, i_vv2, i_vv3, i_vg, i_wct, i_wln, i_sd0, i_sd1, i_sd2, i_sd3, i_rln, i_rtx, i_rpl, i_rtk, i_cnv, i_pts, i_cik, i_und⟩) (j_cV (k := 1) (C := "PageScribe$Stack") hts k_4_179 k_1_3 k_6_15 k_4_177 k_4_178 (by decide +kernel) ⟨by dsimp only; omega, by dsimp only; omega⟩) (j_preV (q0 := 1) (ci := 0) hK hP hD csc csc_all csc_nd cl_0 (ce_1 _ _ _) (fun _ _ _ _ h => h) (fun _ _ _ => trivial)) rfl rfl hl.1 rfl (lv_room (Nat.le_of_ble_eq_true rfl)) d_Engine_runStopped_46 ⟨Nat.le_of_ble_eq_true rfl, Nat.le_of_ble_eq_true rfl⟩) (fun rv3 S3 H locs hw3 hP hD hS => ?_)
      have hP : va_P D classes (cW T ad S3) H := hP
      have hD : va_D A (cW T ad S3) := hD
      obtain ⟨⟨i_vst, i_vc0, i_vc1, i_vc2, i_vc3, i_vv0, i_vv1, i_vv2, i_vv3, i_vg, i_wct, i_wln, i_sd0, i_sd1, i_sd2, i_sd3, i_rln, i_rtx, i_rpl, i_rtk, i_cnv, i_pts, i_cik, i_und⟩, kpcL_S3, kpcP_S3, kpcU_S3, kpcW_S3⟩ := hw3
      have kScL_S3 : kcL S S3 := kcL_t (show kcL S S2 from kScL_S2) kpcL_S3
      have kScP_S3 : kcP S S3 := kcP_t (show kcP S S2 from kScP_S2) kpcP_S3
      have kScU_S3 : kcU S S3 := kcU_t (show kcU S S2 from kScU_S2) kpcU_S3
      have kScW_S3 : kcW S S3 := kcW_t (show kcW S S2 from kScW_S2) kpcW_S3
      have nxr_length_S3 : (f_xr_length S3).toInt = (f_xr_length S2).toInt := congrArg Int32.toInt kpcL_S3
      have nxr_length_S3 : (f_xr_length S3).toInt = (f_xr_length S2).toInt := congrArg Int32.toInt kpcP_S3.1
      have nxr_place_S3 : (f_xr_place S3).toInt = (f_xr_place S2).toInt := congrArg Int32.toInt kpcP_S3.2.1
      have nxe_underWay_S3 : (f_xe_underWay S3).toInt = (f_xe_underWay S2).toInt := congrArg Int32.toInt kpcU_S3
      have nxp_columns_S3 : (f_xp_columns S3).toInt = (f_xp_columns S2).toInt := congrArg Int32.toInt kpcW_S3.1
      have nxp_rows_S3 : (f_xp_rows S3).toInt = (f_xp_rows S2).toInt := congrArg Int32.toInt kpcW_S3.2
      have rrv3 := zt_rng rv3
      exact j_iret F hr hlocks hK hS S3 ⟨⟨i_vst, i_vc0, i_vc1, i_vc2, i_vc3, i_vv0, i_vv1, i_vv2, i_vv3, i_vg, i_wct, i_wln, i_sd0, i_sd1, i_sd2, i_sd3, i_rln, i_rtx, i_rpl, i_rtk, i_cnv, i_pts, i_cik, i_und⟩, kScL_S3, kScP_S3, kScU_S3, kScW_S3⟩ hP hD d_Engine_runStopped_49
    · refine lv_iload_n hx hb d_Engine_runStopped_37 rfl (lv_at hl 0 rfl) ?_
      refine lv_if_eq (tgt := 45) hx hb d_Engine_runStopped_38 (by decide) (fun c38_1 => ?_) (fun c38_1 => ?_)
      · have fc38_1 : rv1.toInt = 0 := zt_eq (show rv1.toInt = _ from rfl) tI_0 c38_1
        refine lv_iconst (v := 0) hx hb d_Engine_runStopped_45 (by decide) ?_
        exact key1 (0 : Int32) _ _ _ ⟨trivial, hP, hD, hS, lv_sub hl [0, 1, 2] rfl⟩
      · first | have fc38_1 : rv1.toInt < 0 := (by have := zt_ne (show rv1.toInt = _ from rfl) tI_0 c38_1; omega) | have fc38_1 : 0 < rv1.toInt := (by have := zt_ne (show rv1.toInt = _ from rfl) tI_0 c38_1; omega) | skip
        refine lv_iconst (v := 1) hx hb d_Engine_runStopped_41 (by decide) ?_
        refine lv_goto (tgt := 46) hx hb d_Engine_runStopped_42 (by decide) ?_
        exact key1 (1 : Int32) _ _ _ ⟨trivial, hP, hD, hS, lv_sub hl [0, 1, 2] rfl⟩
  · have fc23_1 : rv1.toInt = 16 := zt_eq (show rv1.toInt = _ from rfl) tI_16 c23_1
    refine lv_iload_n hx hb d_Engine_runStopped_26 rfl (lv_at hl 0 rfl) ?_
    exact j_iret F hr hlocks hK hS ((S1.1, S1.2.1, S1.2.2.1, S1.2.2.2.1, S1.2.2.2.2.1, S1.2.2.2.2.2.1, S1.2.2.2.2.2.2.1, S1.2.2.2.2.2.2.2.1, ((f_xe_fuelGiven S1), (f_xe_stepsDone S1), (f_xe_latestFault S1), (f_xe_underWay S1), (f_xe_reach S1), (f_xe_loops S))) : CS) ⟨⟨i_vst, i_vc0, i_vc1, i_vc2, i_vc3, i_vv0, i_vv1, i_vv2, i_vv3, i_vg, i_wct, i_wln, i_sd0, i_sd1, i_sd2, i_sd3, i_rln, i_rtx, i_rpl, i_rtk, i_cnv, i_pts, i_cik, i_und⟩, kScL_S1, kScP_S1, kScU_S1, kScW_S1⟩ hP hD d_Engine_runStopped_27
