theorem d_Memory_gather_0 : decode prog_5_method_3_code 0 = .ok (.aload_n 0, 1) := by decide +kernel
theorem d_Memory_gather_1 : decode prog_5_method_3_code 1 = .ok (.getfield 39, 3) := by decide +kernel
theorem d_Memory_gather_4 : decode prog_5_method_3_code 4 = .ok (.invokevirtual 87, 3) := by decide +kernel
theorem k_4_229 : Cond.methodLink "PageScribe$Memory" 87 ⟨"PageScribe$Stack", "aboveMark", "()I"⟩ ∈ gw := gw_of (tb_4 (List.mem_of_getElem? (i := 229) (by decide +kernel))) (by decide +kernel)
theorem d_Memory_gather_7 : decode prog_5_method_3_code 7 = .ok (.istore_n 1, 1) := by decide +kernel
theorem d_Memory_gather_8 : decode prog_5_method_3_code 8 = .ok (.iload_n 1, 1) := by decide +kernel
theorem d_Memory_gather_9 : decode prog_5_method_3_code 9 = .ok (.ifCond .ge 6, 3) := by decide +kernel
theorem d_Memory_gather_15 : decode prog_5_method_3_code 15 = .ok (.aload_n 0, 1) := by decide +kernel
theorem d_Memory_gather_16 : decode prog_5_method_3_code 16 = .ok (.getfield 12, 3) := by decide +kernel
theorem k_1_130 : Cond.fieldLink "PageScribe$Memory" 12 "PageScribe$Memory" "store" "LPageScribe$Store;" ∈ gw := gw_of (tb_1 (List.mem_of_getElem? (i := 130) (by decide +kernel))) (by decide +kernel)
theorem d_Memory_gather_19 : decode prog_5_method_3_code 19 = .ok (.aload_n 0, 1) := by decide +kernel
theorem d_Memory_gather_20 : decode prog_5_method_3_code 20 = .ok (.getfield 39, 3) := by decide +kernel
theorem d_Memory_gather_23 : decode prog_5_method_3_code 23 = .ok (.aload_n 0, 1) := by decide +kernel
theorem d_Memory_gather_24 : decode prog_5_method_3_code 24 = .ok (.getfield 39, 3) := by decide +kernel
theorem d_Memory_gather_27 : decode prog_5_method_3_code 27 = .ok (.getfield 90, 3) := by decide +kernel
theorem d_Memory_gather_30 : decode prog_5_method_3_code 30 = .ok (.iload_n 1, 1) := by decide +kernel
theorem d_Memory_gather_31 : decode prog_5_method_3_code 31 = .ok (.isub, 1) := by decide +kernel
theorem d_Memory_gather_32 : decode prog_5_method_3_code 32 = .ok (.iload_n 1, 1) := by decide +kernel
theorem d_Memory_gather_33 : decode prog_5_method_3_code 33 = .ok (.invokevirtual 93, 3) := by decide +kernel
theorem k_3_86 : Cond.code ⟨"PageScribe$Store", "newArray", "(LPageScribe$Row;II)I"⟩ prog_10_method_4_code 6 (some .int) ∈ gw := gw_of (tb_3 (List.mem_of_getElem? (i := 86) (by decide +kernel))) (by decide +kernel)
theorem k_4_230 : Cond.methodLink "PageScribe$Memory" 93 ⟨"PageScribe$Store", "newArray", "(LPageScribe$Row;II)I"⟩ ∈ gw := gw_of (tb_4 (List.mem_of_getElem? (i := 230) (by decide +kernel))) (by decide +kernel)
theorem k_3_84 : Cond.instanceMethod ⟨"PageScribe$Store", "newArray", "(LPageScribe$Row;II)I"⟩ ∈ gw := gw_of (tb_3 (List.mem_of_getElem? (i := 84) (by decide +kernel))) (by decide +kernel)
theorem k_3_85 : Cond.selects "PageScribe$Store" ⟨"PageScribe$Store", "newArray", "(LPageScribe$Row;II)I"⟩ ⟨"PageScribe$Store", "newArray", "(LPageScribe$Row;II)I"⟩ ∈ gw := gw_of (tb_3 (List.mem_of_getElem? (i := 85) (by decide +kernel))) (by decide +kernel)
theorem d_Memory_gather_36 : decode prog_5_method_3_code 36 = .ok (.istore_n 2, 1) := by decide +kernel
theorem d_Memory_gather_37 : decode prog_5_method_3_code 37 = .ok (.iload_n 2, 1) := by decide +kernel
theorem d_Memory_gather_38 : decode prog_5_method_3_code 38 = .ok (.ifCond .ge 6, 3) := by decide +kernel
theorem d_Memory_gather_44 : decode prog_5_method_3_code 44 = .ok (.aload_n 0, 1) := by decide +kernel
theorem d_Memory_gather_45 : decode prog_5_method_3_code 45 = .ok (.getfield 39, 3) := by decide +kernel
theorem d_Memory_gather_48 : decode prog_5_method_3_code 48 = .ok (.iload_n 1, 1) := by decide +kernel
theorem d_Memory_gather_49 : decode prog_5_method_3_code 49 = .ok (.iconst 1, 1) := by decide +kernel
theorem d_Memory_gather_50 : decode prog_5_method_3_code 50 = .ok (.iadd, 1) := by decide +kernel
theorem d_Memory_gather_51 : decode prog_5_method_3_code 51 = .ok (.invokevirtual 97, 3) := by decide +kernel
theorem k_4_231 : Cond.methodLink "PageScribe$Memory" 97 ⟨"PageScribe$Stack", "drop", "(I)V"⟩ ∈ gw := gw_of (tb_4 (List.mem_of_getElem? (i := 231) (by decide +kernel))) (by decide +kernel)
theorem d_Memory_gather_54 : decode prog_5_method_3_code 54 = .ok (.aload_n 0, 1) := by decide +kernel
theorem d_Memory_gather_55 : decode prog_5_method_3_code 55 = .ok (.getfield 39, 3) := by decide +kernel
theorem d_Memory_gather_58 : decode prog_5_method_3_code 58 = .ok (.iconst 5, 1) := by decide +kernel
theorem d_Memory_gather_59 : decode prog_5_method_3_code 59 = .ok (.iload_n 2, 1) := by decide +kernel
theorem d_Memory_gather_60 : decode prog_5_method_3_code 60 = .ok (.dconst 0, 1) := by decide +kernel
theorem d_Memory_gather_61 : decode prog_5_method_3_code 61 = .ok (.invokevirtual 101, 3) := by decide +kernel
theorem k_4_232 : Cond.methodLink "PageScribe$Memory" 101 ⟨"PageScribe$Stack", "push", "(IID)I"⟩ ∈ gw := gw_of (tb_4 (List.mem_of_getElem? (i := 232) (by decide +kernel))) (by decide +kernel)
theorem d_Memory_gather_64 : decode prog_5_method_3_code 64 = .ok (.ireturn, 1) := by decide +kernel
theorem d_Memory_gather_41 : decode prog_5_method_3_code 41 = .ok (.bipush 7, 2) := by decide +kernel
theorem d_Memory_gather_43 : decode prog_5_method_3_code 43 = .ok (.ireturn, 1) := by decide +kernel
theorem d_Memory_gather_12 : decode prog_5_method_3_code 12 = .ok (.bipush 9, 2) := by decide +kernel
theorem d_Memory_gather_14 : decode prog_5_method_3_code 14 = .ok (.ireturn, 1) := by decide +kernel
set_option maxHeartbeats 4000000 in
set_option maxRecDepth 100000 in
theorem c_Memory_gather (l : Launch) (D : va_G) (T : Nat → ClassId) (ad : Nat → Nat) (g : GE) (Bq : Nat → Prop) (S : CS)  (sz : Nat)  (hI : CIv S) : Met l ⟨"PageScribe$Memory", "gather", "()I"⟩ (wy ⟨"PageScribe$Memory", "gather", "()I"⟩ prog_5_method_3_code 3 (some .int)) ({ frames := 3, cells := 0, slots := 0, locals := 210 }) (va_Pc [.ref (ad 8)] (Pw D T (cW T ad S) sz (EC g Bq ad))) (va_Qi (fun (r : Int32) (u : CS) => CIv u ∧ kcL S u ∧ kcP S u ∧ kcU S u ∧ kcW S u) (fun u t => Bw D T (va_A (cW T ad S) sz) (cW T ad u) t) (va_A (cW T ad S) sz)) 0 0 (va_A (cW T ad S) sz) := by
  refine j_met (y := ⟨"PageScribe$Memory", "gather", "()I"⟩) (b := prog_5_method_3_code) (n := 3) (ret := (some .int)) (av := [.ref (ad 8)]) (Qc := fun A => va_Qi (fun (r : Int32) (u : CS) => CIv u ∧ kcL S u ∧ kcP S u ∧ kcU S u ∧ kcW S u) (fun u t => Bw D T A (cW T ad u) t) A) (by decide +kernel) (Nat.le_of_ble_eq_true rfl) (fun p e s m args below meth c A ls F hr hlocks hnm hK hP hD hS hA hN hE hl => ?_)
  obtain ⟨hx, hb, hml, hown, hts⟩ := id F
  have hl : lv_has ls 3 [(0, .ref (ad 8))] := hl
  obtain ⟨i_vst, i_vc0, i_vc1, i_vc2, i_vc3, i_vv0, i_vv1, i_vv2, i_vv3, i_vg, i_wct, i_wln, i_sd0, i_sd1, i_sd2, i_sd3, i_rln, i_rtx, i_rpl, i_rtk, i_cnv, i_pts, i_cik, i_und⟩ := id hI
  have hAB : ∀ q, A q → Bq q := EC.ab hE hN
  have hEV := hE.1.narrow hAB
  refine lv_aload_n hx hb d_Memory_gather_0 rfl (lv_at hl 0 rfl) ?_
  refine va_get (D := D) (ci := 2) (v := .ref (ad 1)) (C := "PageScribe$Memory") (T := F_Memory) (N := 8) hx hb hts i_Memory hown hK hP 8 (ce_8 _ _ _) cl_2 0 (by decide) (hts _ k_1_129) (fun _ h9 => h9) rfl d_Memory_gather_1 ?_
  refine jc_ci (w := (fun _ => S)) hK hP hD hS hA (va_runV (As := []) (rest := []) F (c_Stack_aboveMark l D T ad S  s.heap.size) (j_cV (k := 0) (C := "PageScribe$Stack") hts k_4_99 k_1_3 k_4_229 k_4_97 k_4_98 (by decide +kernel) ⟨Nat.le_of_ble_eq_true rfl, Nat.le_of_ble_eq_true rfl⟩) (j_preV (q0 := 1) (ci := 0) hK hP hD csc csc_all csc_nd cl_0 (ce_1 _ _ _) (fun _ _ _ _ h => h) (fun _ _ _ => trivial)) rfl rfl hl.1 rfl (lv_room (Nat.le_of_ble_eq_true rfl)) d_Memory_gather_4 ⟨Nat.le_of_ble_eq_true rfl, Nat.le_of_ble_eq_true rfl⟩) (fun rv1 u1 H locs hw1 hP hD hS => ?_)
  have hP : va_P D classes (cW T ad S) H := hP
  have hD : va_D A (cW T ad S) := hD
  have rrv1 := zt_rng rv1
  refine lv_istore_n (lv' := [(1, .int rv1), (0, .ref (ad 8))]) hx hb d_Memory_gather_7 rfl hl (by decide) rfl (fun ls hl => ?_)
  refine lv_iload_n hx hb d_Memory_gather_8 rfl (lv_at hl 0 rfl) ?_
  refine lv_if_ge (tgt := 15) hx hb d_Memory_gather_9 (by decide) (fun c9_1 => ?_) (fun c9_1 => ?_)
  · have fc9_1 : 0 ≤ rv1.toInt := zt_le tI_0 (show rv1.toInt = _ from rfl) c9_1
    refine lv_aload_n hx hb d_Memory_gather_15 rfl (lv_at hl 1 rfl) ?_
    refine va_get (D := D) (ci := 2) (v := .ref (ad 12)) (C := "PageScribe$Memory") (T := F_Memory) (N := 8) hx hb hts i_Memory hown hK hP 8 (ce_8 _ _ _) cl_2 1 (by decide) (hts _ k_1_130) (fun _ h9 => h9) rfl d_Memory_gather_16 ?_
    refine lv_aload_n hx hb d_Memory_gather_19 rfl (lv_at hl 1 rfl) ?_
    refine va_get (D := D) (ci := 2) (v := .ref (ad 1)) (C := "PageScribe$Memory") (T := F_Memory) (N := 8) hx hb hts i_Memory hown hK hP 8 (ce_8 _ _ _) cl_2 0 (by decide) (hts _ k_1_129) (fun _ h9 => h9) rfl d_Memory_gather_20 ?_
    refine lv_aload_n hx hb d_Memory_gather_23 rfl (lv_at hl 1 rfl) ?_
    refine va_get (D := D) (ci := 2) (v := .ref (ad 1)) (C := "PageScribe$Memory") (T := F_Memory) (N := 8) hx hb hts i_Memory hown hK hP 8 (ce_8 _ _ _) cl_2 0 (by decide) (hts _ k_1_129) (fun _ h9 => h9) rfl d_Memory_gather_24 ?_
    refine va_get (D := D) (ci := 0) (v := .int (f_xst_z S)) (C := "PageScribe$Stack") (T := F_Stack) (N := 4) hx hb hts i_Stack hown hK hP 1 (ce_1 _ _ _) cl_0 3 (by decide) (hts _ k_1_53) (fun x9 h9 => u_same (hts _ k_1_51) x9 h9) rfl d_Memory_gather_27 ?_
    refine lv_iload_n hx hb d_Memory_gather_30 rfl (lv_at hl 0 rfl) ?_
    refine lv_isub hx hb d_Memory_gather_31 ?_
    refine lv_topi (fun x1 ex1 => ?_)
    have rx1 := zt_rng x1
    refine lv_iload_n hx hb d_Memory_gather_32 rfl (lv_at hl 0 rfl) ?_
    refine jc_ci (w := (fun u => u)) hK hP hD hS hA (va_runV (As := [.ref (ad 1), .int x1, .int rv1]) (rest := []) F (c_Store_newArray_1 l D T ad g Bq S x1 rv1  H.size ⟨i_vst, i_vc0, i_vc1, i_vc2, i_vc3, i_vv0, i_vv1, i_vv2, i_vv3, i_vg, i_wct, i_wln, i_sd0, i_sd1, i_sd2, i_sd3, i_rln, i_rtx, i_rpl, i_rtk, i_cnv, i_pts, i_cik, i_und⟩) (j_cV (k := 3) (C := "PageScribe$Store") hts k_3_86 k_1_6 k_4_230 k_3_84 k_3_85 (by decide +kernel) ⟨Nat.le_of_ble_eq_true rfl, Nat.le_of_ble_eq_true rfl⟩) (j_preV (q0 := 12) (ci := 3) hK hP hD csc csc_all csc_nd cl_3 (ce_12 _ _ _) (fun _ _ _ _ h => EC.calling h) (fun U hU hW => EC.at hS hAB hU hW hE)) rfl rfl hl.1 rfl (lv_room (Nat.le_of_ble_eq_true rfl)) d_Memory_gather_33 ⟨Nat.le_of_ble_eq_true rfl, Nat.le_of_ble_eq_true rfl⟩) (fun rv2 S1 H locs hw2 hP hD hS => ?_)
    have hP : va_P D classes (cW T ad S1) H := hP
    have hD : va_D A (cW T ad S1) := hD
    obtain ⟨⟨i_vst, i_vc0, i_vc1, i_vc2, i_vc3, i_vv0, i_vv1, i_vv2, i_vv3, i_vg, i_wct, i_wln, i_sd0, i_sd1, i_sd2, i_sd3, i_rln, i_rtx, i_rpl, i_rtk, i_cnv, i_pts, i_cik, i_und⟩, kpcL_S1, kpcP_S1, kpcU_S1, kpcW_S1⟩ := hw2
    have kScL_S1 : kcL S S1 := kcL_t (show kcL S S from (kcL_r S)) kpcL_S1
    have kScP_S1 : kcP S S1 := kcP_t (show kcP S S from (kcP_r S)) kpcP_S1
    have kScU_S1 : kcU S S1 := kcU_t (show kcU S S from (kcU_r S)) kpcU_S1
    have kScW_S1 : kcW S S1 := kcW_t (show kcW S S from (kcW_r S)) kpcW_S1
    have nxr_length_S1 : (f_xr_length S1).toInt = (f_xr_length S).toInt := congrArg Int32.toInt kpcL_S1
    have nxr_length_S1 : (f_xr_length S1).toInt = (f_xr_length S).toInt := congrArg Int32.toInt kpcP_S1.1
    have nxr_place_S1 : (f_xr_place S1).toInt = (f_xr_place S).toInt := congrArg Int32.toInt kpcP_S1.2.1
    have nxe_underWay_S1 : (f_xe_underWay S1).toInt = (f_xe_underWay S).toInt := congrArg Int32.toInt kpcU_S1
    have nxp_columns_S1 : (f_xp_columns S1).toInt = (f_xp_columns S).toInt := congrArg Int32.toInt kpcW_S1.1
    have nxp_rows_S1 : (f_xp_rows S1).toInt = (f_xp_rows S).toInt := congrArg Int32.toInt kpcW_S1.2
    have rrv2 := zt_rng rv2
    refine lv_istore_n (lv' := [(2, .int rv2), (1, .int rv1), (0, .ref (ad 8))]) hx hb d_Memory_gather_36 rfl hl (by decide) rfl (fun ls hl => ?_)
    refine lv_iload_n hx hb d_Memory_gather_37 rfl (lv_at hl 0 rfl) ?_
    refine lv_if_ge (tgt := 44) hx hb d_Memory_gather_38 (by decide) (fun c38_1 => ?_) (fun c38_1 => ?_)
    · have fc38_1 : 0 ≤ rv2.toInt := zt_le tI_0 (show rv2.toInt = _ from rfl) c38_1
      refine lv_aload_n hx hb d_Memory_gather_44 rfl (lv_at hl 2 rfl) ?_
      refine va_get (D := D) (ci := 2) (v := .ref (ad 1)) (C := "PageScribe$Memory") (T := F_Memory) (N := 8) hx hb hts i_Memory hown hK hP 8 (ce_8 _ _ _) cl_2 0 (by decide) (hts _ k_1_129) (fun _ h9 => h9) rfl d_Memory_gather_45 ?_
      refine lv_iload_n hx hb d_Memory_gather_48 rfl (lv_at hl 1 rfl) ?_
      refine lv_iconst (v := 1) hx hb d_Memory_gather_49 (by decide) ?_
      refine lv_iadd hx hb d_Memory_gather_50 ?_
      refine lv_topi (fun x2 ex2 => ?_)
      have rx2 := zt_rng x2
      refine jc_cv (w := (fun u => u)) hK hP hD hS hA (va_runU (As := [.int x2]) (rest := []) F (c_Row_drop l D T ad S1 x2  H.size ⟨i_vst, i_vc0, i_vc1, i_vc2, i_vc3, i_vv0, i_vv1, i_vv2, i_vv3, i_vg, i_wct, i_wln, i_sd0, i_sd1, i_sd2, i_sd3, i_rln, i_rtx, i_rpl, i_rtk, i_cnv, i_pts, i_cik, i_und⟩) (j_cU (k := 1) (C := "PageScribe$Stack") (owner := "PageScribe$Row") (x := ⟨"PageScribe$Stack", "drop", "(I)V"⟩) hts k_4_47 k_4_231 k_4_43 k_4_45 k_4_46 k_1_2 rfl (by decide +kernel) ⟨Nat.le_of_ble_eq_true rfl, Nat.le_of_ble_eq_true rfl⟩) (j_preV (q0 := 1) (ci := 0) hK hP hD csc csc_all csc_nd cl_0 (ce_1 _ _ _) (fun _ _ _ _ h => h) (fun _ _ _ => trivial)) rfl rfl hl.1 rfl (lv_room (Nat.le_of_ble_eq_true rfl)) d_Memory_gather_51 ⟨Nat.le_of_ble_eq_true rfl, Nat.le_of_ble_eq_true rfl⟩) (fun S2 H locs hw3 hP hD hS => ?_)
      have hP : va_P D classes (cW T ad S2) H := hP
      have hD : va_D A (cW T ad S2) := hD
      obtain ⟨⟨i_vst, i_vc0, i_vc1, i_vc2, i_vc3, i_vv0, i_vv1, i_vv2, i_vv3, i_vg, i_wct, i_wln, i_sd0, i_sd1, i_sd2, i_sd3, i_rln, i_rtx, i_rpl, i_rtk, i_cnv, i_pts, i_cik, i_und⟩, kpcL_S2, kpcP_S2, kpcU_S2, kpcW_S2⟩ := hw3
      have kScL_S2 : kcL S S2 := kcL_t (show kcL S S1 from kScL_S1) kpcL_S2
      have kScP_S2 : kcP S S2 := kcP_t (show kcP S S1 from kScP_S1) kpcP_S2
      have kScU_S2 : kcU S S2 := kcU_t (show kcU S S1 from kScU_S1) kpcU_S2
      have kScW_S2 : kcW S S2 := kcW_t (show kcW S S1 from kScW_S1) kpcW_S2
      have nxr_length_S2 : (f_xr_length S2).toInt = (f_xr_length S1).toInt := congrArg Int32.toInt kpcL_S2
      have nxr_length_S2 : (f_xr_length S2).toInt = (f_xr_length S1).toInt := congrArg Int32.toInt kpcP_S2.1
      have nxr_place_S2 : (f_xr_place S2).toInt = (f_xr_place S1).toInt := congrArg Int32.toInt kpcP_S2.2.1
      have nxe_underWay_S2 : (f_xe_underWay S2).toInt = (f_xe_underWay S1).toInt := congrArg Int32.toInt kpcU_S2
      have nxp_columns_S2 : (f_xp_columns S2).toInt = (f_xp_columns S1).toInt := congrArg Int32.toInt kpcW_S2.1
      have nxp_rows_S2 : (f_xp_rows S2).toInt = (f_xp_rows S1).toInt := congrArg Int32.toInt kpcW_S2.2
      refine lv_aload_n hx hb d_Memory_gather_54 rfl (lv_at hl 2 rfl) ?_
      refine va_get (D := D) (ci := 2) (v := .ref (ad 1)) (C := "PageScribe$Memory") (T := F_Memory) (N := 8) hx hb hts i_Memory hown hK hP 8 (ce_8 _ _ _) cl_2 0 (by decide) (hts _ k_1_129) (fun _ h9 => h9) rfl d_Memory_gather_55 ?_
      refine lv_iconst (v := 5) hx hb d_Memory_gather_58 (by decide) ?_
      refine lv_iload_n hx hb d_Memory_gather_59 rfl (lv_at hl 0 rfl) ?_
      refine lv_dconst0 hx hb d_Memory_gather_60 ?_
      have := tD_0
      refine jc_ci (w := (fun u => u)) hK hP hD hS hA (va_runU (As := [.int 5, .int rv2, .double 0]) (rest := []) F (c_Row_push l D T ad S2 (5 : Int32) rv2 0  H.size ⟨i_vst, i_vc0, i_vc1, i_vc2, i_vc3, i_vv0, i_vv1, i_vv2, i_vv3, i_vg, i_wct, i_wln, i_sd0, i_sd1, i_sd2, i_sd3, i_rln, i_rtx, i_rpl, i_rtk, i_cnv, i_pts, i_cik, i_und⟩ (show dB 0 by have := tI_5; omega)) (j_cU (k := 3) (C := "PageScribe$Stack") (owner := "PageScribe$Row") (x := ⟨"PageScribe$Stack", "push", "(IID)I"⟩) hts k_2_104 k_4_232 k_2_100 k_2_102 k_2_103 k_1_2 rfl (by decide +kernel) ⟨Nat.le_of_ble_eq_true rfl, Nat.le_of_ble_eq_true rfl⟩) (j_preV (q0 := 1) (ci := 0) hK hP hD csc csc_all csc_nd cl_0 (ce_1 _ _ _) (fun _ _ _ _ h => h) (fun _ _ _ => trivial)) rfl rfl hl.1 rfl (lv_room (Nat.le_of_ble_eq_true rfl)) d_Memory_gather_61 ⟨Nat.le_of_ble_eq_true rfl, Nat.le_of_ble_eq_true rfl⟩) (fun rv4 S3 H locs hw4 hP hD hS => ?_)
      have hP : va_P D classes (cW T ad S3) H := hP
      have hD : va_D A (cW T ad S3) := hD
      obtain ⟨⟨i_vst, i_vc0, i_vc1, i_vc2, i_vc3, i_vv0, i_vv1, i_vv2, i_vv3, i_vg, i_wct, i_wln, i_sd0, i_sd1, i_sd2, i_sd3, i_rln, i_rtx, i_rpl, i_rtk, i_cnv, i_pts, i_cik, i_und⟩, kpcL_S3, kpcP_S3, kpcU_S3, kpcW_S3⟩ := hw4
      have kScL_S3 : kcL S S3 := kcL_t (show kcL S S2 from kScL_S2) kpcL_S3
      have kScP_S3 : kcP S S3 := kcP_t (show kcP S S2 from kScP_S2) kpcP_S3
      have kScU_S3 : kcU S S3 := kcU_t (show kcU S S2 from kScU_S2) kpcU_S3
      have kScW_S3 : kcW S S3 := kcW_t (show kcW S S2 from kScW_S2) kpcW_S3
      have nxr_length_S3 : (f_xr_length S3).toInt = (f_xr_length S2).toInt := congrArg Int32.toInt kpcL_S3
      have nxr_length_S3 : (f_xr_length S3).toInt = (f_xr_length S2).toInt := congrArg Int32.toInt kpcP_S3.1
      have nxr_place_S3 : (f_xr_place S3).toInt = (f_xr_place S2).toInt := congrArg Int32.toInt kpcP_S3.2.1
      have nxe_underWay_S3 : (f_xe_underWay S3).toInt = (f_xe_underWay S2).toInt := congrArg Int32.toInt kpcU_S3
      have nxp_columns_S3 : (f_xp_columns S3).toInt = (f_xp_columns S2).toInt := congrArg Int32.toInt kpcW_S3.1
      have nxp_rows_S3 : (f_xp_rows S3).toInt = (f_xp_rows S2).toInt := congrArg Int32.toInt kpcW_S3.2
      have rrv4 := zt_rng rv4
      exact j_iret F hr hlocks hK hS S3 ⟨⟨i_vst, i_vc0, i_vc1, i_vc2, i_vc3, i_vv0, i_vv1, i_vv2, i_vv3, i_vg, i_wct, i_wln, i_sd0, i_sd1, i_sd2, i_sd3, i_rln, i_rtx, i_rpl, i_rtk, i_cnv, i_pts, i_cik, i_und⟩, kScL_S3, kScP_S3, kScU_S3, kScW_S3⟩ hP hD d_Memory_gather_64
    · have fc38_1 : rv2.toInt < 0 := Int.not_le.mp (zt_nle tI_0 (show rv2.toInt = _ from rfl) c38_1)
      refine lv_bipush (v := 7) hx hb d_Memory_gather_41 (by decide) ?_
      exact j_iret F hr hlocks hK hS S1 ⟨⟨i_vst, i_vc0, i_vc1, i_vc2, i_vc3, i_vv0, i_vv1, i_vv2, i_vv3, i_vg, i_wct, i_wln, i_sd0, i_sd1, i_sd2, i_sd3, i_rln, i_rtx, i_rpl, i_rtk, i_cnv, i_pts, i_cik, i_und⟩, kScL_S1, kScP_S1, kScU_S1, kScW_S1⟩ hP hD d_Memory_gather_43
  · have fc9_1 : rv1.toInt < 0 := Int.not_le.mp (zt_nle tI_0 (show rv1.toInt = _ from rfl) c9_1)
    refine lv_bipush (v := 9) hx hb d_Memory_gather_12 (by decide) ?_
    exact j_iret F hr hlocks hK hS S ⟨⟨i_vst, i_vc0, i_vc1, i_vc2, i_vc3, i_vv0, i_vv1, i_vv2, i_vv3, i_vg, i_wct, i_wln, i_sd0, i_sd1, i_sd2, i_sd3, i_rln, i_rtx, i_rpl, i_rtk, i_cnv, i_pts, i_cik, i_und⟩, (kcL_r S), (kcP_r S), (kcU_r S), (kcW_r S)⟩ hP hD d_Memory_gather_14
theorem d_Memory_makeArray_0 : decode prog_5_method_4_code 0 = .ok (.aload_n 0, 1) := by decide +kernel
theorem d_Memory_makeArray_1 : decode prog_5_method_4_code 1 = .ok (.getfield 39, 3) := by decide +kernel
theorem d_Memory_makeArray_4 : decode prog_5_method_4_code 4 = .ok (.iconst 0, 1) := by decide +kernel
theorem d_Memory_makeArray_5 : decode prog_5_method_4_code 5 = .ok (.invokevirtual 105, 3) := by decide +kernel
theorem d_Memory_makeArray_8 : decode prog_5_method_4_code 8 = .ok (.istore_n 1, 1) := by decide +kernel
theorem d_Memory_makeArray_9 : decode prog_5_method_4_code 9 = .ok (.iload_n 1, 1) := by decide +kernel
theorem d_Memory_makeArray_10 : decode prog_5_method_4_code 10 = .ok (.ifCond .ge 5, 3) := by decide +kernel
theorem d_Memory_makeArray_15 : decode prog_5_method_4_code 15 = .ok (.aload_n 0, 1) := by decide +kernel
theorem d_Memory_makeArray_16 : decode prog_5_method_4_code 16 = .ok (.getfield 12, 3) := by decide +kernel
theorem d_Memory_makeArray_19 : decode prog_5_method_4_code 19 = .ok (.iload_n 1, 1) := by decide +kernel
theorem d_Memory_makeArray_20 : decode prog_5_method_4_code 20 = .ok (.invokevirtual 108, 3) := by decide +kernel
theorem k_4_238 : Cond.methodLink "PageScribe$Memory" 108 ⟨"PageScribe$Store", "hasCells", "(I)Z"⟩ ∈ gw := gw_of (tb_4 (List.mem_of_getElem? (i := 238) (by decide +kernel))) (by decide +kernel)
theorem d_Memory_makeArray_23 : decode prog_5_method_4_code 23 = .ok (.ifCond .ne 6, 3) := by decide +kernel
theorem d_Memory_makeArray_29 : decode prog_5_method_4_code 29 = .ok (.aload_n 0, 1) := by decide +kernel
theorem d_Memory_makeArray_30 : decode prog_5_method_4_code 30 = .ok (.getfield 12, 3) := by decide +kernel
theorem d_Memory_makeArray_33 : decode prog_5_method_4_code 33 = .ok (.getfield 112, 3) := by decide +kernel
theorem d_Memory_makeArray_36 : decode prog_5_method_4_code 36 = .ok (.getfield 116, 3) := by decide +kernel
theorem d_Memory_makeArray_39 : decode prog_5_method_4_code 39 = .ok (.istore_n 2, 1) := by decide +kernel
theorem d_Memory_makeArray_40 : decode prog_5_method_4_code 40 = .ok (.iconst 0, 1) := by decide +kernel
theorem d_Memory_makeArray_41 : decode prog_5_method_4_code 41 = .ok (.istore_n 3, 1) := by decide +kernel
theorem d_Memory_makeArray_42 : decode prog_5_method_4_code 42 = .ok (.iload_n 3, 1) := by decide +kernel
theorem d_Memory_makeArray_43 : decode prog_5_method_4_code 43 = .ok (.iload_n 1, 1) := by decide +kernel
theorem d_Memory_makeArray_44 : decode prog_5_method_4_code 44 = .ok (.if_icmp .ge 23, 3) := by decide +kernel
theorem d_Memory_makeArray_67 : decode prog_5_method_4_code 67 = .ok (.aload_n 0, 1) := by decide +kernel
theorem d_Memory_makeArray_68 : decode prog_5_method_4_code 68 = .ok (.getfield 39, 3) := by decide +kernel
theorem d_Memory_makeArray_71 : decode prog_5_method_4_code 71 = .ok (.iconst 1, 1) := by decide +kernel
theorem d_Memory_makeArray_72 : decode prog_5_method_4_code 72 = .ok (.invokevirtual 97, 3) := by decide +kernel
theorem d_Memory_makeArray_75 : decode prog_5_method_4_code 75 = .ok (.aload_n 0, 1) := by decide +kernel
theorem d_Memory_makeArray_76 : decode prog_5_method_4_code 76 = .ok (.getfield 39, 3) := by decide +kernel
theorem d_Memory_makeArray_79 : decode prog_5_method_4_code 79 = .ok (.iconst 5, 1) := by decide +kernel
theorem d_Memory_makeArray_80 : decode prog_5_method_4_code 80 = .ok (.iload_n 2, 1) := by decide +kernel
theorem d_Memory_makeArray_81 : decode prog_5_method_4_code 81 = .ok (.iload_n 1, 1) := by decide +kernel
theorem d_Memory_makeArray_82 : decode prog_5_method_4_code 82 = .ok (.invokestatic 120, 3) := by decide +kernel
theorem d_Memory_makeArray_85 : decode prog_5_method_4_code 85 = .ok (.dconst 0, 1) := by decide +kernel
theorem d_Memory_makeArray_86 : decode prog_5_method_4_code 86 = .ok (.invokevirtual 101, 3) := by decide +kernel
theorem d_Memory_makeArray_89 : decode prog_5_method_4_code 89 = .ok (.ireturn, 1) := by decide +kernel
theorem d_Memory_makeArray_47 : decode prog_5_method_4_code 47 = .ok (.aload_n 0, 1) := by decide +kernel
theorem d_Memory_makeArray_48 : decode prog_5_method_4_code 48 = .ok (.getfield 12, 3) := by decide +kernel
theorem d_Memory_makeArray_51 : decode prog_5_method_4_code 51 = .ok (.getfield 112, 3) := by decide +kernel
theorem d_Memory_makeArray_54 : decode prog_5_method_4_code 54 = .ok (.iconst 0, 1) := by decide +kernel
theorem d_Memory_makeArray_55 : decode prog_5_method_4_code 55 = .ok (.iconst 0, 1) := by decide +kernel
theorem d_Memory_makeArray_56 : decode prog_5_method_4_code 56 = .ok (.dconst 0, 1) := by decide +kernel
theorem d_Memory_makeArray_57 : decode prog_5_method_4_code 57 = .ok (.invokevirtual 119, 3) := by decide +kernel
theorem k_4_239 : Cond.methodLink "PageScribe$Memory" 119 ⟨"PageScribe$Row", "push", "(IID)I"⟩ ∈ gw := gw_of (tb_4 (List.mem_of_getElem? (i := 239) (by decide +kernel))) (by decide +kernel)
theorem d_Memory_makeArray_60 : decode prog_5_method_4_code 60 = .ok (.pop, 1) := by decide +kernel
theorem d_Memory_makeArray_61 : decode prog_5_method_4_code 61 = .ok (.iinc 3 1, 3) := by decide +kernel
theorem d_Memory_makeArray_64 : decode prog_5_method_4_code 64 = .ok (.goto (-22), 3) := by decide +kernel
theorem d_Memory_makeArray_26 : decode prog_5_method_4_code 26 = .ok (.bipush 7, 2) := by decide +kernel
theorem d_Memory_makeArray_28 : decode prog_5_method_4_code 28 = .ok (.ireturn, 1) := by decide +kernel
theorem d_Memory_makeArray_13 : decode prog_5_method_4_code 13 = .ok (.iconst 4, 1) := by decide +kernel
theorem d_Memory_makeArray_14 : decode prog_5_method_4_code 14 = .ok (.ireturn, 1) := by decide +kernel
set_option maxHeartbeats 4000000 in
set_option maxRecDepth 100000 in
theorem c_Memory_makeArray (l : Launch) (D : va_G) (T : Nat → ClassId) (ad : Nat → Nat) (g : GE) (Bq : Nat → Prop) (S : CS)  (sz : Nat)  (hI : CIv S) : Met l ⟨"PageScribe$Memory", "makeArray", "()I"⟩ (wy ⟨"PageScribe$Memory", "makeArray", "()I"⟩ prog_5_method_4_code 4 (some .int)) ({ frames := 2, cells := 0, slots := 0, locals := 140 }) (va_Pc [.ref (ad 8)] (Pw D T (cW T ad S) sz (EC g Bq ad))) (va_Qi (fun (r : Int32) (u : CS) => CIv u ∧ kcL S u ∧ kcP S u ∧ kcU S u ∧ kcW S u) (fun u t => Bw D T (va_A (cW T ad S) sz) (cW T ad u) t) (va_A (cW T ad S) sz)) 0 0 (va_A (cW T ad S) sz) := by
  refine j_met (y := ⟨"PageScribe$Memory", "makeArray", "()I"⟩) (b := prog_5_method_4_code) (n := 4) (ret := (some .int)) (av := [.ref (ad 8)]) (Qc := fun A => va_Qi (fun (r : Int32) (u : CS) => CIv u ∧ kcL S u ∧ kcP S u ∧ kcU S u ∧ kcW S u) (fun u t => Bw D T A (cW T ad u) t) A) (by decide +kernel) (Nat.le_of_ble_eq_true rfl) (fun p e s m args below meth c A ls F hr hlocks hnm hK hP hD hS hA hN hE hl => ?_)
  obtain ⟨hx, hb, hml, hown, hts⟩ := id F
  have hl : lv_has ls 4 [(0, .ref (ad 8))] := hl
  obtain ⟨i_vst, i_vc0, i_vc1, i_vc2, i_vc3, i_vv0, i_vv1, i_vv2, i_vv3, i_vg, i_wct, i_wln, i_sd0, i_sd1, i_sd2, i_sd3, i_rln, i_rtx, i_rpl, i_rtk, i_cnv, i_pts, i_cik, i_und⟩ := id hI
  have hAB : ∀ q, A q → Bq q := EC.ab hE hN
  have hEV := hE.1.narrow hAB
  refine lv_aload_n hx hb d_Memory_makeArray_0 rfl (lv_at hl 0 rfl) ?_
  refine va_get (D := D) (ci := 2) (v := .ref (ad 1)) (C := "PageScribe$Memory") (T := F_Memory) (N := 8) hx hb hts i_Memory hown hK hP 8 (ce_8 _ _ _) cl_2 0 (by decide) (hts _ k_1_129) (fun _ h9 => h9) rfl d_Memory_makeArray_1 ?_
  refine lv_iconst (v := 0) hx hb d_Memory_makeArray_4 (by decide) ?_
  refine jc_ci (w := (fun _ => S)) hK hP hD hS hA (va_runV (As := [.int 0]) (rest := []) F (c_Stack_numberDown l D T ad S (0 : Int32)  s.heap.size) (j_cV (k := 1) (C := "PageScribe$Stack") hts k_2_130 k_1_3 k_4_237 k_2_128 k_2_129 (by decide +kernel) ⟨Nat.le_of_ble_eq_true rfl, Nat.le_of_ble_eq_true rfl⟩) (j_preV (q0 := 1) (ci := 0) hK hP hD csc csc_all csc_nd cl_0 (ce_1 _ _ _) (fun _ _ _ _ h => h) (fun _ _ _ => trivial)) rfl rfl hl.1 rfl (lv_room (Nat.le_of_ble_eq_true rfl)) d_Memory_makeArray_5 ⟨Nat.le_of_ble_eq_true rfl, Nat.le_of_ble_eq_true rfl⟩) (fun rv1 u1 H locs hw1 hP hD hS => ?_)
  have hP : va_P D classes (cW T ad S) H := hP
  have hD : va_D A (cW T ad S) := hD
  have rrv1 := zt_rng rv1
  refine lv_istore_n (lv' := [(1, .int rv1), (0, .ref (ad 8))]) hx hb d_Memory_makeArray_8 rfl hl (by decide) rfl (fun ls hl => ?_)
  refine lv_iload_n hx hb d_Memory_makeArray_9 rfl (lv_at hl 0 rfl) ?_
  refine lv_if_ge (tgt := 15) hx hb d_Memory_makeArray_10 (by decide) (fun c10_1 => ?_) (fun c10_1 => ?_)
  · have fc10_1 : 0 ≤ rv1.toInt := zt_le tI_0 (show rv1.toInt = _ from rfl) c10_1
    refine lv_aload_n hx hb d_Memory_makeArray_15 rfl (lv_at hl 1 rfl) ?_
    refine va_get (D := D) (ci := 2) (v := .ref (ad 12)) (C := "PageScribe$Memory") (T := F_Memory) (N := 8) hx hb hts i_Memory hown hK hP 8 (ce_8 _ _ _) cl_2 1 (by decide) (hts _ k_1_130) (fun _ h9 => h9) rfl d_Memory_makeArray_16 ?_
    refine lv_iload_n hx hb d_Memory_makeArray_19 rfl (lv_at hl 0 rfl) ?_
    refine jc_ci (w := (fun _ => S)) hK hP hD hS hA (va_runV (As := [.int rv1]) (rest := []) F (c_Store_hasCells l D T ad S rv1  H.size) (j_cV (k := 1) (C := "PageScribe$Store") hts k_3_90 k_1_6 k_4_238 k_3_88 k_3_89 (by decide +kernel) ⟨Nat.le_of_ble_eq_true rfl, Nat.le_of_ble_eq_true rfl⟩) (j_preV (q0 := 12) (ci := 3) hK hP hD csc csc_all csc_nd cl_3 (ce_12 _ _ _) (fun _ _ _ _ h => h) (fun _ _ _ => trivial)) rfl rfl hl.1 rfl (lv_room (Nat.le_of_ble_eq_true rfl)) d_Memory_makeArray_20 ⟨Nat.le_of_ble_eq_true rfl, Nat.le_of_ble_eq_true rfl⟩) (fun rv2 u2 H locs hw2 hP hD hS => ?_)
    have hP : va_P D classes (cW T ad S) H := hP
    have hD : va_D A (cW T ad S) := hD
    have qhw2 : rv2.toInt = 0 ∨ rv2.toInt = 1 := hw2
    have rrv2 := zt_rng rv2
    refine lv_if_ne (tgt := 29) hx hb d_Memory_makeArray_23 (by decide) (fun c23_1 => ?_) (fun c23_1 => ?_)
    · first | have fc23_1 : rv2.toInt < 0 := (by have := zt_ne (show rv2.toInt = _ from rfl) tI_0 c23_1; omega) | have fc23_1 : 0 < rv2.toInt := (by have := zt_ne (show rv2.toInt = _ from rfl) tI_0 c23_1; omega) | skip
      refine lv_aload_n hx hb d_Memory_makeArray_29 rfl (lv_at hl 1 rfl) ?_
      refine va_get (D := D) (ci := 2) (v := .ref (ad 12)) (C := "PageScribe$Memory") (T := F_Memory) (N := 8) hx hb hts i_Memory hown hK hP 8 (ce_8 _ _ _) cl_2 1 (by decide) (hts _ k_1_130) (fun _ h9 => h9) rfl d_Memory_makeArray_30 ?_
      refine va_get (D := D) (ci := 3) (v := .ref (ad 13)) (C := "PageScribe$Store") (T := F_Store) (N := 5) hx hb hts i_Store hown hK hP 12 (ce_12 _ _ _) cl_3 0 (by decide) (hts _ k_1_108) (fun _ h9 => h9) rfl d_Memory_makeArray_33 ?_
      refine va_get (D := D) (ci := 4) (v := .int (f_xc0_z S)) (C := "PageScribe$Row") (T := F_Row) (N := 4) hx hb hts i_Row hown hK hP 13 (ce_13 _ _ _) cl_4 3 (by decide) (hts _ k_1_54) (fun _ h9 => h9) rfl d_Memory_makeArray_36 ?_
      refine lv_istore_n (lv' := [(2, .int (f_xc0_z S)), (1, .int rv1), (0, .ref (ad 8))]) hx hb d_Memory_makeArray_39 rfl hl (by decide) rfl (fun ls hl => ?_)
      refine lv_iconst (v := 0) hx hb d_Memory_makeArray_40 (by decide) ?_
      refine lv_istore_n (lv' := [(3, .int 0), (2, .int (f_xc0_z S)), (1, .int rv1), (0, .ref (ad 8))]) hx hb d_Memory_makeArray_41 rfl hl (by decide) rfl (fun ls hl => ?_)
      refine j_loop (α := CS × Int32) (fun k x H locs ls => (0 ≤ x.2.toInt ∧ rv1.toInt ≤ x.2.toInt + ((k : Nat) : Int)) ∧ CIv x.1 ∧ kcL S x.1 ∧ kcP S x.1 ∧ kcU S x.1 ∧ kcW S x.1 ∧ va_P D classes (cW T ad x.1) H ∧ va_D A (cW T ad x.1) ∧ va_S A s.heap H locs ∧ lv_has ls 4 [(3, .int x.2), (2, .int (f_xc0_z S)), (1, .int rv1), (0, .ref (ad 8))]) (fun _ _ ls => F0 m 42 ls []) (fun k x H locs ls hI9 ih => ?_) (rv1.toInt).toNat (S, (0 : Int32)) _ _ _ ⟨(show 0 ≤ (0 : Int32).toInt ∧ rv1.toInt ≤ (0 : Int32).toInt + (((rv1.toInt).toNat : Nat) : Int) by have := tI_0; omega), ⟨i_vst, i_vc0, i_vc1, i_vc2, i_vc3, i_vv0, i_vv1, i_vv2, i_vv3, i_vg, i_wct, i_wln, i_sd0, i_sd1, i_sd2, i_sd3, i_rln, i_rtx, i_rpl, i_rtk, i_cnv, i_pts, i_cik, i_und⟩, (show kcL S S from (kcL_r S)), (show kcP S S from (kcP_r S)), (show kcU S S from (kcU_r S)), (show kcW S S from (kcW_r S)), hP, hD, hS, lv_sub hl [0, 1, 2, 3] rfl⟩
      obtain ⟨S1, i⟩ := x
      obtain ⟨hf1, hIx, klcL_S1, klcP_S1, klcU_S1, klcW_S1, hP, hD, hS, hl⟩ := hI9
      obtain ⟨i_vst, i_vc0, i_vc1, i_vc2, i_vc3, i_vv0, i_vv1, i_vv2, i_vv3, i_vg, i_wct, i_wln, i_sd0, i_sd1, i_sd2, i_sd3, i_rln, i_rtx, i_rpl, i_rtk, i_cnv, i_pts, i_cik, i_und⟩ := (show CIv S1 from hIx)
      have klcL_S1 : kcL S S1 := klcL_S1
      have klcP_S1 : kcP S S1 := klcP_S1
      have klcU_S1 : kcU S S1 := klcU_S1
      have klcW_S1 : kcW S S1 := klcW_S1
      have hf1 : 0 ≤ i.toInt ∧ rv1.toInt ≤ i.toInt + ((k : Nat) : Int) := hf1
      have hP : va_P D classes (cW T ad S1) H := hP
      have hD : va_D A (cW T ad S1) := hD
      have hl : lv_has ls 4 [(3, .int i), (2, .int (f_xc0_z S)), (1, .int rv1), (0, .ref (ad 8))] := hl
      refine lv_iload_n hx hb d_Memory_makeArray_42 rfl (lv_at hl 0 rfl) ?_
      refine lv_iload_n hx hb d_Memory_makeArray_43 rfl (lv_at hl 2 rfl) ?_
      refine lv_icmp_ge (tgt := 67) hx hb d_Memory_makeArray_44 (by decide) (fun c44_1 => ?_) (fun c44_1 => ?_)
      · have fc44_1 : rv1.toInt ≤ i.toInt := zt_le (show rv1.toInt = _ from rfl) (show i.toInt = _ from rfl) c44_1
        refine lv_aload_n hx hb d_Memory_makeArray_67 rfl (lv_at hl 3 rfl) ?_
        refine va_get (D := D) (ci := 2) (v := .ref (ad 1)) (C := "PageScribe$Memory") (T := F_Memory) (N := 8) hx hb hts i_Memory hown hK hP 8 (ce_8 _ _ _) cl_2 0 (by decide) (hts _ k_1_129) (fun _ h9 => h9) rfl d_Memory_makeArray_68 ?_
        refine lv_iconst (v := 1) hx hb d_Memory_makeArray_71 (by decide) ?_
        refine jc_cv (w := (fun u => u)) hK hP hD hS hA (va_runU (As := [.int 1]) (rest := []) F (c_Row_drop l D T ad S1 (1 : Int32)  H.size ⟨i_vst, i_vc0, i_vc1, i_vc2, i_vc3, i_vv0, i_vv1, i_vv2, i_vv3, i_vg, i_wct, i_wln, i_sd0, i_sd1, i_sd2, i_sd3, i_rln, i_rtx, i_rpl, i_rtk, i_cnv, i_pts, i_cik, i_und⟩) (j_cU (k := 1) (C := "PageScribe$Stack") (owner := "PageScribe$Row") (x := ⟨"PageScribe$Stack", "drop", "(I)V"⟩) hts k_4_47 k_4_231 k_4_43 k_4_45 k_4_46 k_1_2 rfl (by decide +kernel) ⟨Nat.le_of_ble_eq_true rfl, Nat.le_of_ble_eq_true rfl⟩) (j_preV (q0 := 1) (ci := 0) hK hP hD csc csc_all csc_nd cl_0 (ce_1 _ _ _) (fun _ _ _ _ h => h) (fun _ _ _ => trivial)) rfl rfl hl.1 rfl (lv_room (Nat.le_of_ble_eq_true rfl)) d_Memory_makeArray_72 ⟨Nat.le_of_ble_eq_true rfl, Nat.le_of_ble_eq_true rfl⟩) (fun S2 H locs hw3 hP hD hS => ?_)
        have hP : va_P D classes (cW T ad S2) H := hP
        have hD : va_D A (cW T ad S2) := hD
        obtain ⟨⟨i_vst, i_vc0, i_vc1, i_vc2, i_vc3, i_vv0, i_vv1, i_vv2, i_vv3, i_vg, i_wct, i_wln, i_sd0, i_sd1, i_sd2, i_sd3, i_rln, i_rtx, i_rpl, i_rtk, i_cnv, i_pts, i_cik, i_und⟩, kpcL_S2, kpcP_S2, kpcU_S2, kpcW_S2⟩ := hw3
        have kScL_S2 : kcL S S2 := kcL_t (show kcL S S1 from klcL_S1) kpcL_S2
        have kScP_S2 : kcP S S2 := kcP_t (show kcP S S1 from klcP_S1) kpcP_S2
        have kScU_S2 : kcU S S2 := kcU_t (show kcU S S1 from klcU_S1) kpcU_S2
        have kScW_S2 : kcW S S2 := kcW_t (show kcW S S1 from klcW_S1) kpcW_S2
        have nxr_length_S2 : (f_xr_length S2).toInt = (f_xr_length S1).toInt := congrArg Int32.toInt kpcL_S2
        have nxr_length_S2 : (f_xr_length S2).toInt = (f_xr_length S1).toInt := congrArg Int32.toInt kpcP_S2.1
        have nxr_place_S2 : (f_xr_place S2).toInt = (f_xr_place S1).toInt := congrArg Int32.toInt kpcP_S2.2.1
        have nxe_underWay_S2 : (f_xe_underWay S2).toInt = (f_xe_underWay S1).toInt := congrArg Int32.toInt kpcU_S2
        have nxp_columns_S2 : (f_xp_columns S2).toInt = (f_xp_columns S1).toInt := congrArg Int32.toInt kpcW_S2.1
        have nxp_rows_S2 : (f_xp_rows S2).toInt = (f_xp_rows S1).toInt := congrArg Int32.toInt kpcW_S2.2
        refine lv_aload_n hx hb d_Memory_makeArray_75 rfl (lv_at hl 3 rfl) ?_
        refine va_get (D := D) (ci := 2) (v := .ref (ad 1)) (C := "PageScribe$Memory") (T := F_Memory) (N := 8) hx hb hts i_Memory hown hK hP 8 (ce_8 _ _ _) cl_2 0 (by decide) (hts _ k_1_129) (fun _ h9 => h9) rfl d_Memory_makeArray_76 ?_
        refine lv_iconst (v := 5) hx hb d_Memory_makeArray_79 (by decide) ?_
        refine lv_iload_n hx hb d_Memory_makeArray_80 rfl (lv_at hl 1 rfl) ?_
        refine lv_iload_n hx hb d_Memory_makeArray_81 rfl (lv_at hl 2 rfl) ?_
        refine j_ci (wc := []) (wr := (cW T ad S2)) hK hP hD hS hA [] csc rfl csc_all csc_nd (fun _ _ => List.not_mem_nil) (va_runSN (As := [.int (f_xc0_z S), .int rv1]) (rest := [.int 5, .ref (ad 1)]) F (c_Ps_arrayOf l D T (f_xc0_z S) rv1  H.size) (j_cSN (k := 2) hts k_3_108 k_1_1 (hE.2.2.2 (Cond.methodLinkNest "PageScribe$Memory" 120 ⟨"PageScribe", "arrayOf", "(II)I"⟩ "PageScribe") (List.mem_of_getElem? (i := 6) rfl)) k_3_107 (by decide +kernel) ⟨Nat.le_of_ble_eq_true rfl, Nat.le_of_ble_eq_true rfl⟩) (j_preS hK hP hD [] rfl (by decide) (fun _ _ _ _ h => h) (fun _ _ _ => trivial)) rfl rfl hl.1 rfl (lv_room (Nat.le_of_ble_eq_true rfl)) d_Memory_makeArray_82 ⟨Nat.le_of_ble_eq_true rfl, Nat.le_of_ble_eq_true rfl⟩) (fun rv4 u3 H locs hw4 hP hD hS => ?_)
        have hP : va_P D classes (cW T ad S2) H := hP
        have hD : va_D A (cW T ad S2) := hD
        have rrv4 := zt_rng rv4
        refine lv_dconst0 hx hb d_Memory_makeArray_85 ?_
        have := tD_0
        refine jc_ci (w := (fun u => u)) hK hP hD hS hA (va_runU (As := [.int 5, .int rv4, .double 0]) (rest := []) F (c_Row_push l D T ad S2 (5 : Int32) rv4 0  H.size ⟨i_vst, i_vc0, i_vc1, i_vc2, i_vc3, i_vv0, i_vv1, i_vv2, i_vv3, i_vg, i_wct, i_wln, i_sd0, i_sd1, i_sd2, i_sd3, i_rln, i_rtx, i_rpl, i_rtk, i_cnv, i_pts, i_cik, i_und⟩ (show dB 0 by have := tI_5; omega)) (j_cU (k := 3) (C := "PageScribe$Stack") (owner := "PageScribe$Row") (x := ⟨"PageScribe$Stack", "push", "(IID)I"⟩) hts k_2_104 k_4_232 k_2_100 k_2_102 k_2_103 k_1_2 rfl (by decide +kernel) ⟨Nat.le_of_ble_eq_true rfl, Nat.le_of_ble_eq_true rfl⟩) (j_preV (q0 := 1) (ci := 0) hK hP hD csc csc_all csc_nd cl_0 (ce_1 _ _ _) (fun _ _ _ _ h => h) (fun _ _ _ => trivial)) rfl rfl hl.1 rfl (lv_room (Nat.le_of_ble_eq_true rfl)) d_Memory_makeArray_86 ⟨Nat.le_of_ble_eq_true rfl, Nat.le_of_ble_eq_true rfl⟩) (fun rv5 S3 H locs hw5 hP hD hS => ?_)
        have hP : va_P D classes (cW T ad S3) H := hP
        have hD : va_D A (cW T ad S3) := hD
        obtain ⟨⟨i_vst, i_vc0, i_vc1, i_vc2, i_vc3, i_vv0, i_vv1, i_vv2, i_vv3, i_vg, i_wct, i_wln, i_sd0, i_sd1, i_sd2, i_sd3, i_rln, i_rtx, i_rpl, i_rtk, i_cnv, i_pts, i_cik, i_und⟩, kpcL_S3, kpcP_S3, kpcU_S3, kpcW_S3⟩ := hw5
        have kScL_S3 : kcL S S3 := kcL_t (show kcL S S2 from kScL_S2) kpcL_S3
        have kScP_S3 : kcP S S3 := kcP_t (show kcP S S2 from kScP_S2) kpcP_S3
        have kScU_S3 : kcU S S3 := kcU_t (show kcU S S2 from kScU_S2) kpcU_S3
        have kScW_S3 : kcW S S3 := kcW_t (show kcW S S2 from kScW_S2) kpcW_S3
        have nxr_length_S3 : (f_xr_length S3).toInt = (f_xr_length S2).toInt := congrArg Int32.toInt kpcL_S3
        have nxr_length_S3 : (f_xr_length S3).toInt = (f_xr_length S2).toInt := congrArg Int32.toInt kpcP_S3.1
        have nxr_place_S3 : (f_xr_place S3).toInt = (f_xr_place S2).toInt := congrArg Int32.toInt kpcP_S3.2.1
        have nxe_underWay_S3 : (f_xe_underWay S3).toInt = (f_xe_underWay S2).toInt := congrArg Int32.toInt kpcU_S3
        have nxp_columns_S3 : (f_xp_columns S3).toInt = (f_xp_columns S2).toInt := congrArg Int32.toInt kpcW_S3.1
        have nxp_rows_S3 : (f_xp_rows S3).toInt = (f_xp_rows S2).toInt := congrArg Int32.toInt kpcW_S3.2
        have rrv5 := zt_rng rv5
        exact j_iret F hr hlocks hK hS S3 ⟨⟨i_vst, i_vc0, i_vc1, i_vc2, i_vc3, i_vv0, i_vv1, i_vv2, i_vv3, i_vg, i_wct, i_wln, i_sd0, i_sd1, i_sd2, i_sd3, i_rln, i_rtx, i_rpl, i_rtk, i_cnv, i_pts, i_cik, i_und⟩, kScL_S3, kScP_S3, kScU_S3, kScW_S3⟩ hP hD d_Memory_makeArray_89
      · have fc44_1 : i.toInt < rv1.toInt := Int.not_le.mp (zt_nle (show rv1.toInt = _ from rfl) (show i.toInt = _ from rfl) c44_1)
        refine lv_aload_n hx hb d_Memory_makeArray_47 rfl (lv_at hl 3 rfl) ?_
        refine va_get (D := D) (ci := 2) (v := .ref (ad 12)) (C := "PageScribe$Memory") (T := F_Memory) (N := 8) hx hb hts i_Memory hown hK hP 8 (ce_8 _ _ _) cl_2 1 (by decide) (hts _ k_1_130) (fun _ h9 => h9) rfl d_Memory_makeArray_48 ?_
        refine va_get (D := D) (ci := 3) (v := .ref (ad 13)) (C := "PageScribe$Store") (T := F_Store) (N := 5) hx hb hts i_Store hown hK hP 12 (ce_12 _ _ _) cl_3 0 (by decide) (hts _ k_1_108) (fun _ h9 => h9) rfl d_Memory_makeArray_51 ?_
        refine lv_iconst (v := 0) hx hb d_Memory_makeArray_54 (by decide) ?_
        refine lv_iconst (v := 0) hx hb d_Memory_makeArray_55 (by decide) ?_
        refine lv_dconst0 hx hb d_Memory_makeArray_56 ?_
        have := tD_0
        refine jc_ci (w := (fun u => u)) hK hP hD hS hA (va_runV (As := [.int 0, .int 0, .double 0]) (rest := []) F (c_Row_push_13 l D T ad S1 (0 : Int32) (0 : Int32) 0  H.size ⟨i_vst, i_vc0, i_vc1, i_vc2, i_vc3, i_vv0, i_vv1, i_vv2, i_vv3, i_vg, i_wct, i_wln, i_sd0, i_sd1, i_sd2, i_sd3, i_rln, i_rtx, i_rpl, i_rtk, i_cnv, i_pts, i_cik, i_und⟩ (show dB 0 by have := tI_0; have := tI_0; omega)) (j_cV (k := 3) (C := "PageScribe$Row") hts k_2_104 k_1_2 k_4_239 k_2_103 k_8_179 (by decide +kernel) ⟨Nat.le_of_ble_eq_true rfl, Nat.le_of_ble_eq_true rfl⟩) (j_preV (q0 := 13) (ci := 4) hK hP hD csc csc_all csc_nd cl_4 (ce_13 _ _ _) (fun _ _ _ _ h => h) (fun _ _ _ => trivial)) rfl rfl hl.1 rfl (lv_room (Nat.le_of_ble_eq_true rfl)) d_Memory_makeArray_57 ⟨Nat.le_of_ble_eq_true rfl, Nat.le_of_ble_eq_true rfl⟩) (fun rv6 S4 H locs hw6 hP hD hS => ?_)
        have hP : va_P D classes (cW T ad S4) H := hP
        have hD : va_D A (cW T ad S4) := hD
        obtain ⟨⟨i_vst, i_vc0, i_vc1, i_vc2, i_vc3, i_vv0, i_vv1, i_vv2, i_vv3, i_vg, i_wct, i_wln, i_sd0, i_sd1, i_sd2, i_sd3, i_rln, i_rtx, i_rpl, i_rtk, i_cnv, i_pts, i_cik, i_und⟩, kpcL_S4, kpcP_S4, kpcU_S4, kpcW_S4⟩ := hw6
        have kScL_S4 : kcL S S4 := kcL_t (show kcL S S1 from klcL_S1) kpcL_S4
        have kScP_S4 : kcP S S4 := kcP_t (show kcP S S1 from klcP_S1) kpcP_S4
        have kScU_S4 : kcU S S4 := kcU_t (show kcU S S1 from klcU_S1) kpcU_S4
        have kScW_S4 : kcW S S4 := kcW_t (show kcW S S1 from klcW_S1) kpcW_S4
        have nxr_length_S4 : (f_xr_length S4).toInt = (f_xr_length S1).toInt := congrArg Int32.toInt kpcL_S4
        have nxr_length_S4 : (f_xr_length S4).toInt = (f_xr_length S1).toInt := congrArg Int32.toInt kpcP_S4.1
        have nxr_place_S4 : (f_xr_place S4).toInt = (f_xr_place S1).toInt := congrArg Int32.toInt kpcP_S4.2.1
        have nxe_underWay_S4 : (f_xe_underWay S4).toInt = (f_xe_underWay S1).toInt := congrArg Int32.toInt kpcU_S4
        have nxp_columns_S4 : (f_xp_columns S4).toInt = (f_xp_columns S1).toInt := congrArg Int32.toInt kpcW_S4.1
        have nxp_rows_S4 : (f_xp_rows S4).toInt = (f_xp_rows S1).toInt := congrArg Int32.toInt kpcW_S4.2
        have rrv6 := zt_rng rv6
        refine lv_pop hx hb d_Memory_makeArray_60 rfl ?_
        refine lv_iinc (v := (i + 1)) (lv' := [(3, .int (i + 1)), (2, .int (f_xc0_z S)), (1, .int rv1), (0, .ref (ad 8))]) hx hb d_Memory_makeArray_61 hl (k := 0) rfl (by first | rfl | decide) (by decide) rfl (fun ls hl => ?_)
        obtain ⟨x1, ex1⟩ : ∃ z, z = (i + 1) := ⟨_, rfl⟩
        rw [← ex1] at hl
        have fx1 : x1.toInt = (i.toInt + 1) := by rw [ex1]; exact (zt_add (show i.toInt = _ from rfl) tI_1 (by omega) (by omega)).trans (by omega)
        have hl : lv_has ls 4 [(3, .int x1), (2, .int (f_xc0_z S)), (1, .int rv1), (0, .ref (ad 8))] := hl
        refine lv_goto (tgt := 42) hx hb d_Memory_makeArray_64 (by decide) ?_
        exact ih (k - 1) (S4, x1) _ _ _ (by omega) ⟨(show 0 ≤ x1.toInt ∧ rv1.toInt ≤ x1.toInt + (((k - 1) : Nat) : Int) by omega), ⟨i_vst, i_vc0, i_vc1, i_vc2, i_vc3, i_vv0, i_vv1, i_vv2, i_vv3, i_vg, i_wct, i_wln, i_sd0, i_sd1, i_sd2, i_sd3, i_rln, i_rtx, i_rpl, i_rtk, i_cnv, i_pts, i_cik, i_und⟩, (show kcL S S4 from kScL_S4), (show kcP S S4 from kScP_S4), (show kcU S S4 from kScU_S4), (show kcW S S4 from kScW_S4), hP, hD, hS, lv_sub hl [0, 1, 2, 3] rfl⟩
    · have fc23_1 : rv2.toInt = 0 := zt_eq (show rv2.toInt = _ from rfl) tI_0 c23_1
      refine lv_bipush (v := 7) hx hb d_Memory_makeArray_26 (by decide) ?_
      exact j_iret F hr hlocks hK hS S ⟨⟨i_vst, i_vc0, i_vc1, i_vc2, i_vc3, i_vv0, i_vv1, i_vv2, i_vv3, i_vg, i_wct, i_wln, i_sd0, i_sd1, i_sd2, i_sd3, i_rln, i_rtx, i_rpl, i_rtk, i_cnv, i_pts, i_cik, i_und⟩, (kcL_r S), (kcP_r S), (kcU_r S), (kcW_r S)⟩ hP hD d_Memory_makeArray_28
  · have fc10_1 : rv1.toInt < 0 := Int.not_le.mp (zt_nle tI_0 (show rv1.toInt = _ from rfl) c10_1)
    refine lv_iconst (v := 4) hx hb d_Memory_makeArray_13 (by decide) ?_
    exact j_iret F hr hlocks hK hS S ⟨⟨i_vst, i_vc0, i_vc1, i_vc2, i_vc3, i_vv0, i_vv1, i_vv2, i_vv3, i_vg, i_wct, i_wln, i_sd0, i_sd1, i_sd2, i_sd3, i_rln, i_rtx, i_rpl, i_rtk, i_cnv, i_pts, i_cik, i_und⟩, (kcL_r S), (kcP_r S), (kcU_r S), (kcW_r S)⟩ hP hD d_Memory_makeArray_14
theorem d_Memory_tellLength_0 : decode prog_5_method_5_code 0 = .ok (.aload_n 0, 1) := by decide +kernel
theorem d_Memory_tellLength_1 : decode prog_5_method_5_code 1 = .ok (.getfield 39, 3) := by decide +kernel
theorem d_Memory_tellLength_4 : decode prog_5_method_5_code 4 = .ok (.iconst 0, 1) := by decide +kernel
theorem d_Memory_tellLength_5 : decode prog_5_method_5_code 5 = .ok (.invokevirtual 105, 3) := by decide +kernel
theorem d_Memory_tellLength_8 : decode prog_5_method_5_code 8 = .ok (.istore_n 1, 1) := by decide +kernel
theorem d_Memory_tellLength_9 : decode prog_5_method_5_code 9 = .ok (.aload_n 0, 1) := by decide +kernel
theorem d_Memory_tellLength_10 : decode prog_5_method_5_code 10 = .ok (.getfield 39, 3) := by decide +kernel
theorem d_Memory_tellLength_13 : decode prog_5_method_5_code 13 = .ok (.iconst 1, 1) := by decide +kernel
theorem d_Memory_tellLength_42 : decode prog_5_method_5_code 42 = .ok (.invokevirtual 130, 3) := by decide +kernel
theorem k_4_140 : Cond.code ⟨"PageScribe$Stack", "giveInt", "(II)I"⟩ prog_9_method_9_code 3 (some .int) ∈ gw := gw_of (tb_4 (List.mem_of_getElem? (i := 140) (by decide +kernel))) (by decide +kernel)
theorem k_5_11 : Cond.methodLink "PageScribe$Memory" 130 ⟨"PageScribe$Stack", "giveInt", "(II)I"⟩ ∈ gw := gw_of (tb_5 (List.mem_of_getElem? (i := 11) (by decide +kernel))) (by decide +kernel)
theorem k_4_138 : Cond.instanceMethod ⟨"PageScribe$Stack", "giveInt", "(II)I"⟩ ∈ gw := gw_of (tb_4 (List.mem_of_getElem? (i := 138) (by decide +kernel))) (by decide +kernel)
theorem k_4_139 : Cond.selects "PageScribe$Stack" ⟨"PageScribe$Stack", "giveInt", "(II)I"⟩ ⟨"PageScribe$Stack", "giveInt", "(II)I"⟩ ∈ gw := gw_of (tb_4 (List.mem_of_getElem? (i := 139) (by decide +kernel))) (by decide +kernel)
theorem d_Memory_tellLength_45 : decode prog_5_method_5_code 45 = .ok (.ireturn, 1) := by decide +kernel
theorem d_Memory_tellLength_14 : decode prog_5_method_5_code 14 = .ok (.aload_n 0, 1) := by decide +kernel
theorem d_Memory_tellLength_15 : decode prog_5_method_5_code 15 = .ok (.getfield 39, 3) := by decide +kernel
theorem d_Memory_tellLength_18 : decode prog_5_method_5_code 18 = .ok (.iconst 0, 1) := by decide +kernel
theorem d_Memory_tellLength_19 : decode prog_5_method_5_code 19 = .ok (.invokevirtual 63, 3) := by decide +kernel
theorem d_Memory_tellLength_22 : decode prog_5_method_5_code 22 = .ok (.bipush 6, 2) := by decide +kernel
theorem d_Memory_tellLength_24 : decode prog_5_method_5_code 24 = .ok (.if_icmp .ne 14, 3) := by decide +kernel
theorem d_Memory_tellLength_38 : decode prog_5_method_5_code 38 = .ok (.iload_n 1, 1) := by decide +kernel
theorem d_Memory_tellLength_39 : decode prog_5_method_5_code 39 = .ok (.invokestatic 127, 3) := by decide +kernel
theorem k_4_189 : Cond.code ⟨"PageScribe", "lengthOf", "(I)I"⟩ prog_1_method_17_code 1 (some .int) ∈ gw := gw_of (tb_4 (List.mem_of_getElem? (i := 189) (by decide +kernel))) (by decide +kernel)
theorem k_4_188 : Cond.static ⟨"PageScribe", "lengthOf", "(I)I"⟩ ∈ gw := gw_of (tb_4 (List.mem_of_getElem? (i := 188) (by decide +kernel))) (by decide +kernel)
theorem d_Memory_tellLength_27 : decode prog_5_method_5_code 27 = .ok (.aload_n 0, 1) := by decide +kernel
theorem d_Memory_tellLength_28 : decode prog_5_method_5_code 28 = .ok (.getfield 12, 3) := by decide +kernel
theorem d_Memory_tellLength_31 : decode prog_5_method_5_code 31 = .ok (.iload_n 1, 1) := by decide +kernel
theorem d_Memory_tellLength_32 : decode prog_5_method_5_code 32 = .ok (.invokevirtual 124, 3) := by decide +kernel
theorem k_5_9 : Cond.code ⟨"PageScribe$Store", "countOf", "(I)I"⟩ prog_10_method_8_code 2 (some .int) ∈ gw := gw_of (tb_5 (List.mem_of_getElem? (i := 9) (by decide +kernel))) (by decide +kernel)
theorem k_5_6 : Cond.methodLink "PageScribe$Memory" 124 ⟨"PageScribe$Store", "countOf", "(I)I"⟩ ∈ gw := gw_of (tb_5 (List.mem_of_getElem? (i := 6) (by decide +kernel))) (by decide +kernel)
theorem k_5_7 : Cond.instanceMethod ⟨"PageScribe$Store", "countOf", "(I)I"⟩ ∈ gw := gw_of (tb_5 (List.mem_of_getElem? (i := 7) (by decide +kernel))) (by decide +kernel)
theorem k_5_8 : Cond.selects "PageScribe$Store" ⟨"PageScribe$Store", "countOf", "(I)I"⟩ ⟨"PageScribe$Store", "countOf", "(I)I"⟩ ∈ gw := gw_of (tb_5 (List.mem_of_getElem? (i := 8) (by decide +kernel))) (by decide +kernel)
theorem d_Memory_tellLength_35 : decode prog_5_method_5_code 35 = .ok (.goto 7, 3) := by decide +kernel
set_option maxHeartbeats 4000000 in
set_option maxRecDepth 100000 in
theorem c_Memory_tellLength (l : Launch) (D : va_G) (T : Nat → ClassId) (ad : Nat → Nat) (g : GE) (Bq : Nat → Prop) (S : CS)  (sz : Nat)  (hI : CIv S) : Met l ⟨"PageScribe$Memory", "tellLength", "()I"⟩ (wy ⟨"PageScribe$Memory", "tellLength", "()I"⟩ prog_5_method_5_code 2 (some .int)) ({ frames := 3, cells := 0, slots := 0, locals := 210 }) (va_Pc [.ref (ad 8)] (Pw D T (cW T ad S) sz (EC g Bq ad))) (va_Qi (fun (r : Int32) (u : CS) => CIv u ∧ kcL S u ∧ kcP S u ∧ kcU S u ∧ kcW S u) (fun u t => Bw D T (va_A (cW T ad S) sz) (cW T ad u) t) (va_A (cW T ad S) sz)) 0 0 (va_A (cW T ad S) sz) := by
  refine j_met (y := ⟨"PageScribe$Memory", "tellLength", "()I"⟩) (b := prog_5_method_5_code) (n := 2) (ret := (some .int)) (av := [.ref (ad 8)]) (Qc := fun A => va_Qi (fun (r : Int32) (u : CS) => CIv u ∧ kcL S u ∧ kcP S u ∧ kcU S u ∧ kcW S u) (fun u t => Bw D T A (cW T ad u) t) A) (by decide +kernel) (Nat.le_of_ble_eq_true rfl) (fun p e s m args below meth c A ls F hr hlocks hnm hK hP hD hS hA hN hE hl => ?_)
  obtain ⟨hx, hb, hml, hown, hts⟩ := id F
  have hl : lv_has ls 2 [(0, .ref (ad 8))] := hl
  obtain ⟨i_vst, i_vc0, i_vc1, i_vc2, i_vc3, i_vv0, i_vv1, i_vv2, i_vv3, i_vg, i_wct, i_wln, i_sd0, i_sd1, i_sd2, i_sd3, i_rln, i_rtx, i_rpl, i_rtk, i_cnv, i_pts, i_cik, i_und⟩ := id hI
  have hAB : ∀ q, A q → Bq q := EC.ab hE hN
  have hEV := hE.1.narrow hAB
  refine lv_aload_n hx hb d_Memory_tellLength_0 rfl (lv_at hl 0 rfl) ?_
  refine va_get (D := D) (ci := 2) (v := .ref (ad 1)) (C := "PageScribe$Memory") (T := F_Memory) (N := 8) hx hb hts i_Memory hown hK hP 8 (ce_8 _ _ _) cl_2 0 (by decide) (hts _ k_1_129) (fun _ h9 => h9) rfl d_Memory_tellLength_1 ?_
  refine lv_iconst (v := 0) hx hb d_Memory_tellLength_4 (by decide) ?_
  refine jc_ci (w := (fun _ => S)) hK hP hD hS hA (va_runV (As := [.int 0]) (rest := []) F (c_Stack_numberDown l D T ad S (0 : Int32)  s.heap.size) (j_cV (k := 1) (C := "PageScribe$Stack") hts k_2_130 k_1_3 k_4_237 k_2_128 k_2_129 (by decide +kernel) ⟨Nat.le_of_ble_eq_true rfl, Nat.le_of_ble_eq_true rfl⟩) (j_preV (q0 := 1) (ci := 0) hK hP hD csc csc_all csc_nd cl_0 (ce_1 _ _ _) (fun _ _ _ _ h => h) (fun _ _ _ => trivial)) rfl rfl hl.1 rfl (lv_room (Nat.le_of_ble_eq_true rfl)) d_Memory_tellLength_5 ⟨Nat.le_of_ble_eq_true rfl, Nat.le_of_ble_eq_true rfl⟩) (fun rv1 u1 H locs hw1 hP hD hS => ?_)
  have hP : va_P D classes (cW T ad S) H := hP
  have hD : va_D A (cW T ad S) := hD
  have rrv1 := zt_rng rv1
  refine lv_istore_n (lv' := [(1, .int rv1), (0, .ref (ad 8))]) hx hb d_Memory_tellLength_8 rfl hl (by decide) rfl (fun ls hl => ?_)
  refine lv_aload_n hx hb d_Memory_tellLength_9 rfl (lv_at hl 1 rfl) ?_
  refine va_get (D := D) (ci := 2) (v := .ref (ad 1)) (C := "PageScribe$Memory") (T := F_Memory) (N := 8) hx hb hts i_Memory hown hK hP 8 (ce_8 _ _ _) cl_2 0 (by decide) (hts _ k_1_129) (fun _ h9 => h9) rfl d_Memory_tellLength_10 ?_
  refine lv_iconst (v := 1) hx hb d_Memory_tellLength_13 (by decide) ?_
  refine j_joinH (α := Int32) (fun x H locs ls => (True) ∧ va_P D classes (cW T ad S) H ∧ va_D A (cW T ad S) ∧ va_S A s.heap H locs ∧ lv_has ls 2 [(1, .int rv1), (0, .ref (ad 8))]) (fun x ls => F0 m 42 ls (.int x :: [.int 1, .ref (ad 1)])) (fun x H locs ls hI9 => ?_) (fun key1 => ?_)
  · obtain ⟨j1, rfl⟩ : ∃ z, z = x := ⟨_, rfl⟩
    obtain ⟨hj1, hP, hD, hS, hl⟩ := hI9
    have hP : va_P D classes (cW T ad S) H := hP
    have hD : va_D A (cW T ad S) := hD
    have hl : lv_has ls 2 [(1, .int rv1), (0, .ref (ad 8))] := hl
    refine jc_ci (w := (fun u => u)) hK hP hD hS hA (va_runV (As := [.int 1, .int j1]) (rest := []) F (c_Stack_giveInt l D T ad S (1 : Int32) j1  H.size ⟨i_vst, i_vc0, i_vc1, i_vc2, i_vc3, i_vv0, i_vv1, i_vv2, i_vv3, i_vg, i_wct, i_wln, i_sd0, i_sd1, i_sd2, i_sd3, i_rln, i_rtx, i_rpl, i_rtk, i_cnv, i_pts, i_cik, i_und⟩) (j_cV (k := 2) (C := "PageScribe$Stack") hts k_4_140 k_1_3 k_5_11 k_4_138 k_4_139 (by decide +kernel) ⟨Nat.le_of_ble_eq_true rfl, Nat.le_of_ble_eq_true rfl⟩) (j_preV (q0 := 1) (ci := 0) hK hP hD csc csc_all csc_nd cl_0 (ce_1 _ _ _) (fun _ _ _ _ h => h) (fun _ _ _ => trivial)) rfl rfl hl.1 rfl (lv_room (Nat.le_of_ble_eq_true rfl)) d_Memory_tellLength_42 ⟨Nat.le_of_ble_eq_true rfl, Nat.le_of_ble_eq_true rfl⟩) (fun rv2 S1 H locs hw2 hP hD hS => ?_)
    have hP : va_P D classes (cW T ad S1) H := hP
    have hD : va_D A (cW T ad S1) := hD
    obtain ⟨⟨i_vst, i_vc0, i_vc1, i_vc2, i_vc3, i_vv0, i_vv1, i_vv2, i_vv3, i_vg, i_wct, i_wln, i_sd0, i_sd1, i_sd2, i_sd3, i_rln, i_rtx, i_rpl, i_rtk, i_cnv, i_pts, i_cik, i_und⟩, kpcL_S1, kpcP_S1, kpcU_S1, kpcW_S1⟩ := hw2
    have kScL_S1 : kcL S S1 := kcL_t (show kcL S S from (kcL_r S)) kpcL_S1
    have kScP_S1 : kcP S S1 := kcP_t (show kcP S S from (kcP_r S)) kpcP_S1
    have kScU_S1 : kcU S S1 := kcU_t (show kcU S S from (kcU_r S)) kpcU_S1
    have kScW_S1 : kcW S S1 := kcW_t (show kcW S S from (kcW_r S)) kpcW_S1
    have nxr_length_S1 : (f_xr_length S1).toInt = (f_xr_length S).toInt := congrArg Int32.toInt kpcL_S1
    have nxr_length_S1 : (f_xr_length S1).toInt = (f_xr_length S).toInt := congrArg Int32.toInt kpcP_S1.1
    have nxr_place_S1 : (f_xr_place S1).toInt = (f_xr_place S).toInt := congrArg Int32.toInt kpcP_S1.2.1
    have nxe_underWay_S1 : (f_xe_underWay S1).toInt = (f_xe_underWay S).toInt := congrArg Int32.toInt kpcU_S1
    have nxp_columns_S1 : (f_xp_columns S1).toInt = (f_xp_columns S).toInt := congrArg Int32.toInt kpcW_S1.1
    have nxp_rows_S1 : (f_xp_rows S1).toInt = (f_xp_rows S).toInt := congrArg Int32.toInt kpcW_S1.2
    have rrv2 := zt_rng rv2
    exact j_iret F hr hlocks hK hS S1 ⟨⟨i_vst, i_vc0, i_vc1, i_vc2, i_vc3, i_vv0, i_vv1, i_vv2, i_vv3, i_vg, i_wct, i_wln, i_sd0, i_sd1, i_sd2, i_sd3, i_rln, i_rtx, i_rpl, i_rtk, i_cnv, i_pts, i_cik, i_und⟩, kScL_S1, kScP_S1, kScU_S1, kScW_S1⟩ hP hD d_Memory_tellLength_45
  · refine lv_aload_n hx hb d_Memory_tellLength_14 rfl (lv_at hl 1 rfl) ?_
    refine va_get (D := D) (ci := 2) (v := .ref (ad 1)) (C := "PageScribe$Memory") (T := F_Memory) (N := 8) hx hb hts i_Memory hown hK hP 8 (ce_8 _ _ _) cl_2 0 (by decide) (hts _ k_1_129) (fun _ h9 => h9) rfl d_Memory_tellLength_15 ?_
    refine lv_iconst (v := 0) hx hb d_Memory_tellLength_18 (by decide) ?_
    refine jc_ci (w := (fun _ => S)) hK hP hD hS hA (va_runV (As := [.int 0]) (rest := [.int 1, .ref (ad 1)]) F (c_Stack_kindDown l D T ad S (0 : Int32)  H.size) (j_cV (k := 1) (C := "PageScribe$Stack") hts k_2_120 k_1_3 k_5_5 k_2_118 k_2_119 (by decide +kernel) ⟨Nat.le_of_ble_eq_true rfl, Nat.le_of_ble_eq_true rfl⟩) (j_preV (q0 := 1) (ci := 0) hK hP hD csc csc_all csc_nd cl_0 (ce_1 _ _ _) (fun _ _ _ _ h => h) (fun _ _ _ => trivial)) rfl rfl hl.1 rfl (lv_room (Nat.le_of_ble_eq_true rfl)) d_Memory_tellLength_19 ⟨Nat.le_of_ble_eq_true rfl, Nat.le_of_ble_eq_true rfl⟩) (fun rv3 u2 H locs hw3 hP hD hS => ?_)
    have hP : va_P D classes (cW T ad S) H := hP
    have hD : va_D A (cW T ad S) := hD
    have rrv3 := zt_rng rv3
    refine lv_bipush (v := 6) hx hb d_Memory_tellLength_22 (by decide) ?_
    refine lv_icmp_ne (tgt := 38) hx hb d_Memory_tellLength_24 (by decide) (fun c24_1 => ?_) (fun c24_1 => ?_)
    · first | have fc24_1 : rv3.toInt < 6 := (by have := zt_ne (show rv3.toInt = _ from rfl) tI_6 c24_1; omega) | have fc24_1 : 6 < rv3.toInt := (by have := zt_ne (show rv3.toInt = _ from rfl) tI_6 c24_1; omega) | skip
      refine lv_iload_n hx hb d_Memory_tellLength_38 rfl (lv_at hl 0 rfl) ?_
      refine j_ci (wc := []) (wr := (cW T ad S)) hK hP hD hS hA [] csc rfl csc_all csc_nd (fun _ _ => List.not_mem_nil) (va_runSN (As := [.int rv1]) (rest := [.int 1, .ref (ad 1)]) F (c_Ps_lengthOf l D T rv1  H.size) (j_cSN (k := 1) hts k_4_189 k_1_1 (hE.2.2.2 (Cond.methodLinkNest "PageScribe$Memory" 127 ⟨"PageScribe", "lengthOf", "(I)I"⟩ "PageScribe") (List.mem_of_getElem? (i := 7) rfl)) k_4_188 (by decide +kernel) ⟨Nat.le_of_ble_eq_true rfl, Nat.le_of_ble_eq_true rfl⟩) (j_preS hK hP hD [] rfl (by decide) (fun _ _ _ _ h => h) (fun _ _ _ => trivial)) rfl rfl hl.1 rfl (lv_room (Nat.le_of_ble_eq_true rfl)) d_Memory_tellLength_39 ⟨Nat.le_of_ble_eq_true rfl, Nat.le_of_ble_eq_true rfl⟩) (fun rv4 u3 H locs hw4 hP hD hS => ?_)
      have hP : va_P D classes (cW T ad S) H := hP
      have hD : va_D A (cW T ad S) := hD
      have rrv4 := zt_rng rv4
      exact key1 (rv4) _ _ _ ⟨trivial, hP, hD, hS, lv_sub hl [0, 1] rfl⟩
    · have fc24_1 : rv3.toInt = 6 := zt_eq (show rv3.toInt = _ from rfl) tI_6 c24_1
      refine lv_aload_n hx hb d_Memory_tellLength_27 rfl (lv_at hl 1 rfl) ?_
      refine va_get (D := D) (ci := 2) (v := .ref (ad 12)) (C := "PageScribe$Memory") (T := F_Memory) (N := 8) hx hb hts i_Memory hown hK hP 8 (ce_8 _ _ _) cl_2 1 (by decide) (hts _ k_1_130) (fun _ h9 => h9) rfl d_Memory_tellLength_28 ?_
      refine lv_iload_n hx hb d_Memory_tellLength_31 rfl (lv_at hl 0 rfl) ?_
      refine jc_ci (w := (fun _ => S)) hK hP hD hS hA (va_runV (As := [.int rv1]) (rest := [.int 1, .ref (ad 1)]) F (c_Store_countOf l D T ad S rv1  H.size) (j_cV (k := 1) (C := "PageScribe$Store") hts k_5_9 k_1_6 k_5_6 k_5_7 k_5_8 (by decide +kernel) ⟨Nat.le_of_ble_eq_true rfl, Nat.le_of_ble_eq_true rfl⟩) (j_preV (q0 := 12) (ci := 3) hK hP hD csc csc_all csc_nd cl_3 (ce_12 _ _ _) (fun _ _ _ _ h => h) (fun _ _ _ => trivial)) rfl rfl hl.1 rfl (lv_room (Nat.le_of_ble_eq_true rfl)) d_Memory_tellLength_32 ⟨Nat.le_of_ble_eq_true rfl, Nat.le_of_ble_eq_true rfl⟩) (fun rv5 u4 H locs hw5 hP hD hS => ?_)
      have hP : va_P D classes (cW T ad S) H := hP
      have hD : va_D A (cW T ad S) := hD
      have rrv5 := zt_rng rv5
      refine lv_goto (tgt := 42) hx hb d_Memory_tellLength_35 (by decide) ?_
      exact key1 (rv5) _ _ _ ⟨trivial, hP, hD, hS, lv_sub hl [0, 1] rfl⟩
theorem d_Memory_getCell_0 : decode prog_5_method_6_code 0 = .ok (.aload_n 0, 1) := by decide +kernel
theorem d_Memory_getCell_1 : decode prog_5_method_6_code 1 = .ok (.getfield 39, 3) := by decide +kernel
theorem d_Memory_getCell_4 : decode prog_5_method_6_code 4 = .ok (.iconst 1, 1) := by decide +kernel
theorem d_Memory_getCell_5 : decode prog_5_method_6_code 5 = .ok (.invokevirtual 105, 3) := by decide +kernel
theorem d_Memory_getCell_8 : decode prog_5_method_6_code 8 = .ok (.istore_n 1, 1) := by decide +kernel
theorem d_Memory_getCell_9 : decode prog_5_method_6_code 9 = .ok (.aload_n 0, 1) := by decide +kernel
theorem d_Memory_getCell_10 : decode prog_5_method_6_code 10 = .ok (.getfield 39, 3) := by decide +kernel
theorem d_Memory_getCell_13 : decode prog_5_method_6_code 13 = .ok (.iconst 0, 1) := by decide +kernel
theorem d_Memory_getCell_14 : decode prog_5_method_6_code 14 = .ok (.invokevirtual 105, 3) := by decide +kernel
theorem d_Memory_getCell_17 : decode prog_5_method_6_code 17 = .ok (.istore_n 2, 1) := by decide +kernel
theorem d_Memory_getCell_18 : decode prog_5_method_6_code 18 = .ok (.iload_n 2, 1) := by decide +kernel
theorem d_Memory_getCell_19 : decode prog_5_method_6_code 19 = .ok (.ifCond .lt 11, 3) := by decide +kernel
theorem d_Memory_getCell_30 : decode prog_5_method_6_code 30 = .ok (.iconst 4, 1) := by decide +kernel
theorem d_Memory_getCell_31 : decode prog_5_method_6_code 31 = .ok (.ireturn, 1) := by decide +kernel
theorem d_Memory_getCell_22 : decode prog_5_method_6_code 22 = .ok (.iload_n 2, 1) := by decide +kernel
theorem d_Memory_getCell_23 : decode prog_5_method_6_code 23 = .ok (.iload_n 1, 1) := by decide +kernel
theorem d_Memory_getCell_24 : decode prog_5_method_6_code 24 = .ok (.invokestatic 127, 3) := by decide +kernel
theorem d_Memory_getCell_27 : decode prog_5_method_6_code 27 = .ok (.if_icmp .lt 5, 3) := by decide +kernel
theorem d_Memory_getCell_32 : decode prog_5_method_6_code 32 = .ok (.aload_n 0, 1) := by decide +kernel
theorem d_Memory_getCell_33 : decode prog_5_method_6_code 33 = .ok (.getfield 39, 3) := by decide +kernel
theorem d_Memory_getCell_36 : decode prog_5_method_6_code 36 = .ok (.iconst 2, 1) := by decide +kernel
theorem d_Memory_getCell_37 : decode prog_5_method_6_code 37 = .ok (.invokevirtual 97, 3) := by decide +kernel
theorem d_Memory_getCell_40 : decode prog_5_method_6_code 40 = .ok (.aload_n 0, 1) := by decide +kernel
theorem d_Memory_getCell_41 : decode prog_5_method_6_code 41 = .ok (.getfield 39, 3) := by decide +kernel
theorem d_Memory_getCell_44 : decode prog_5_method_6_code 44 = .ok (.aload_n 0, 1) := by decide +kernel
theorem d_Memory_getCell_45 : decode prog_5_method_6_code 45 = .ok (.getfield 12, 3) := by decide +kernel
theorem d_Memory_getCell_48 : decode prog_5_method_6_code 48 = .ok (.getfield 112, 3) := by decide +kernel
theorem d_Memory_getCell_51 : decode prog_5_method_6_code 51 = .ok (.iload_n 1, 1) := by decide +kernel
theorem d_Memory_getCell_52 : decode prog_5_method_6_code 52 = .ok (.invokestatic 133, 3) := by decide +kernel
theorem k_5_23 : Cond.code ⟨"PageScribe", "firstOf", "(I)I"⟩ prog_1_method_16_code 1 (some .int) ∈ gw := gw_of (tb_5 (List.mem_of_getElem? (i := 23) (by decide +kernel))) (by decide +kernel)
theorem k_5_22 : Cond.static ⟨"PageScribe", "firstOf", "(I)I"⟩ ∈ gw := gw_of (tb_5 (List.mem_of_getElem? (i := 22) (by decide +kernel))) (by decide +kernel)
theorem d_Memory_getCell_55 : decode prog_5_method_6_code 55 = .ok (.iload_n 2, 1) := by decide +kernel
theorem d_Memory_getCell_56 : decode prog_5_method_6_code 56 = .ok (.iadd, 1) := by decide +kernel
theorem d_Memory_getCell_57 : decode prog_5_method_6_code 57 = .ok (.invokevirtual 136, 3) := by decide +kernel
theorem k_5_16 : Cond.methodLink "PageScribe$Memory" 136 ⟨"PageScribe$Stack", "pushFrom", "(LPageScribe$Row;I)I"⟩ ∈ gw := gw_of (tb_5 (List.mem_of_getElem? (i := 16) (by decide +kernel))) (by decide +kernel)
theorem d_Memory_getCell_60 : decode prog_5_method_6_code 60 = .ok (.ireturn, 1) := by decide +kernel
set_option maxHeartbeats 4000000 in
set_option maxRecDepth 100000 in
theorem c_Memory_getCell (l : Launch) (D : va_G) (T : Nat → ClassId) (ad : Nat → Nat) (g : GE) (Bq : Nat → Prop) (S : CS)  (sz : Nat)  (hI : CIv S) : Met l ⟨"PageScribe$Memory", "getCell", "()I"⟩ (wy ⟨"PageScribe$Memory", "getCell", "()I"⟩ prog_5_method_6_code 3 (some .int)) ({ frames := 2, cells := 0, slots := 0, locals := 140 }) (va_Pc [.ref (ad 8)] (Pw D T (cW T ad S) sz (EC g Bq ad))) (va_Qi (fun (r : Int32) (u : CS) => CIv u ∧ kcL S u ∧ kcP S u ∧ kcU S u ∧ kcW S u) (fun u t => Bw D T (va_A (cW T ad S) sz) (cW T ad u) t) (va_A (cW T ad S) sz)) 0 0 (va_A (cW T ad S) sz) := by
  refine j_met (y := ⟨"PageScribe$Memory", "getCell", "()I"⟩) (b := prog_5_method_6_code) (n := 3) (ret := (some .int)) (av := [.ref (ad 8)]) (Qc := fun A => va_Qi (fun (r : Int32) (u : CS) => CIv u ∧ kcL S u ∧ kcP S u ∧ kcU S u ∧ kcW S u) (fun u t => Bw D T A (cW T ad u) t) A) (by decide +kernel) (Nat.le_of_ble_eq_true rfl) (fun p e s m args below meth c A ls F hr hlocks hnm hK hP hD hS hA hN hE hl => ?_)
  obtain ⟨hx, hb, hml, hown, hts⟩ := id F
  have hl : lv_has ls 3 [(0, .ref (ad 8))] := hl
  obtain ⟨i_vst, i_vc0, i_vc1, i_vc2, i_vc3, i_vv0, i_vv1, i_vv2, i_vv3, i_vg, i_wct, i_wln, i_sd0, i_sd1, i_sd2, i_sd3, i_rln, i_rtx, i_rpl, i_rtk, i_cnv, i_pts, i_cik, i_und⟩ := id hI
  have hAB : ∀ q, A q → Bq q := EC.ab hE hN
  have hEV := hE.1.narrow hAB
  refine lv_aload_n hx hb d_Memory_getCell_0 rfl (lv_at hl 0 rfl) ?_
  refine va_get (D := D) (ci := 2) (v := .ref (ad 1)) (C := "PageScribe$Memory") (T := F_Memory) (N := 8) hx hb hts i_Memory hown hK hP 8 (ce_8 _ _ _) cl_2 0 (by decide) (hts _ k_1_129) (fun _ h9 => h9) rfl d_Memory_getCell_1 ?_
  refine lv_iconst (v := 1) hx hb d_Memory_getCell_4 (by decide) ?_
  refine jc_ci (w := (fun _ => S)) hK hP hD hS hA (va_runV (As := [.int 1]) (rest := []) F (c_Stack_numberDown l D T ad S (1 : Int32)  s.heap.size) (j_cV (k := 1) (C := "PageScribe$Stack") hts k_2_130 k_1_3 k_4_237 k_2_128 k_2_129 (by decide +kernel) ⟨Nat.le_of_ble_eq_true rfl, Nat.le_of_ble_eq_true rfl⟩) (j_preV (q0 := 1) (ci := 0) hK hP hD csc csc_all csc_nd cl_0 (ce_1 _ _ _) (fun _ _ _ _ h => h) (fun _ _ _ => trivial)) rfl rfl hl.1 rfl (lv_room (Nat.le_of_ble_eq_true rfl)) d_Memory_getCell_5 ⟨Nat.le_of_ble_eq_true rfl, Nat.le_of_ble_eq_true rfl⟩) (fun rv1 u1 H locs hw1 hP hD hS => ?_)
  have hP : va_P D classes (cW T ad S) H := hP
  have hD : va_D A (cW T ad S) := hD
  have rrv1 := zt_rng rv1
  refine lv_istore_n (lv' := [(1, .int rv1), (0, .ref (ad 8))]) hx hb d_Memory_getCell_8 rfl hl (by decide) rfl (fun ls hl => ?_)
  refine lv_aload_n hx hb d_Memory_getCell_9 rfl (lv_at hl 1 rfl) ?_
  refine va_get (D := D) (ci := 2) (v := .ref (ad 1)) (C := "PageScribe$Memory") (T := F_Memory) (N := 8) hx hb hts i_Memory hown hK hP 8 (ce_8 _ _ _) cl_2 0 (by decide) (hts _ k_1_129) (fun _ h9 => h9) rfl d_Memory_getCell_10 ?_
  refine lv_iconst (v := 0) hx hb d_Memory_getCell_13 (by decide) ?_
  refine jc_ci (w := (fun _ => S)) hK hP hD hS hA (va_runV (As := [.int 0]) (rest := []) F (c_Stack_numberDown l D T ad S (0 : Int32)  H.size) (j_cV (k := 1) (C := "PageScribe$Stack") hts k_2_130 k_1_3 k_4_237 k_2_128 k_2_129 (by decide +kernel) ⟨Nat.le_of_ble_eq_true rfl, Nat.le_of_ble_eq_true rfl⟩) (j_preV (q0 := 1) (ci := 0) hK hP hD csc csc_all csc_nd cl_0 (ce_1 _ _ _) (fun _ _ _ _ h => h) (fun _ _ _ => trivial)) rfl rfl hl.1 rfl (lv_room (Nat.le_of_ble_eq_true rfl)) d_Memory_getCell_14 ⟨Nat.le_of_ble_eq_true rfl, Nat.le_of_ble_eq_true rfl⟩) (fun rv2 u2 H locs hw2 hP hD hS => ?_)
  have hP : va_P D classes (cW T ad S) H := hP
  have hD : va_D A (cW T ad S) := hD
  have rrv2 := zt_rng rv2
  refine lv_istore_n (lv' := [(2, .int rv2), (1, .int rv1), (0, .ref (ad 8))]) hx hb d_Memory_getCell_17 rfl hl (by decide) rfl (fun ls hl => ?_)
  refine lv_iload_n hx hb d_Memory_getCell_18 rfl (lv_at hl 0 rfl) ?_
  refine lv_if_lt (tgt := 30) hx hb d_Memory_getCell_19 (by decide) (fun c19_1 => ?_) (fun c19_1 => ?_)
  · have fc19_1 : rv2.toInt < 0 := zt_lt (show rv2.toInt = _ from rfl) tI_0 c19_1
    refine lv_iconst (v := 4) hx hb d_Memory_getCell_30 (by decide) ?_
    exact j_iret F hr hlocks hK hS S ⟨⟨i_vst, i_vc0, i_vc1, i_vc2, i_vc3, i_vv0, i_vv1, i_vv2, i_vv3, i_vg, i_wct, i_wln, i_sd0, i_sd1, i_sd2, i_sd3, i_rln, i_rtx, i_rpl, i_rtk, i_cnv, i_pts, i_cik, i_und⟩, (kcL_r S), (kcP_r S), (kcU_r S), (kcW_r S)⟩ hP hD d_Memory_getCell_31
  · have fc19_1 : 0 ≤ rv2.toInt := Int.not_lt.mp (zt_nlt (show rv2.toInt = _ from rfl) tI_0 c19_1)
    refine lv_iload_n hx hb d_Memory_getCell_22 rfl (lv_at hl 0 rfl) ?_
    refine lv_iload_n hx hb d_Memory_getCell_23 rfl (lv_at hl 1 rfl) ?_
    refine j_ci (wc := []) (wr := (cW T ad S)) hK hP hD hS hA [] csc rfl csc_all csc_nd (fun _ _ => List.not_mem_nil) (va_runSN (As := [.int rv1]) (rest := [.int rv2]) F (c_Ps_lengthOf l D T rv1  H.size) (j_cSN (k := 1) hts k_4_189 k_1_1 (hE.2.2.2 (Cond.methodLinkNest "PageScribe$Memory" 127 ⟨"PageScribe", "lengthOf", "(I)I"⟩ "PageScribe") (List.mem_of_getElem? (i := 7) rfl)) k_4_188 (by decide +kernel) ⟨Nat.le_of_ble_eq_true rfl, Nat.le_of_ble_eq_true rfl⟩) (j_preS hK hP hD [] rfl (by decide) (fun _ _ _ _ h => h) (fun _ _ _ => trivial)) rfl rfl hl.1 rfl (lv_room (Nat.le_of_ble_eq_true rfl)) d_Memory_getCell_24 ⟨Nat.le_of_ble_eq_true rfl, Nat.le_of_ble_eq_true rfl⟩) (fun rv3 u3 H locs hw3 hP hD hS => ?_)
    have hP : va_P D classes (cW T ad S) H := hP
    have hD : va_D A (cW T ad S) := hD
    have rrv3 := zt_rng rv3
    refine lv_icmp_lt (tgt := 32) hx hb d_Memory_getCell_27 (by decide) (fun c27_1 => ?_) (fun c27_1 => ?_)
    · have fc27_1 : rv2.toInt < rv3.toInt := zt_lt (show rv2.toInt = _ from rfl) (show rv3.toInt = _ from rfl) c27_1
      refine lv_aload_n hx hb d_Memory_getCell_32 rfl (lv_at hl 2 rfl) ?_
      refine va_get (D := D) (ci := 2) (v := .ref (ad 1)) (C := "PageScribe$Memory") (T := F_Memory) (N := 8) hx hb hts i_Memory hown hK hP 8 (ce_8 _ _ _) cl_2 0 (by decide) (hts _ k_1_129) (fun _ h9 => h9) rfl d_Memory_getCell_33 ?_
      refine lv_iconst (v := 2) hx hb d_Memory_getCell_36 (by decide) ?_
      refine jc_cv (w := (fun u => u)) hK hP hD hS hA (va_runU (As := [.int 2]) (rest := []) F (c_Row_drop l D T ad S (2 : Int32)  H.size ⟨i_vst, i_vc0, i_vc1, i_vc2, i_vc3, i_vv0, i_vv1, i_vv2, i_vv3, i_vg, i_wct, i_wln, i_sd0, i_sd1, i_sd2, i_sd3, i_rln, i_rtx, i_rpl, i_rtk, i_cnv, i_pts, i_cik, i_und⟩) (j_cU (k := 1) (C := "PageScribe$Stack") (owner := "PageScribe$Row") (x := ⟨"PageScribe$Stack", "drop", "(I)V"⟩) hts k_4_47 k_4_231 k_4_43 k_4_45 k_4_46 k_1_2 rfl (by decide +kernel) ⟨Nat.le_of_ble_eq_true rfl, Nat.le_of_ble_eq_true rfl⟩) (j_preV (q0 := 1) (ci := 0) hK hP hD csc csc_all csc_nd cl_0 (ce_1 _ _ _) (fun _ _ _ _ h => h) (fun _ _ _ => trivial)) rfl rfl hl.1 rfl (lv_room (Nat.le_of_ble_eq_true rfl)) d_Memory_getCell_37 ⟨Nat.le_of_ble_eq_true rfl, Nat.le_of_ble_eq_true rfl⟩) (fun S1 H locs hw4 hP hD hS => ?_)
      have hP : va_P D classes (cW T ad S1) H := hP
      have hD : va_D A (cW T ad S1) := hD
      obtain ⟨⟨i_vst, i_vc0, i_vc1, i_vc2, i_vc3, i_vv0, i_vv1, i_vv2, i_vv3, i_vg, i_wct, i_wln, i_sd0, i_sd1, i_sd2, i_sd3, i_rln, i_rtx, i_rpl, i_rtk, i_cnv, i_pts, i_cik, i_und⟩, kpcL_S1, kpcP_S1, kpcU_S1, kpcW_S1⟩ := hw4
      have kScL_S1 : kcL S S1 := kcL_t (show kcL S S from (kcL_r S)) kpcL_S1
      have kScP_S1 : kcP S S1 := kcP_t (show kcP S S from (kcP_r S)) kpcP_S1
      have kScU_S1 : kcU S S1 := kcU_t (show kcU S S from (kcU_r S)) kpcU_S1
      have kScW_S1 : kcW S S1 := kcW_t (show kcW S S from (kcW_r S)) kpcW_S1
      have nxr_length_S1 : (f_xr_length S1).toInt = (f_xr_length S).toInt := congrArg Int32.toInt kpcL_S1
      have nxr_length_S1 : (f_xr_length S1).toInt = (f_xr_length S).toInt := congrArg Int32.toInt kpcP_S1.1
      have nxr_place_S1 : (f_xr_place S1).toInt = (f_xr_place S).toInt := congrArg Int32.toInt kpcP_S1.2.1
      have nxe_underWay_S1 : (f_xe_underWay S1).toInt = (f_xe_underWay S).toInt := congrArg Int32.toInt kpcU_S1
      have nxp_columns_S1 : (f_xp_columns S1).toInt = (f_xp_columns S).toInt := congrArg Int32.toInt kpcW_S1.1
      have nxp_rows_S1 : (f_xp_rows S1).toInt = (f_xp_rows S).toInt := congrArg Int32.toInt kpcW_S1.2
      refine lv_aload_n hx hb d_Memory_getCell_40 rfl (lv_at hl 2 rfl) ?_
      refine va_get (D := D) (ci := 2) (v := .ref (ad 1)) (C := "PageScribe$Memory") (T := F_Memory) (N := 8) hx hb hts i_Memory hown hK hP 8 (ce_8 _ _ _) cl_2 0 (by decide) (hts _ k_1_129) (fun _ h9 => h9) rfl d_Memory_getCell_41 ?_
      refine lv_aload_n hx hb d_Memory_getCell_44 rfl (lv_at hl 2 rfl) ?_
      refine va_get (D := D) (ci := 2) (v := .ref (ad 12)) (C := "PageScribe$Memory") (T := F_Memory) (N := 8) hx hb hts i_Memory hown hK hP 8 (ce_8 _ _ _) cl_2 1 (by decide) (hts _ k_1_130) (fun _ h9 => h9) rfl d_Memory_getCell_45 ?_
      refine va_get (D := D) (ci := 3) (v := .ref (ad 13)) (C := "PageScribe$Store") (T := F_Store) (N := 5) hx hb hts i_Store hown hK hP 12 (ce_12 _ _ _) cl_3 0 (by decide) (hts _ k_1_108) (fun _ h9 => h9) rfl d_Memory_getCell_48 ?_
      refine lv_iload_n hx hb d_Memory_getCell_51 rfl (lv_at hl 1 rfl) ?_
      refine j_ci (wc := []) (wr := (cW T ad S1)) hK hP hD hS hA [] csc rfl csc_all csc_nd (fun _ _ => List.not_mem_nil) (va_runSN (As := [.int rv1]) (rest := [.ref (ad 13), .ref (ad 1)]) F (c_Ps_firstOf l D T rv1  H.size) (j_cSN (k := 1) hts k_5_23 k_1_1 (hE.2.2.2 (Cond.methodLinkNest "PageScribe$Memory" 133 ⟨"PageScribe", "firstOf", "(I)I"⟩ "PageScribe") (List.mem_of_getElem? (i := 8) rfl)) k_5_22 (by decide +kernel) ⟨Nat.le_of_ble_eq_true rfl, Nat.le_of_ble_eq_true rfl⟩) (j_preS hK hP hD [] rfl (by decide) (fun _ _ _ _ h => h) (fun _ _ _ => trivial)) rfl rfl hl.1 rfl (lv_room (Nat.le_of_ble_eq_true rfl)) d_Memory_getCell_52 ⟨Nat.le_of_ble_eq_true rfl, Nat.le_of_ble_eq_true rfl⟩) (fun rv5 u4 H locs hw5 hP hD hS => ?_)
      have hP : va_P D classes (cW T ad S1) H := hP
      have hD : va_D A (cW T ad S1) := hD
      have rrv5 := zt_rng rv5
      refine lv_iload_n hx hb d_Memory_getCell_55 rfl (lv_at hl 0 rfl) ?_
      refine lv_iadd hx hb d_Memory_getCell_56 ?_
      refine lv_topi (fun x1 ex1 => ?_)
      have rx1 := zt_rng x1
      refine jc_ci (w := (fun u => u)) hK hP hD hS hA (va_runU (As := [.ref (ad 13), .int x1]) (rest := []) F (c_Row_pushFrom_1_13 l D T ad S1 x1  H.size ⟨i_vst, i_vc0, i_vc1, i_vc2, i_vc3, i_vv0, i_vv1, i_vv2, i_vv3, i_vg, i_wct, i_wln, i_sd0, i_sd1, i_sd2, i_sd3, i_rln, i_rtx, i_rpl, i_rtk, i_cnv, i_pts, i_cik, i_und⟩) (j_cU (k := 2) (C := "PageScribe$Stack") (owner := "PageScribe$Row") (x := ⟨"PageScribe$Stack", "pushFrom", "(LPageScribe$Row;I)I"⟩) hts k_3_96 k_5_16 k_4_64 k_4_66 k_3_92 k_1_2 rfl (by decide +kernel) ⟨Nat.le_of_ble_eq_true rfl, Nat.le_of_ble_eq_true rfl⟩) (j_preV (q0 := 1) (ci := 0) hK hP hD csc csc_all csc_nd cl_0 (ce_1 _ _ _) (fun _ _ _ _ h => h) (fun _ _ _ => trivial)) rfl rfl hl.1 rfl (lv_room (Nat.le_of_ble_eq_true rfl)) d_Memory_getCell_57 ⟨Nat.le_of_ble_eq_true rfl, Nat.le_of_ble_eq_true rfl⟩) (fun rv6 S2 H locs hw6 hP hD hS => ?_)
      have hP : va_P D classes (cW T ad S2) H := hP
      have hD : va_D A (cW T ad S2) := hD
      obtain ⟨⟨i_vst, i_vc0, i_vc1, i_vc2, i_vc3, i_vv0, i_vv1, i_vv2, i_vv3, i_vg, i_wct, i_wln, i_sd0, i_sd1, i_sd2, i_sd3, i_rln, i_rtx, i_rpl, i_rtk, i_cnv, i_pts, i_cik, i_und⟩, kpcL_S2, kpcP_S2, kpcU_S2, kpcW_S2⟩ := hw6
      have kScL_S2 : kcL S S2 := kcL_t (show kcL S S1 from kScL_S1) kpcL_S2
      have kScP_S2 : kcP S S2 := kcP_t (show kcP S S1 from kScP_S1) kpcP_S2
      have kScU_S2 : kcU S S2 := kcU_t (show kcU S S1 from kScU_S1) kpcU_S2
      have kScW_S2 : kcW S S2 := kcW_t (show kcW S S1 from kScW_S1) kpcW_S2
      have nxr_length_S2 : (f_xr_length S2).toInt = (f_xr_length S1).toInt := congrArg Int32.toInt kpcL_S2
      have nxr_length_S2 : (f_xr_length S2).toInt = (f_xr_length S1).toInt := congrArg Int32.toInt kpcP_S2.1
      have nxr_place_S2 : (f_xr_place S2).toInt = (f_xr_place S1).toInt := congrArg Int32.toInt kpcP_S2.2.1
      have nxe_underWay_S2 : (f_xe_underWay S2).toInt = (f_xe_underWay S1).toInt := congrArg Int32.toInt kpcU_S2
      have nxp_columns_S2 : (f_xp_columns S2).toInt = (f_xp_columns S1).toInt := congrArg Int32.toInt kpcW_S2.1
      have nxp_rows_S2 : (f_xp_rows S2).toInt = (f_xp_rows S1).toInt := congrArg Int32.toInt kpcW_S2.2
      have rrv6 := zt_rng rv6
      exact j_iret F hr hlocks hK hS S2 ⟨⟨i_vst, i_vc0, i_vc1, i_vc2, i_vc3, i_vv0, i_vv1, i_vv2, i_vv3, i_vg, i_wct, i_wln, i_sd0, i_sd1, i_sd2, i_sd3, i_rln, i_rtx, i_rpl, i_rtk, i_cnv, i_pts, i_cik, i_und⟩, kScL_S2, kScP_S2, kScU_S2, kScW_S2⟩ hP hD d_Memory_getCell_60
    · have fc27_1 : rv3.toInt ≤ rv2.toInt := Int.not_lt.mp (zt_nlt (show rv2.toInt = _ from rfl) (show rv3.toInt = _ from rfl) c27_1)
      refine lv_iconst (v := 4) hx hb d_Memory_getCell_30 (by decide) ?_
      exact j_iret F hr hlocks hK hS S ⟨⟨i_vst, i_vc0, i_vc1, i_vc2, i_vc3, i_vv0, i_vv1, i_vv2, i_vv3, i_vg, i_wct, i_wln, i_sd0, i_sd1, i_sd2, i_sd3, i_rln, i_rtx, i_rpl, i_rtk, i_cnv, i_pts, i_cik, i_und⟩, (kcL_r S), (kcP_r S), (kcU_r S), (kcW_r S)⟩ hP hD d_Memory_getCell_31
theorem d_Memory_getEntry_0 : decode prog_5_method_7_code 0 = .ok (.aload_n 0, 1) := by decide +kernel
theorem d_Memory_getEntry_1 : decode prog_5_method_7_code 1 = .ok (.getfield 12, 3) := by decide +kernel
theorem d_Memory_getEntry_4 : decode prog_5_method_7_code 4 = .ok (.aload_n 0, 1) := by decide +kernel
theorem d_Memory_getEntry_5 : decode prog_5_method_7_code 5 = .ok (.getfield 39, 3) := by decide +kernel
theorem d_Memory_getEntry_8 : decode prog_5_method_7_code 8 = .ok (.iconst 1, 1) := by decide +kernel
theorem d_Memory_getEntry_9 : decode prog_5_method_7_code 9 = .ok (.invokevirtual 105, 3) := by decide +kernel
theorem d_Memory_getEntry_12 : decode prog_5_method_7_code 12 = .ok (.aload_n 0, 1) := by decide +kernel
theorem d_Memory_getEntry_13 : decode prog_5_method_7_code 13 = .ok (.getfield 39, 3) := by decide +kernel
theorem d_Memory_getEntry_16 : decode prog_5_method_7_code 16 = .ok (.iconst 0, 1) := by decide +kernel
theorem d_Memory_getEntry_17 : decode prog_5_method_7_code 17 = .ok (.invokevirtual 105, 3) := by decide +kernel
theorem d_Memory_getEntry_20 : decode prog_5_method_7_code 20 = .ok (.invokevirtual 140, 3) := by decide +kernel
theorem k_3_181 : Cond.methodLink "PageScribe$Memory" 140 ⟨"PageScribe$Store", "find", "(II)I"⟩ ∈ gw := gw_of (tb_3 (List.mem_of_getElem? (i := 181) (by decide +kernel))) (by decide +kernel)
theorem d_Memory_getEntry_23 : decode prog_5_method_7_code 23 = .ok (.istore_n 1, 1) := by decide +kernel
theorem d_Memory_getEntry_24 : decode prog_5_method_7_code 24 = .ok (.iload_n 1, 1) := by decide +kernel
theorem d_Memory_getEntry_25 : decode prog_5_method_7_code 25 = .ok (.ifCond .ge 5, 3) := by decide +kernel
theorem d_Memory_getEntry_30 : decode prog_5_method_7_code 30 = .ok (.aload_n 0, 1) := by decide +kernel
theorem d_Memory_getEntry_31 : decode prog_5_method_7_code 31 = .ok (.getfield 39, 3) := by decide +kernel
theorem d_Memory_getEntry_34 : decode prog_5_method_7_code 34 = .ok (.iconst 2, 1) := by decide +kernel
theorem d_Memory_getEntry_35 : decode prog_5_method_7_code 35 = .ok (.invokevirtual 97, 3) := by decide +kernel
theorem d_Memory_getEntry_38 : decode prog_5_method_7_code 38 = .ok (.aload_n 0, 1) := by decide +kernel
theorem d_Memory_getEntry_39 : decode prog_5_method_7_code 39 = .ok (.getfield 39, 3) := by decide +kernel
theorem d_Memory_getEntry_42 : decode prog_5_method_7_code 42 = .ok (.aload_n 0, 1) := by decide +kernel
theorem d_Memory_getEntry_43 : decode prog_5_method_7_code 43 = .ok (.getfield 12, 3) := by decide +kernel
theorem d_Memory_getEntry_46 : decode prog_5_method_7_code 46 = .ok (.getfield 143, 3) := by decide +kernel
theorem k_1_116 : Cond.fieldLink "PageScribe$Memory" 143 "PageScribe$Store" "values" "LPageScribe$Row;" ∈ gw := gw_of (tb_1 (List.mem_of_getElem? (i := 116) (by decide +kernel))) (by decide +kernel)
theorem d_Memory_getEntry_49 : decode prog_5_method_7_code 49 = .ok (.iload_n 1, 1) := by decide +kernel
theorem d_Memory_getEntry_50 : decode prog_5_method_7_code 50 = .ok (.invokevirtual 136, 3) := by decide +kernel
theorem d_Memory_getEntry_53 : decode prog_5_method_7_code 53 = .ok (.ireturn, 1) := by decide +kernel
theorem d_Memory_getEntry_28 : decode prog_5_method_7_code 28 = .ok (.iconst 5, 1) := by decide +kernel
theorem d_Memory_getEntry_29 : decode prog_5_method_7_code 29 = .ok (.ireturn, 1) := by decide +kernel
set_option maxHeartbeats 4000000 in
set_option maxRecDepth 100000 in
theorem c_Memory_getEntry (l : Launch) (D : va_G) (T : Nat → ClassId) (ad : Nat → Nat) (g : GE) (Bq : Nat → Prop) (S : CS)  (sz : Nat)  (hI : CIv S) : Met l ⟨"PageScribe$Memory", "getEntry", "()I"⟩ (wy ⟨"PageScribe$Memory", "getEntry", "()I"⟩ prog_5_method_7_code 2 (some .int)) ({ frames := 2, cells := 0, slots := 0, locals := 140 }) (va_Pc [.ref (ad 8)] (Pw D T (cW T ad S) sz (EC g Bq ad))) (va_Qi (fun (r : Int32) (u : CS) => CIv u ∧ kcL S u ∧ kcP S u ∧ kcU S u ∧ kcW S u) (fun u t => Bw D T (va_A (cW T ad S) sz) (cW T ad u) t) (va_A (cW T ad S) sz)) 0 0 (va_A (cW T ad S) sz) := by
  refine j_met (y := ⟨"PageScribe$Memory", "getEntry", "()I"⟩) (b := prog_5_method_7_code) (n := 2) (ret := (some .int)) (av := [.ref (ad 8)]) (Qc := fun A => va_Qi (fun (r : Int32) (u : CS) => CIv u ∧ kcL S u ∧ kcP S u ∧ kcU S u ∧ kcW S u) (fun u t => Bw D T A (cW T ad u) t) A) (by decide +kernel) (Nat.le_of_ble_eq_true rfl) (fun p e s m args below meth c A ls F hr hlocks hnm hK hP hD hS hA hN hE hl => ?_)
  obtain ⟨hx, hb, hml, hown, hts⟩ := id F
  have hl : lv_has ls 2 [(0, .ref (ad 8))] := hl
  obtain ⟨i_vst, i_vc0, i_vc1, i_vc2, i_vc3, i_vv0, i_vv1, i_vv2, i_vv3, i_vg, i_wct, i_wln, i_sd0, i_sd1, i_sd2, i_sd3, i_rln, i_rtx, i_rpl, i_rtk, i_cnv, i_pts, i_cik, i_und⟩ := id hI
  have hAB : ∀ q, A q → Bq q := EC.ab hE hN
  have hEV := hE.1.narrow hAB
  refine lv_aload_n hx hb d_Memory_getEntry_0 rfl (lv_at hl 0 rfl) ?_
  refine va_get (D := D) (ci := 2) (v := .ref (ad 12)) (C := "PageScribe$Memory") (T := F_Memory) (N := 8) hx hb hts i_Memory hown hK hP 8 (ce_8 _ _ _) cl_2 1 (by decide) (hts _ k_1_130) (fun _ h9 => h9) rfl d_Memory_getEntry_1 ?_
  refine lv_aload_n hx hb d_Memory_getEntry_4 rfl (lv_at hl 0 rfl) ?_
  refine va_get (D := D) (ci := 2) (v := .ref (ad 1)) (C := "PageScribe$Memory") (T := F_Memory) (N := 8) hx hb hts i_Memory hown hK hP 8 (ce_8 _ _ _) cl_2 0 (by decide) (hts _ k_1_129) (fun _ h9 => h9) rfl d_Memory_getEntry_5 ?_
  refine lv_iconst (v := 1) hx hb d_Memory_getEntry_8 (by decide) ?_
  refine jc_ci (w := (fun _ => S)) hK hP hD hS hA (va_runV (As := [.int 1]) (rest := [.ref (ad 12)]) F (c_Stack_numberDown l D T ad S (1 : Int32)  s.heap.size) (j_cV (k := 1) (C := "PageScribe$Stack") hts k_2_130 k_1_3 k_4_237 k_2_128 k_2_129 (by decide +kernel) ⟨Nat.le_of_ble_eq_true rfl, Nat.le_of_ble_eq_true rfl⟩) (j_preV (q0 := 1) (ci := 0) hK hP hD csc csc_all csc_nd cl_0 (ce_1 _ _ _) (fun _ _ _ _ h => h) (fun _ _ _ => trivial)) rfl rfl hl.1 rfl (lv_room (Nat.le_of_ble_eq_true rfl)) d_Memory_getEntry_9 ⟨Nat.le_of_ble_eq_true rfl, Nat.le_of_ble_eq_true rfl⟩) (fun rv1 u1 H locs hw1 hP hD hS => ?_)
  have hP : va_P D classes (cW T ad S) H := hP
  have hD : va_D A (cW T ad S) := hD
  have rrv1 := zt_rng rv1
  refine lv_aload_n hx hb d_Memory_getEntry_12 rfl (lv_at hl 0 rfl) ?_
  refine va_get (D := D) (ci := 2) (v := .ref (ad 1)) (C := "PageScribe$Memory") (T := F_Memory) (N := 8) hx hb hts i_Memory hown hK hP 8 (ce_8 _ _ _) cl_2 0 (by decide) (hts _ k_1_129) (fun _ h9 => h9) rfl d_Memory_getEntry_13 ?_
  refine lv_iconst (v := 0) hx hb d_Memory_getEntry_16 (by decide) ?_
  refine jc_ci (w := (fun _ => S)) hK hP hD hS hA (va_runV (As := [.int 0]) (rest := [.int rv1, .ref (ad 12)]) F (c_Stack_numberDown l D T ad S (0 : Int32)  H.size) (j_cV (k := 1) (C := "PageScribe$Stack") hts k_2_130 k_1_3 k_4_237 k_2_128 k_2_129 (by decide +kernel) ⟨Nat.le_of_ble_eq_true rfl, Nat.le_of_ble_eq_true rfl⟩) (j_preV (q0 := 1) (ci := 0) hK hP hD csc csc_all csc_nd cl_0 (ce_1 _ _ _) (fun _ _ _ _ h => h) (fun _ _ _ => trivial)) rfl rfl hl.1 rfl (lv_room (Nat.le_of_ble_eq_true rfl)) d_Memory_getEntry_17 ⟨Nat.le_of_ble_eq_true rfl, Nat.le_of_ble_eq_true rfl⟩) (fun rv2 u2 H locs hw2 hP hD hS => ?_)
  have hP : va_P D classes (cW T ad S) H := hP
  have hD : va_D A (cW T ad S) := hD
  have rrv2 := zt_rng rv2
  refine jc_ci (w := (fun _ => S)) hK hP hD hS hA (va_runV (As := [.int rv1, .int rv2]) (rest := []) F (c_Store_find l D T ad S rv1 rv2  H.size ⟨i_vst, i_vc0, i_vc1, i_vc2, i_vc3, i_vv0, i_vv1, i_vv2, i_vv3, i_vg, i_wct, i_wln, i_sd0, i_sd1, i_sd2, i_sd3, i_rln, i_rtx, i_rpl, i_rtk, i_cnv, i_pts, i_cik, i_und⟩) (j_cV (k := 2) (C := "PageScribe$Store") hts k_3_184 k_1_6 k_3_181 k_3_182 k_3_183 (by decide +kernel) ⟨Nat.le_of_ble_eq_true rfl, Nat.le_of_ble_eq_true rfl⟩) (j_preV (q0 := 12) (ci := 3) hK hP hD csc csc_all csc_nd cl_3 (ce_12 _ _ _) (fun _ _ _ _ h => h) (fun _ _ _ => trivial)) rfl rfl hl.1 rfl (lv_room (Nat.le_of_ble_eq_true rfl)) d_Memory_getEntry_20 ⟨Nat.le_of_ble_eq_true rfl, Nat.le_of_ble_eq_true rfl⟩) (fun rv3 u3 H locs hw3 hP hD hS => ?_)
  have hP : va_P D classes (cW T ad S) H := hP
  have hD : va_D A (cW T ad S) := hD
  have rrv3 := zt_rng rv3
  refine lv_istore_n (lv' := [(1, .int rv3), (0, .ref (ad 8))]) hx hb d_Memory_getEntry_23 rfl hl (by decide) rfl (fun ls hl => ?_)
  refine lv_iload_n hx hb d_Memory_getEntry_24 rfl (lv_at hl 0 rfl) ?_
  refine lv_if_ge (tgt := 30) hx hb d_Memory_getEntry_25 (by decide) (fun c25_1 => ?_) (fun c25_1 => ?_)
  · have fc25_1 : 0 ≤ rv3.toInt := zt_le tI_0 (show rv3.toInt = _ from rfl) c25_1
    refine lv_aload_n hx hb d_Memory_getEntry_30 rfl (lv_at hl 1 rfl) ?_
    refine va_get (D := D) (ci := 2) (v := .ref (ad 1)) (C := "PageScribe$Memory") (T := F_Memory) (N := 8) hx hb hts i_Memory hown hK hP 8 (ce_8 _ _ _) cl_2 0 (by decide) (hts _ k_1_129) (fun _ h9 => h9) rfl d_Memory_getEntry_31 ?_
    refine lv_iconst (v := 2) hx hb d_Memory_getEntry_34 (by decide) ?_
    refine jc_cv (w := (fun u => u)) hK hP hD hS hA (va_runU (As := [.int 2]) (rest := []) F (c_Row_drop l D T ad S (2 : Int32)  H.size ⟨i_vst, i_vc0, i_vc1, i_vc2, i_vc3, i_vv0, i_vv1, i_vv2, i_vv3, i_vg, i_wct, i_wln, i_sd0, i_sd1, i_sd2, i_sd3, i_rln, i_rtx, i_rpl, i_rtk, i_cnv, i_pts, i_cik, i_und⟩) (j_cU (k := 1) (C := "PageScribe$Stack") (owner := "PageScribe$Row") (x := ⟨"PageScribe$Stack", "drop", "(I)V"⟩) hts k_4_47 k_4_231 k_4_43 k_4_45 k_4_46 k_1_2 rfl (by decide +kernel) ⟨Nat.le_of_ble_eq_true rfl, Nat.le_of_ble_eq_true rfl⟩) (j_preV (q0 := 1) (ci := 0) hK hP hD csc csc_all csc_nd cl_0 (ce_1 _ _ _) (fun _ _ _ _ h => h) (fun _ _ _ => trivial)) rfl rfl hl.1 rfl (lv_room (Nat.le_of_ble_eq_true rfl)) d_Memory_getEntry_35 ⟨Nat.le_of_ble_eq_true rfl, Nat.le_of_ble_eq_true rfl⟩) (fun S1 H locs hw4 hP hD hS => ?_)
    have hP : va_P D classes (cW T ad S1) H := hP
    have hD : va_D A (cW T ad S1) := hD
    obtain ⟨⟨i_vst, i_vc0, i_vc1, i_vc2, i_vc3, i_vv0, i_vv1, i_vv2, i_vv3, i_vg, i_wct, i_wln, i_sd0, i_sd1, i_sd2, i_sd3, i_rln, i_rtx, i_rpl, i_rtk, i_cnv, i_pts, i_cik, i_und⟩, kpcL_S1, kpcP_S1, kpcU_S1, kpcW_S1⟩ := hw4
    have kScL_S1 : kcL S S1 := kcL_t (show kcL S S from (kcL_r S)) kpcL_S1
    have kScP_S1 : kcP S S1 := kcP_t (show kcP S S from (kcP_r S)) kpcP_S1
    have kScU_S1 : kcU S S1 := kcU_t (show kcU S S from (kcU_r S)) kpcU_S1
    have kScW_S1 : kcW S S1 := kcW_t (show kcW S S from (kcW_r S)) kpcW_S1
    have nxr_length_S1 : (f_xr_length S1).toInt = (f_xr_length S).toInt := congrArg Int32.toInt kpcL_S1
    have nxr_length_S1 : (f_xr_length S1).toInt = (f_xr_length S).toInt := congrArg Int32.toInt kpcP_S1.1
    have nxr_place_S1 : (f_xr_place S1).toInt = (f_xr_place S).toInt := congrArg Int32.toInt kpcP_S1.2.1
    have nxe_underWay_S1 : (f_xe_underWay S1).toInt = (f_xe_underWay S).toInt := congrArg Int32.toInt kpcU_S1
    have nxp_columns_S1 : (f_xp_columns S1).toInt = (f_xp_columns S).toInt := congrArg Int32.toInt kpcW_S1.1
    have nxp_rows_S1 : (f_xp_rows S1).toInt = (f_xp_rows S).toInt := congrArg Int32.toInt kpcW_S1.2
    refine lv_aload_n hx hb d_Memory_getEntry_38 rfl (lv_at hl 1 rfl) ?_
    refine va_get (D := D) (ci := 2) (v := .ref (ad 1)) (C := "PageScribe$Memory") (T := F_Memory) (N := 8) hx hb hts i_Memory hown hK hP 8 (ce_8 _ _ _) cl_2 0 (by decide) (hts _ k_1_129) (fun _ h9 => h9) rfl d_Memory_getEntry_39 ?_
    refine lv_aload_n hx hb d_Memory_getEntry_42 rfl (lv_at hl 1 rfl) ?_
    refine va_get (D := D) (ci := 2) (v := .ref (ad 12)) (C := "PageScribe$Memory") (T := F_Memory) (N := 8) hx hb hts i_Memory hown hK hP 8 (ce_8 _ _ _) cl_2 1 (by decide) (hts _ k_1_130) (fun _ h9 => h9) rfl d_Memory_getEntry_43 ?_
    refine va_get (D := D) (ci := 3) (v := .ref (ad 20)) (C := "PageScribe$Store") (T := F_Store) (N := 5) hx hb hts i_Store hown hK hP 12 (ce_12 _ _ _) cl_3 4 (by decide) (hts _ k_1_116) (fun _ h9 => h9) rfl d_Memory_getEntry_46 ?_
    refine lv_iload_n hx hb d_Memory_getEntry_49 rfl (lv_at hl 0 rfl) ?_
    refine jc_ci (w := (fun u => u)) hK hP hD hS hA (va_runU (As := [.ref (ad 20), .int rv3]) (rest := []) F (c_Row_pushFrom_1_20 l D T ad S1 rv3  H.size ⟨i_vst, i_vc0, i_vc1, i_vc2, i_vc3, i_vv0, i_vv1, i_vv2, i_vv3, i_vg, i_wct, i_wln, i_sd0, i_sd1, i_sd2, i_sd3, i_rln, i_rtx, i_rpl, i_rtk, i_cnv, i_pts, i_cik, i_und⟩) (j_cU (k := 2) (C := "PageScribe$Stack") (owner := "PageScribe$Row") (x := ⟨"PageScribe$Stack", "pushFrom", "(LPageScribe$Row;I)I"⟩) hts k_3_96 k_5_16 k_4_64 k_4_66 k_3_92 k_1_2 rfl (by decide +kernel) ⟨Nat.le_of_ble_eq_true rfl, Nat.le_of_ble_eq_true rfl⟩) (j_preV (q0 := 1) (ci := 0) hK hP hD csc csc_all csc_nd cl_0 (ce_1 _ _ _) (fun _ _ _ _ h => h) (fun _ _ _ => trivial)) rfl rfl hl.1 rfl (lv_room (Nat.le_of_ble_eq_true rfl)) d_Memory_getEntry_50 ⟨Nat.le_of_ble_eq_true rfl, Nat.le_of_ble_eq_true rfl⟩) (fun rv5 S2 H locs hw5 hP hD hS => ?_)
    have hP : va_P D classes (cW T ad S2) H := hP
    have hD : va_D A (cW T ad S2) := hD
    obtain ⟨⟨i_vst, i_vc0, i_vc1, i_vc2, i_vc3, i_vv0, i_vv1, i_vv2, i_vv3, i_vg, i_wct, i_wln, i_sd0, i_sd1, i_sd2, i_sd3, i_rln, i_rtx, i_rpl, i_rtk, i_cnv, i_pts, i_cik, i_und⟩, kpcL_S2, kpcP_S2, kpcU_S2, kpcW_S2⟩ := hw5
    have kScL_S2 : kcL S S2 := kcL_t (show kcL S S1 from kScL_S1) kpcL_S2
    have kScP_S2 : kcP S S2 := kcP_t (show kcP S S1 from kScP_S1) kpcP_S2
    have kScU_S2 : kcU S S2 := kcU_t (show kcU S S1 from kScU_S1) kpcU_S2
    have kScW_S2 : kcW S S2 := kcW_t (show kcW S S1 from kScW_S1) kpcW_S2
    have nxr_length_S2 : (f_xr_length S2).toInt = (f_xr_length S1).toInt := congrArg Int32.toInt kpcL_S2
    have nxr_length_S2 : (f_xr_length S2).toInt = (f_xr_length S1).toInt := congrArg Int32.toInt kpcP_S2.1
    have nxr_place_S2 : (f_xr_place S2).toInt = (f_xr_place S1).toInt := congrArg Int32.toInt kpcP_S2.2.1
    have nxe_underWay_S2 : (f_xe_underWay S2).toInt = (f_xe_underWay S1).toInt := congrArg Int32.toInt kpcU_S2
    have nxp_columns_S2 : (f_xp_columns S2).toInt = (f_xp_columns S1).toInt := congrArg Int32.toInt kpcW_S2.1
    have nxp_rows_S2 : (f_xp_rows S2).toInt = (f_xp_rows S1).toInt := congrArg Int32.toInt kpcW_S2.2
    have rrv5 := zt_rng rv5
    exact j_iret F hr hlocks hK hS S2 ⟨⟨i_vst, i_vc0, i_vc1, i_vc2, i_vc3, i_vv0, i_vv1, i_vv2, i_vv3, i_vg, i_wct, i_wln, i_sd0, i_sd1, i_sd2, i_sd3, i_rln, i_rtx, i_rpl, i_rtk, i_cnv, i_pts, i_cik, i_und⟩, kScL_S2, kScP_S2, kScU_S2, kScW_S2⟩ hP hD d_Memory_getEntry_53
  · have fc25_1 : rv3.toInt < 0 := Int.not_le.mp (zt_nle tI_0 (show rv3.toInt = _ from rfl) c25_1)
    refine lv_iconst (v := 5) hx hb d_Memory_getEntry_28 (by decide) ?_
    exact j_iret F hr hlocks hK hS S ⟨⟨i_vst, i_vc0, i_vc1, i_vc2, i_vc3, i_vv0, i_vv1, i_vv2, i_vv3, i_vg, i_wct, i_wln, i_sd0, i_sd1, i_sd2, i_sd3, i_rln, i_rtx, i_rpl, i_rtk, i_cnv, i_pts, i_cik, i_und⟩, (kcL_r S), (kcP_r S), (kcU_r S), (kcW_r S)⟩ hP hD d_Memory_getEntry_29
theorem d_Memory_putCell_0 : decode prog_5_method_8_code 0 = .ok (.aload_n 0, 1) := by decide +kernel
theorem d_Memory_putCell_1 : decode prog_5_method_8_code 1 = .ok (.getfield 39, 3) := by decide +kernel
theorem d_Memory_putCell_4 : decode prog_5_method_8_code 4 = .ok (.iconst 2, 1) := by decide +kernel
theorem d_Memory_putCell_5 : decode prog_5_method_8_code 5 = .ok (.invokevirtual 105, 3) := by decide +kernel
theorem d_Memory_putCell_8 : decode prog_5_method_8_code 8 = .ok (.istore_n 1, 1) := by decide +kernel
theorem d_Memory_putCell_9 : decode prog_5_method_8_code 9 = .ok (.aload_n 0, 1) := by decide +kernel
theorem d_Memory_putCell_10 : decode prog_5_method_8_code 10 = .ok (.getfield 39, 3) := by decide +kernel
theorem d_Memory_putCell_13 : decode prog_5_method_8_code 13 = .ok (.iconst 1, 1) := by decide +kernel
theorem d_Memory_putCell_14 : decode prog_5_method_8_code 14 = .ok (.invokevirtual 105, 3) := by decide +kernel
theorem d_Memory_putCell_17 : decode prog_5_method_8_code 17 = .ok (.istore_n 2, 1) := by decide +kernel
theorem d_Memory_putCell_18 : decode prog_5_method_8_code 18 = .ok (.iload_n 2, 1) := by decide +kernel
theorem d_Memory_putCell_19 : decode prog_5_method_8_code 19 = .ok (.ifCond .lt 11, 3) := by decide +kernel
theorem d_Memory_putCell_30 : decode prog_5_method_8_code 30 = .ok (.iconst 4, 1) := by decide +kernel
theorem d_Memory_putCell_31 : decode prog_5_method_8_code 31 = .ok (.ireturn, 1) := by decide +kernel
theorem d_Memory_putCell_22 : decode prog_5_method_8_code 22 = .ok (.iload_n 2, 1) := by decide +kernel
theorem d_Memory_putCell_23 : decode prog_5_method_8_code 23 = .ok (.iload_n 1, 1) := by decide +kernel
theorem d_Memory_putCell_24 : decode prog_5_method_8_code 24 = .ok (.invokestatic 127, 3) := by decide +kernel
theorem d_Memory_putCell_27 : decode prog_5_method_8_code 27 = .ok (.if_icmp .lt 5, 3) := by decide +kernel
theorem d_Memory_putCell_32 : decode prog_5_method_8_code 32 = .ok (.aload_n 0, 1) := by decide +kernel
theorem d_Memory_putCell_33 : decode prog_5_method_8_code 33 = .ok (.getfield 12, 3) := by decide +kernel
theorem d_Memory_putCell_36 : decode prog_5_method_8_code 36 = .ok (.getfield 112, 3) := by decide +kernel
theorem d_Memory_putCell_39 : decode prog_5_method_8_code 39 = .ok (.iload_n 1, 1) := by decide +kernel
theorem d_Memory_putCell_40 : decode prog_5_method_8_code 40 = .ok (.invokestatic 133, 3) := by decide +kernel
theorem d_Memory_putCell_43 : decode prog_5_method_8_code 43 = .ok (.iload_n 2, 1) := by decide +kernel
theorem d_Memory_putCell_44 : decode prog_5_method_8_code 44 = .ok (.iadd, 1) := by decide +kernel
theorem d_Memory_putCell_45 : decode prog_5_method_8_code 45 = .ok (.aload_n 0, 1) := by decide +kernel
theorem d_Memory_putCell_46 : decode prog_5_method_8_code 46 = .ok (.getfield 39, 3) := by decide +kernel
theorem d_Memory_putCell_49 : decode prog_5_method_8_code 49 = .ok (.iconst 0, 1) := by decide +kernel
theorem d_Memory_putCell_50 : decode prog_5_method_8_code 50 = .ok (.invokevirtual 63, 3) := by decide +kernel
theorem d_Memory_putCell_53 : decode prog_5_method_8_code 53 = .ok (.aload_n 0, 1) := by decide +kernel
theorem d_Memory_putCell_54 : decode prog_5_method_8_code 54 = .ok (.getfield 39, 3) := by decide +kernel
theorem d_Memory_putCell_57 : decode prog_5_method_8_code 57 = .ok (.iconst 0, 1) := by decide +kernel
theorem d_Memory_putCell_58 : decode prog_5_method_8_code 58 = .ok (.invokevirtual 105, 3) := by decide +kernel
theorem d_Memory_putCell_61 : decode prog_5_method_8_code 61 = .ok (.aload_n 0, 1) := by decide +kernel
theorem d_Memory_putCell_62 : decode prog_5_method_8_code 62 = .ok (.getfield 39, 3) := by decide +kernel
theorem d_Memory_putCell_65 : decode prog_5_method_8_code 65 = .ok (.iconst 0, 1) := by decide +kernel
theorem d_Memory_putCell_66 : decode prog_5_method_8_code 66 = .ok (.invokevirtual 146, 3) := by decide +kernel
theorem k_5_41 : Cond.methodLink "PageScribe$Memory" 146 ⟨"PageScribe$Stack", "realDown", "(I)D"⟩ ∈ gw := gw_of (tb_5 (List.mem_of_getElem? (i := 41) (by decide +kernel))) (by decide +kernel)
theorem d_Memory_putCell_69 : decode prog_5_method_8_code 69 = .ok (.invokevirtual 150, 3) := by decide +kernel
theorem k_5_42 : Cond.methodLink "PageScribe$Memory" 150 ⟨"PageScribe$Row", "put", "(IIID)V"⟩ ∈ gw := gw_of (tb_5 (List.mem_of_getElem? (i := 42) (by decide +kernel))) (by decide +kernel)
theorem d_Memory_putCell_72 : decode prog_5_method_8_code 72 = .ok (.aload_n 0, 1) := by decide +kernel
theorem d_Memory_putCell_73 : decode prog_5_method_8_code 73 = .ok (.getfield 39, 3) := by decide +kernel
theorem d_Memory_putCell_76 : decode prog_5_method_8_code 76 = .ok (.iconst 3, 1) := by decide +kernel
theorem d_Memory_putCell_77 : decode prog_5_method_8_code 77 = .ok (.invokevirtual 97, 3) := by decide +kernel
theorem d_Memory_putCell_80 : decode prog_5_method_8_code 80 = .ok (.iconst 0, 1) := by decide +kernel
theorem d_Memory_putCell_81 : decode prog_5_method_8_code 81 = .ok (.ireturn, 1) := by decide +kernel
set_option maxHeartbeats 4000000 in
set_option maxRecDepth 100000 in
theorem c_Memory_putCell (l : Launch) (D : va_G) (T : Nat → ClassId) (ad : Nat → Nat) (g : GE) (Bq : Nat → Prop) (S : CS)  (sz : Nat)  (hI : CIv S) : Met l ⟨"PageScribe$Memory", "putCell", "()I"⟩ (wy ⟨"PageScribe$Memory", "putCell", "()I"⟩ prog_5_method_8_code 3 (some .int)) ({ frames := 2, cells := 0, slots := 0, locals := 140 }) (va_Pc [.ref (ad 8)] (Pw D T (cW T ad S) sz (EC g Bq ad))) (va_Qi (fun (r : Int32) (u : CS) => CIv u ∧ kcL S u ∧ kcP S u ∧ kcU S u ∧ kcW S u) (fun u t => Bw D T (va_A (cW T ad S) sz) (cW T ad u) t) (va_A (cW T ad S) sz)) 0 0 (va_A (cW T ad S) sz) := by
  refine j_met (y := ⟨"PageScribe$Memory", "putCell", "()I"⟩) (b := prog_5_method_8_code) (n := 3) (ret := (some .int)) (av := [.ref (ad 8)]) (Qc := fun A => va_Qi (fun (r : Int32) (u : CS) => CIv u ∧ kcL S u ∧ kcP S u ∧ kcU S u ∧ kcW S u) (fun u t => Bw D T A (cW T ad u) t) A) (by decide +kernel) (Nat.le_of_ble_eq_true rfl) (fun p e s m args below meth c A ls F hr hlocks hnm hK hP hD hS hA hN hE hl => ?_)
  obtain ⟨hx, hb, hml, hown, hts⟩ := id F
  have hl : lv_has ls 3 [(0, .ref (ad 8))] := hl
  obtain ⟨i_vst, i_vc0, i_vc1, i_vc2, i_vc3, i_vv0, i_vv1, i_vv2, i_vv3, i_vg, i_wct, i_wln, i_sd0, i_sd1, i_sd2, i_sd3, i_rln, i_rtx, i_rpl, i_rtk, i_cnv, i_pts, i_cik, i_und⟩ := id hI
  have hAB : ∀ q, A q → Bq q := EC.ab hE hN
  have hEV := hE.1.narrow hAB
  refine lv_aload_n hx hb d_Memory_putCell_0 rfl (lv_at hl 0 rfl) ?_
  refine va_get (D := D) (ci := 2) (v := .ref (ad 1)) (C := "PageScribe$Memory") (T := F_Memory) (N := 8) hx hb hts i_Memory hown hK hP 8 (ce_8 _ _ _) cl_2 0 (by decide) (hts _ k_1_129) (fun _ h9 => h9) rfl d_Memory_putCell_1 ?_
  refine lv_iconst (v := 2) hx hb d_Memory_putCell_4 (by decide) ?_
  refine jc_ci (w := (fun _ => S)) hK hP hD hS hA (va_runV (As := [.int 2]) (rest := []) F (c_Stack_numberDown l D T ad S (2 : Int32)  s.heap.size) (j_cV (k := 1) (C := "PageScribe$Stack") hts k_2_130 k_1_3 k_4_237 k_2_128 k_2_129 (by decide +kernel) ⟨Nat.le_of_ble_eq_true rfl, Nat.le_of_ble_eq_true rfl⟩) (j_preV (q0 := 1) (ci := 0) hK hP hD csc csc_all csc_nd cl_0 (ce_1 _ _ _) (fun _ _ _ _ h => h) (fun _ _ _ => trivial)) rfl rfl hl.1 rfl (lv_room (Nat.le_of_ble_eq_true rfl)) d_Memory_putCell_5 ⟨Nat.le_of_ble_eq_true rfl, Nat.le_of_ble_eq_true rfl⟩) (fun rv1 u1 H locs hw1 hP hD hS => ?_)
  have hP : va_P D classes (cW T ad S) H := hP
  have hD : va_D A (cW T ad S) := hD
  have rrv1 := zt_rng rv1
  refine lv_istore_n (lv' := [(1, .int rv1), (0, .ref (ad 8))]) hx hb d_Memory_putCell_8 rfl hl (by decide) rfl (fun ls hl => ?_)
  refine lv_aload_n hx hb d_Memory_putCell_9 rfl (lv_at hl 1 rfl) ?_
  refine va_get (D := D) (ci := 2) (v := .ref (ad 1)) (C := "PageScribe$Memory") (T := F_Memory) (N := 8) hx hb hts i_Memory hown hK hP 8 (ce_8 _ _ _) cl_2 0 (by decide) (hts _ k_1_129) (fun _ h9 => h9) rfl d_Memory_putCell_10 ?_
  refine lv_iconst (v := 1) hx hb d_Memory_putCell_13 (by decide) ?_
  refine jc_ci (w := (fun _ => S)) hK hP hD hS hA (va_runV (As := [.int 1]) (rest := []) F (c_Stack_numberDown l D T ad S (1 : Int32)  H.size) (j_cV (k := 1) (C := "PageScribe$Stack") hts k_2_130 k_1_3 k_4_237 k_2_128 k_2_129 (by decide +kernel) ⟨Nat.le_of_ble_eq_true rfl, Nat.le_of_ble_eq_true rfl⟩) (j_preV (q0 := 1) (ci := 0) hK hP hD csc csc_all csc_nd cl_0 (ce_1 _ _ _) (fun _ _ _ _ h => h) (fun _ _ _ => trivial)) rfl rfl hl.1 rfl (lv_room (Nat.le_of_ble_eq_true rfl)) d_Memory_putCell_14 ⟨Nat.le_of_ble_eq_true rfl, Nat.le_of_ble_eq_true rfl⟩) (fun rv2 u2 H locs hw2 hP hD hS => ?_)
  have hP : va_P D classes (cW T ad S) H := hP
  have hD : va_D A (cW T ad S) := hD
  have rrv2 := zt_rng rv2
  refine lv_istore_n (lv' := [(2, .int rv2), (1, .int rv1), (0, .ref (ad 8))]) hx hb d_Memory_putCell_17 rfl hl (by decide) rfl (fun ls hl => ?_)
  refine lv_iload_n hx hb d_Memory_putCell_18 rfl (lv_at hl 0 rfl) ?_
  refine lv_if_lt (tgt := 30) hx hb d_Memory_putCell_19 (by decide) (fun c19_1 => ?_) (fun c19_1 => ?_)
  · have fc19_1 : rv2.toInt < 0 := zt_lt (show rv2.toInt = _ from rfl) tI_0 c19_1
    refine lv_iconst (v := 4) hx hb d_Memory_putCell_30 (by decide) ?_
    exact j_iret F hr hlocks hK hS S ⟨⟨i_vst, i_vc0, i_vc1, i_vc2, i_vc3, i_vv0, i_vv1, i_vv2, i_vv3, i_vg, i_wct, i_wln, i_sd0, i_sd1, i_sd2, i_sd3, i_rln, i_rtx, i_rpl, i_rtk, i_cnv, i_pts, i_cik, i_und⟩, (kcL_r S), (kcP_r S), (kcU_r S), (kcW_r S)⟩ hP hD d_Memory_putCell_31
  · have fc19_1 : 0 ≤ rv2.toInt := Int.not_lt.mp (zt_nlt (show rv2.toInt = _ from rfl) tI_0 c19_1)
    refine lv_iload_n hx hb d_Memory_putCell_22 rfl (lv_at hl 0 rfl) ?_
    refine lv_iload_n hx hb d_Memory_putCell_23 rfl (lv_at hl 1 rfl) ?_
    refine j_ci (wc := []) (wr := (cW T ad S)) hK hP hD hS hA [] csc rfl csc_all csc_nd (fun _ _ => List.not_mem_nil) (va_runSN (As := [.int rv1]) (rest := [.int rv2]) F (c_Ps_lengthOf l D T rv1  H.size) (j_cSN (k := 1) hts k_4_189 k_1_1 (hE.2.2.2 (Cond.methodLinkNest "PageScribe$Memory" 127 ⟨"PageScribe", "lengthOf", "(I)I"⟩ "PageScribe") (List.mem_of_getElem? (i := 7) rfl)) k_4_188 (by decide +kernel) ⟨Nat.le_of_ble_eq_true rfl, Nat.le_of_ble_eq_true rfl⟩) (j_preS hK hP hD [] rfl (by decide) (fun _ _ _ _ h => h) (fun _ _ _ => trivial)) rfl rfl hl.1 rfl (lv_room (Nat.le_of_ble_eq_true rfl)) d_Memory_putCell_24 ⟨Nat.le_of_ble_eq_true rfl, Nat.le_of_ble_eq_true rfl⟩) (fun rv3 u3 H locs hw3 hP hD hS => ?_)
    have hP : va_P D classes (cW T ad S) H := hP
    have hD : va_D A (cW T ad S) := hD
    have rrv3 := zt_rng rv3
    refine lv_icmp_lt (tgt := 32) hx hb d_Memory_putCell_27 (by decide) (fun c27_1 => ?_) (fun c27_1 => ?_)
    · have fc27_1 : rv2.toInt < rv3.toInt := zt_lt (show rv2.toInt = _ from rfl) (show rv3.toInt = _ from rfl) c27_1
      refine lv_aload_n hx hb d_Memory_putCell_32 rfl (lv_at hl 2 rfl) ?_
      refine va_get (D := D) (ci := 2) (v := .ref (ad 12)) (C := "PageScribe$Memory") (T := F_Memory) (N := 8) hx hb hts i_Memory hown hK hP 8 (ce_8 _ _ _) cl_2 1 (by decide) (hts _ k_1_130) (fun _ h9 => h9) rfl d_Memory_putCell_33 ?_
      refine va_get (D := D) (ci := 3) (v := .ref (ad 13)) (C := "PageScribe$Store") (T := F_Store) (N := 5) hx hb hts i_Store hown hK hP 12 (ce_12 _ _ _) cl_3 0 (by decide) (hts _ k_1_108) (fun _ h9 => h9) rfl d_Memory_putCell_36 ?_
      refine lv_iload_n hx hb d_Memory_putCell_39 rfl (lv_at hl 1 rfl) ?_
      refine j_ci (wc := []) (wr := (cW T ad S)) hK hP hD hS hA [] csc rfl csc_all csc_nd (fun _ _ => List.not_mem_nil) (va_runSN (As := [.int rv1]) (rest := [.ref (ad 13)]) F (c_Ps_firstOf l D T rv1  H.size) (j_cSN (k := 1) hts k_5_23 k_1_1 (hE.2.2.2 (Cond.methodLinkNest "PageScribe$Memory" 133 ⟨"PageScribe", "firstOf", "(I)I"⟩ "PageScribe") (List.mem_of_getElem? (i := 8) rfl)) k_5_22 (by decide +kernel) ⟨Nat.le_of_ble_eq_true rfl, Nat.le_of_ble_eq_true rfl⟩) (j_preS hK hP hD [] rfl (by decide) (fun _ _ _ _ h => h) (fun _ _ _ => trivial)) rfl rfl hl.1 rfl (lv_room (Nat.le_of_ble_eq_true rfl)) d_Memory_putCell_40 ⟨Nat.le_of_ble_eq_true rfl, Nat.le_of_ble_eq_true rfl⟩) (fun rv4 u4 H locs hw4 hP hD hS => ?_)
      have hP : va_P D classes (cW T ad S) H := hP
      have hD : va_D A (cW T ad S) := hD
      have rrv4 := zt_rng rv4
      refine lv_iload_n hx hb d_Memory_putCell_43 rfl (lv_at hl 0 rfl) ?_
      refine lv_iadd hx hb d_Memory_putCell_44 ?_
      refine lv_topi (fun x1 ex1 => ?_)
      have rx1 := zt_rng x1
      refine lv_aload_n hx hb d_Memory_putCell_45 rfl (lv_at hl 2 rfl) ?_
      refine va_get (D := D) (ci := 2) (v := .ref (ad 1)) (C := "PageScribe$Memory") (T := F_Memory) (N := 8) hx hb hts i_Memory hown hK hP 8 (ce_8 _ _ _) cl_2 0 (by decide) (hts _ k_1_129) (fun _ h9 => h9) rfl d_Memory_putCell_46 ?_
      refine lv_iconst (v := 0) hx hb d_Memory_putCell_49 (by decide) ?_
      refine jc_ci (w := (fun _ => S)) hK hP hD hS hA (va_runV (As := [.int 0]) (rest := [.int x1, .ref (ad 13)]) F (c_Stack_kindDown l D T ad S (0 : Int32)  H.size) (j_cV (k := 1) (C := "PageScribe$Stack") hts k_2_120 k_1_3 k_5_5 k_2_118 k_2_119 (by decide +kernel) ⟨Nat.le_of_ble_eq_true rfl, Nat.le_of_ble_eq_true rfl⟩) (j_preV (q0 := 1) (ci := 0) hK hP hD csc csc_all csc_nd cl_0 (ce_1 _ _ _) (fun _ _ _ _ h => h) (fun _ _ _ => trivial)) rfl rfl hl.1 rfl (lv_room (Nat.le_of_ble_eq_true rfl)) d_Memory_putCell_50 ⟨Nat.le_of_ble_eq_true rfl, Nat.le_of_ble_eq_true rfl⟩) (fun rv5 u5 H locs hw5 hP hD hS => ?_)
      have hP : va_P D classes (cW T ad S) H := hP
      have hD : va_D A (cW T ad S) := hD
      have rrv5 := zt_rng rv5
      refine lv_aload_n hx hb d_Memory_putCell_53 rfl (lv_at hl 2 rfl) ?_
      refine va_get (D := D) (ci := 2) (v := .ref (ad 1)) (C := "PageScribe$Memory") (T := F_Memory) (N := 8) hx hb hts i_Memory hown hK hP 8 (ce_8 _ _ _) cl_2 0 (by decide) (hts _ k_1_129) (fun _ h9 => h9) rfl d_Memory_putCell_54 ?_
      refine lv_iconst (v := 0) hx hb d_Memory_putCell_57 (by decide) ?_
      refine jc_ci (w := (fun _ => S)) hK hP hD hS hA (va_runV (As := [.int 0]) (rest := [.int rv5, .int x1, .ref (ad 13)]) F (c_Stack_numberDown l D T ad S (0 : Int32)  H.size) (j_cV (k := 1) (C := "PageScribe$Stack") hts k_2_130 k_1_3 k_4_237 k_2_128 k_2_129 (by decide +kernel) ⟨Nat.le_of_ble_eq_true rfl, Nat.le_of_ble_eq_true rfl⟩) (j_preV (q0 := 1) (ci := 0) hK hP hD csc csc_all csc_nd cl_0 (ce_1 _ _ _) (fun _ _ _ _ h => h) (fun _ _ _ => trivial)) rfl rfl hl.1 rfl (lv_room (Nat.le_of_ble_eq_true rfl)) d_Memory_putCell_58 ⟨Nat.le_of_ble_eq_true rfl, Nat.le_of_ble_eq_true rfl⟩) (fun rv6 u6 H locs hw6 hP hD hS => ?_)
      have hP : va_P D classes (cW T ad S) H := hP
      have hD : va_D A (cW T ad S) := hD
      have rrv6 := zt_rng rv6
      refine lv_aload_n hx hb d_Memory_putCell_61 rfl (lv_at hl 2 rfl) ?_
      refine va_get (D := D) (ci := 2) (v := .ref (ad 1)) (C := "PageScribe$Memory") (T := F_Memory) (N := 8) hx hb hts i_Memory hown hK hP 8 (ce_8 _ _ _) cl_2 0 (by decide) (hts _ k_1_129) (fun _ h9 => h9) rfl d_Memory_putCell_62 ?_
      refine lv_iconst (v := 0) hx hb d_Memory_putCell_65 (by decide) ?_
      refine jc_cd (w := (fun _ => S)) hK hP hD hS hA (va_runV (As := [.int 0]) (rest := [.int rv6, .int rv5, .int x1, .ref (ad 13)]) F (c_Stack_realDown l D T ad S (0 : Int32)  H.size ⟨i_vst, i_vc0, i_vc1, i_vc2, i_vc3, i_vv0, i_vv1, i_vv2, i_vv3, i_vg, i_wct, i_wln, i_sd0, i_sd1, i_sd2, i_sd3, i_rln, i_rtx, i_rpl, i_rtk, i_cnv, i_pts, i_cik, i_und⟩) (j_cV (k := 1) (C := "PageScribe$Stack") hts k_4_117 k_1_3 k_5_41 k_4_115 k_4_116 (by decide +kernel) ⟨Nat.le_of_ble_eq_true rfl, Nat.le_of_ble_eq_true rfl⟩) (j_preV (q0 := 1) (ci := 0) hK hP hD csc csc_all csc_nd cl_0 (ce_1 _ _ _) (fun _ _ _ _ h => h) (fun _ _ _ => trivial)) rfl rfl hl.1 rfl (lv_room (Nat.le_of_ble_eq_true rfl)) d_Memory_putCell_66 ⟨Nat.le_of_ble_eq_true rfl, Nat.le_of_ble_eq_true rfl⟩) (fun rv7 u7 H locs hw7 hP hD hS => ?_)
      have hP : va_P D classes (cW T ad S) H := hP
      have hD : va_D A (cW T ad S) := hD
      have qhw7 : dB rv7 := by simpa only [tI_0] using hw7
      refine jc_cv (w := (fun u => u)) hK hP hD hS hA (va_runV (As := [.int x1, .int rv5, .int rv6, .double rv7]) (rest := []) F (c_Row_put_13 l D T ad S x1 rv5 rv6 rv7  H.size ⟨i_vst, i_vc0, i_vc1, i_vc2, i_vc3, i_vv0, i_vv1, i_vv2, i_vv3, i_vg, i_wct, i_wln, i_sd0, i_sd1, i_sd2, i_sd3, i_rln, i_rtx, i_rpl, i_rtk, i_cnv, i_pts, i_cik, i_und⟩ (show dB rv7 by omega)) (j_cV (k := 4) (C := "PageScribe$Row") hts k_4_62 k_1_2 k_5_42 k_4_61 k_8_182 (by decide +kernel) ⟨Nat.le_of_ble_eq_true rfl, Nat.le_of_ble_eq_true rfl⟩) (j_preV (q0 := 13) (ci := 4) hK hP hD csc csc_all csc_nd cl_4 (ce_13 _ _ _) (fun _ _ _ _ h => h) (fun _ _ _ => trivial)) rfl rfl hl.1 rfl (lv_room (Nat.le_of_ble_eq_true rfl)) d_Memory_putCell_69 ⟨Nat.le_of_ble_eq_true rfl, Nat.le_of_ble_eq_true rfl⟩) (fun S1 H locs hw8 hP hD hS => ?_)
      have hP : va_P D classes (cW T ad S1) H := hP
      have hD : va_D A (cW T ad S1) := hD
      obtain ⟨⟨i_vst, i_vc0, i_vc1, i_vc2, i_vc3, i_vv0, i_vv1, i_vv2, i_vv3, i_vg, i_wct, i_wln, i_sd0, i_sd1, i_sd2, i_sd3, i_rln, i_rtx, i_rpl, i_rtk, i_cnv, i_pts, i_cik, i_und⟩, kpcL_S1, kpcP_S1, kpcU_S1, kpcW_S1⟩ := hw8
      have kScL_S1 : kcL S S1 := kcL_t (show kcL S S from (kcL_r S)) kpcL_S1
      have kScP_S1 : kcP S S1 := kcP_t (show kcP S S from (kcP_r S)) kpcP_S1
      have kScU_S1 : kcU S S1 := kcU_t (show kcU S S from (kcU_r S)) kpcU_S1
      have kScW_S1 : kcW S S1 := kcW_t (show kcW S S from (kcW_r S)) kpcW_S1
      have nxr_length_S1 : (f_xr_length S1).toInt = (f_xr_length S).toInt := congrArg Int32.toInt kpcL_S1
      have nxr_length_S1 : (f_xr_length S1).toInt = (f_xr_length S).toInt := congrArg Int32.toInt kpcP_S1.1
      have nxr_place_S1 : (f_xr_place S1).toInt = (f_xr_place S).toInt := congrArg Int32.toInt kpcP_S1.2.1
      have nxe_underWay_S1 : (f_xe_underWay S1).toInt = (f_xe_underWay S).toInt := congrArg Int32.toInt kpcU_S1
      have nxp_columns_S1 : (f_xp_columns S1).toInt = (f_xp_columns S).toInt := congrArg Int32.toInt kpcW_S1.1
      have nxp_rows_S1 : (f_xp_rows S1).toInt = (f_xp_rows S).toInt := congrArg Int32.toInt kpcW_S1.2
      refine lv_aload_n hx hb d_Memory_putCell_72 rfl (lv_at hl 2 rfl) ?_
      refine va_get (D := D) (ci := 2) (v := .ref (ad 1)) (C := "PageScribe$Memory") (T := F_Memory) (N := 8) hx hb hts i_Memory hown hK hP 8 (ce_8 _ _ _) cl_2 0 (by decide) (hts _ k_1_129) (fun _ h9 => h9) rfl d_Memory_putCell_73 ?_
      refine lv_iconst (v := 3) hx hb d_Memory_putCell_76 (by decide) ?_
      refine jc_cv (w := (fun u => u)) hK hP hD hS hA (va_runU (As := [.int 3]) (rest := []) F (c_Row_drop l D T ad S1 (3 : Int32)  H.size ⟨i_vst, i_vc0, i_vc1, i_vc2, i_vc3, i_vv0, i_vv1, i_vv2, i_vv3, i_vg, i_wct, i_wln, i_sd0, i_sd1, i_sd2, i_sd3, i_rln, i_rtx, i_rpl, i_rtk, i_cnv, i_pts, i_cik, i_und⟩) (j_cU (k := 1) (C := "PageScribe$Stack") (owner := "PageScribe$Row") (x := ⟨"PageScribe$Stack", "drop", "(I)V"⟩) hts k_4_47 k_4_231 k_4_43 k_4_45 k_4_46 k_1_2 rfl (by decide +kernel) ⟨Nat.le_of_ble_eq_true rfl, Nat.le_of_ble_eq_true rfl⟩) (j_preV (q0 := 1) (ci := 0) hK hP hD csc csc_all csc_nd cl_0 (ce_1 _ _ _) (fun _ _ _ _ h => h) (fun _ _ _ => trivial)) rfl rfl hl.1 rfl (lv_room (Nat.le_of_ble_eq_true rfl)) d_Memory_putCell_77 ⟨Nat.le_of_ble_eq_true rfl, Nat.le_of_ble_eq_true rfl⟩) (fun S2 H locs hw9 hP hD hS => ?_)
      have hP : va_P D classes (cW T ad S2) H := hP
      have hD : va_D A (cW T ad S2) := hD
      obtain ⟨⟨i_vst, i_vc0, i_vc1, i_vc2, i_vc3, i_vv0, i_vv1, i_vv2, i_vv3, i_vg, i_wct, i_wln, i_sd0, i_sd1, i_sd2, i_sd3, i_rln, i_rtx, i_rpl, i_rtk, i_cnv, i_pts, i_cik, i_und⟩, kpcL_S2, kpcP_S2, kpcU_S2, kpcW_S2⟩ := hw9
      have kScL_S2 : kcL S S2 := kcL_t (show kcL S S1 from kScL_S1) kpcL_S2
      have kScP_S2 : kcP S S2 := kcP_t (show kcP S S1 from kScP_S1) kpcP_S2
      have kScU_S2 : kcU S S2 := kcU_t (show kcU S S1 from kScU_S1) kpcU_S2
      have kScW_S2 : kcW S S2 := kcW_t (show kcW S S1 from kScW_S1) kpcW_S2
      have nxr_length_S2 : (f_xr_length S2).toInt = (f_xr_length S1).toInt := congrArg Int32.toInt kpcL_S2
      have nxr_length_S2 : (f_xr_length S2).toInt = (f_xr_length S1).toInt := congrArg Int32.toInt kpcP_S2.1
      have nxr_place_S2 : (f_xr_place S2).toInt = (f_xr_place S1).toInt := congrArg Int32.toInt kpcP_S2.2.1
      have nxe_underWay_S2 : (f_xe_underWay S2).toInt = (f_xe_underWay S1).toInt := congrArg Int32.toInt kpcU_S2
      have nxp_columns_S2 : (f_xp_columns S2).toInt = (f_xp_columns S1).toInt := congrArg Int32.toInt kpcW_S2.1
      have nxp_rows_S2 : (f_xp_rows S2).toInt = (f_xp_rows S1).toInt := congrArg Int32.toInt kpcW_S2.2
      refine lv_iconst (v := 0) hx hb d_Memory_putCell_80 (by decide) ?_
      exact j_iret F hr hlocks hK hS S2 ⟨⟨i_vst, i_vc0, i_vc1, i_vc2, i_vc3, i_vv0, i_vv1, i_vv2, i_vv3, i_vg, i_wct, i_wln, i_sd0, i_sd1, i_sd2, i_sd3, i_rln, i_rtx, i_rpl, i_rtk, i_cnv, i_pts, i_cik, i_und⟩, kScL_S2, kScP_S2, kScU_S2, kScW_S2⟩ hP hD d_Memory_putCell_81
    · have fc27_1 : rv3.toInt ≤ rv2.toInt := Int.not_lt.mp (zt_nlt (show rv2.toInt = _ from rfl) (show rv3.toInt = _ from rfl) c27_1)
      refine lv_iconst (v := 4) hx hb d_Memory_putCell_30 (by decide) ?_
      exact j_iret F hr hlocks hK hS S ⟨⟨i_vst, i_vc0, i_vc1, i_vc2, i_vc3, i_vv0, i_vv1, i_vv2, i_vv3, i_vg, i_wct, i_wln, i_sd0, i_sd1, i_sd2, i_sd3, i_rln, i_rtx, i_rpl, i_rtk, i_cnv, i_pts, i_cik, i_und⟩, (kcL_r S), (kcP_r S), (kcU_r S), (kcW_r S)⟩ hP hD d_Memory_putCell_31
theorem d_Memory_putEntry_0 : decode prog_5_method_9_code 0 = .ok (.aload_n 0, 1) := by decide +kernel
theorem d_Memory_putEntry_1 : decode prog_5_method_9_code 1 = .ok (.getfield 12, 3) := by decide +kernel
theorem d_Memory_putEntry_4 : decode prog_5_method_9_code 4 = .ok (.aload_n 0, 1) := by decide +kernel
theorem d_Memory_putEntry_5 : decode prog_5_method_9_code 5 = .ok (.getfield 39, 3) := by decide +kernel
theorem d_Memory_putEntry_8 : decode prog_5_method_9_code 8 = .ok (.iconst 2, 1) := by decide +kernel
theorem d_Memory_putEntry_9 : decode prog_5_method_9_code 9 = .ok (.invokevirtual 105, 3) := by decide +kernel
theorem d_Memory_putEntry_12 : decode prog_5_method_9_code 12 = .ok (.aload_n 0, 1) := by decide +kernel
theorem d_Memory_putEntry_13 : decode prog_5_method_9_code 13 = .ok (.getfield 39, 3) := by decide +kernel
theorem d_Memory_putEntry_16 : decode prog_5_method_9_code 16 = .ok (.iconst 1, 1) := by decide +kernel
theorem d_Memory_putEntry_17 : decode prog_5_method_9_code 17 = .ok (.invokevirtual 105, 3) := by decide +kernel
theorem d_Memory_putEntry_20 : decode prog_5_method_9_code 20 = .ok (.aload_n 0, 1) := by decide +kernel
theorem d_Memory_putEntry_21 : decode prog_5_method_9_code 21 = .ok (.getfield 39, 3) := by decide +kernel
theorem d_Memory_putEntry_24 : decode prog_5_method_9_code 24 = .ok (.aload_n 0, 1) := by decide +kernel
theorem d_Memory_putEntry_25 : decode prog_5_method_9_code 25 = .ok (.getfield 39, 3) := by decide +kernel
theorem d_Memory_putEntry_28 : decode prog_5_method_9_code 28 = .ok (.getfield 90, 3) := by decide +kernel
theorem d_Memory_putEntry_31 : decode prog_5_method_9_code 31 = .ok (.iconst 1, 1) := by decide +kernel
theorem d_Memory_putEntry_32 : decode prog_5_method_9_code 32 = .ok (.isub, 1) := by decide +kernel
theorem d_Memory_putEntry_33 : decode prog_5_method_9_code 33 = .ok (.invokevirtual 154, 3) := by decide +kernel
theorem k_5_31 : Cond.code ⟨"PageScribe$Store", "define", "(IILPageScribe$Row;I)I"⟩ prog_10_method_11_code 6 (some .int) ∈ gw := gw_of (tb_5 (List.mem_of_getElem? (i := 31) (by decide +kernel))) (by decide +kernel)
theorem k_5_28 : Cond.methodLink "PageScribe$Memory" 154 ⟨"PageScribe$Store", "define", "(IILPageScribe$Row;I)I"⟩ ∈ gw := gw_of (tb_5 (List.mem_of_getElem? (i := 28) (by decide +kernel))) (by decide +kernel)
theorem k_5_29 : Cond.instanceMethod ⟨"PageScribe$Store", "define", "(IILPageScribe$Row;I)I"⟩ ∈ gw := gw_of (tb_5 (List.mem_of_getElem? (i := 29) (by decide +kernel))) (by decide +kernel)
theorem k_5_30 : Cond.selects "PageScribe$Store" ⟨"PageScribe$Store", "define", "(IILPageScribe$Row;I)I"⟩ ⟨"PageScribe$Store", "define", "(IILPageScribe$Row;I)I"⟩ ∈ gw := gw_of (tb_5 (List.mem_of_getElem? (i := 30) (by decide +kernel))) (by decide +kernel)
theorem d_Memory_putEntry_36 : decode prog_5_method_9_code 36 = .ok (.istore_n 1, 1) := by decide +kernel
theorem d_Memory_putEntry_37 : decode prog_5_method_9_code 37 = .ok (.iload_n 1, 1) := by decide +kernel
theorem d_Memory_putEntry_38 : decode prog_5_method_9_code 38 = .ok (.ifCond .ne 11, 3) := by decide +kernel
theorem d_Memory_putEntry_49 : decode prog_5_method_9_code 49 = .ok (.iload_n 1, 1) := by decide +kernel
theorem d_Memory_putEntry_50 : decode prog_5_method_9_code 50 = .ok (.ireturn, 1) := by decide +kernel
theorem d_Memory_putEntry_41 : decode prog_5_method_9_code 41 = .ok (.aload_n 0, 1) := by decide +kernel
theorem d_Memory_putEntry_42 : decode prog_5_method_9_code 42 = .ok (.getfield 39, 3) := by decide +kernel
theorem d_Memory_putEntry_45 : decode prog_5_method_9_code 45 = .ok (.iconst 3, 1) := by decide +kernel
theorem d_Memory_putEntry_46 : decode prog_5_method_9_code 46 = .ok (.invokevirtual 97, 3) := by decide +kernel
set_option maxHeartbeats 4000000 in
set_option maxRecDepth 100000 in
theorem c_Memory_putEntry (l : Launch) (D : va_G) (T : Nat → ClassId) (ad : Nat → Nat) (g : GE) (Bq : Nat → Prop) (S : CS)  (sz : Nat)  (hI : CIv S) : Met l ⟨"PageScribe$Memory", "putEntry", "()I"⟩ (wy ⟨"PageScribe$Memory", "putEntry", "()I"⟩ prog_5_method_9_code 2 (some .int)) ({ frames := 3, cells := 0, slots := 0, locals := 210 }) (va_Pc [.ref (ad 8)] (Pw D T (cW T ad S) sz (EC g Bq ad))) (va_Qi (fun (r : Int32) (u : CS) => CIv u ∧ kcL S u ∧ kcP S u ∧ kcU S u ∧ kcW S u) (fun u t => Bw D T (va_A (cW T ad S) sz) (cW T ad u) t) (va_A (cW T ad S) sz)) 0 0 (va_A (cW T ad S) sz) := by
  refine j_met (y := ⟨"PageScribe$Memory", "putEntry", "()I"⟩) (b := prog_5_method_9_code) (n := 2) (ret := (some .int)) (av := [.ref (ad 8)]) (Qc := fun A => va_Qi (fun (r : Int32) (u : CS) => CIv u ∧ kcL S u ∧ kcP S u ∧ kcU S u ∧ kcW S u) (fun u t => Bw D T A (cW T ad u) t) A) (by decide +kernel) (Nat.le_of_ble_eq_true rfl) (fun p e s m args below meth c A ls F hr hlocks hnm hK hP hD hS hA hN hE hl => ?_)
  obtain ⟨hx, hb, hml, hown, hts⟩ := id F
  have hl : lv_has ls 2 [(0, .ref (ad 8))] := hl
  obtain ⟨i_vst, i_vc0, i_vc1, i_vc2, i_vc3, i_vv0, i_vv1, i_vv2, i_vv3, i_vg, i_wct, i_wln, i_sd0, i_sd1, i_sd2, i_sd3, i_rln, i_rtx, i_rpl, i_rtk, i_cnv, i_pts, i_cik, i_und⟩ := id hI
  have hAB : ∀ q, A q → Bq q := EC.ab hE hN
  have hEV := hE.1.narrow hAB
  refine lv_aload_n hx hb d_Memory_putEntry_0 rfl (lv_at hl 0 rfl) ?_
  refine va_get (D := D) (ci := 2) (v := .ref (ad 12)) (C := "PageScribe$Memory") (T := F_Memory) (N := 8) hx hb hts i_Memory hown hK hP 8 (ce_8 _ _ _) cl_2 1 (by decide) (hts _ k_1_130) (fun _ h9 => h9) rfl d_Memory_putEntry_1 ?_
  refine lv_aload_n hx hb d_Memory_putEntry_4 rfl (lv_at hl 0 rfl) ?_
  refine va_get (D := D) (ci := 2) (v := .ref (ad 1)) (C := "PageScribe$Memory") (T := F_Memory) (N := 8) hx hb hts i_Memory hown hK hP 8 (ce_8 _ _ _) cl_2 0 (by decide) (hts _ k_1_129) (fun _ h9 => h9) rfl d_Memory_putEntry_5 ?_
  refine lv_iconst (v := 2) hx hb d_Memory_putEntry_8 (by decide) ?_
  refine jc_ci (w := (fun _ => S)) hK hP hD hS hA (va_runV (As := [.int 2]) (rest := [.ref (ad 12)]) F (c_Stack_numberDown l D T ad S (2 : Int32)  s.heap.size) (j_cV (k := 1) (C := "PageScribe$Stack") hts k_2_130 k_1_3 k_4_237 k_2_128 k_2_129 (by decide +kernel) ⟨Nat.le_of_ble_eq_true rfl, Nat.le_of_ble_eq_true rfl⟩) (j_preV (q0 := 1) (ci := 0) hK hP hD csc csc_all csc_nd cl_0 (ce_1 _ _ _) (fun _ _ _ _ h => h) (fun _ _ _ => trivial)) rfl rfl hl.1 rfl (lv_room (Nat.le_of_ble_eq_true rfl)) d_Memory_putEntry_9 ⟨Nat.le_of_ble_eq_true rfl, Nat.le_of_ble_eq_true rfl⟩) (fun rv1 u1 H locs hw1 hP hD hS => ?_)
  have hP : va_P D classes (cW T ad S) H := hP
  have hD : va_D A (cW T ad S) := hD
  have rrv1 := zt_rng rv1
  refine lv_aload_n hx hb d_Memory_putEntry_12 rfl (lv_at hl 0 rfl) ?_
  refine va_get (D := D) (ci := 2) (v := .ref (ad 1)) (C := "PageScribe$Memory") (T := F_Memory) (N := 8) hx hb hts i_Memory hown hK hP 8 (ce_8 _ _ _) cl_2 0 (by decide) (hts _ k_1_129) (fun _ h9 => h9) rfl d_Memory_putEntry_13 ?_
  refine lv_iconst (v := 1) hx hb d_Memory_putEntry_16 (by decide) ?_
  refine jc_ci (w := (fun _ => S)) hK hP hD hS hA (va_runV (As := [.int 1]) (rest := [.int rv1, .ref (ad 12)]) F (c_Stack_numberDown l D T ad S (1 : Int32)  H.size) (j_cV (k := 1) (C := "PageScribe$Stack") hts k_2_130 k_1_3 k_4_237 k_2_128 k_2_129 (by decide +kernel) ⟨Nat.le_of_ble_eq_true rfl, Nat.le_of_ble_eq_true rfl⟩) (j_preV (q0 := 1) (ci := 0) hK hP hD csc csc_all csc_nd cl_0 (ce_1 _ _ _) (fun _ _ _ _ h => h) (fun _ _ _ => trivial)) rfl rfl hl.1 rfl (lv_room (Nat.le_of_ble_eq_true rfl)) d_Memory_putEntry_17 ⟨Nat.le_of_ble_eq_true rfl, Nat.le_of_ble_eq_true rfl⟩) (fun rv2 u2 H locs hw2 hP hD hS => ?_)
  have hP : va_P D classes (cW T ad S) H := hP
  have hD : va_D A (cW T ad S) := hD
  have rrv2 := zt_rng rv2
  refine lv_aload_n hx hb d_Memory_putEntry_20 rfl (lv_at hl 0 rfl) ?_
  refine va_get (D := D) (ci := 2) (v := .ref (ad 1)) (C := "PageScribe$Memory") (T := F_Memory) (N := 8) hx hb hts i_Memory hown hK hP 8 (ce_8 _ _ _) cl_2 0 (by decide) (hts _ k_1_129) (fun _ h9 => h9) rfl d_Memory_putEntry_21 ?_
  refine lv_aload_n hx hb d_Memory_putEntry_24 rfl (lv_at hl 0 rfl) ?_
  refine va_get (D := D) (ci := 2) (v := .ref (ad 1)) (C := "PageScribe$Memory") (T := F_Memory) (N := 8) hx hb hts i_Memory hown hK hP 8 (ce_8 _ _ _) cl_2 0 (by decide) (hts _ k_1_129) (fun _ h9 => h9) rfl d_Memory_putEntry_25 ?_
  refine va_get (D := D) (ci := 0) (v := .int (f_xst_z S)) (C := "PageScribe$Stack") (T := F_Stack) (N := 4) hx hb hts i_Stack hown hK hP 1 (ce_1 _ _ _) cl_0 3 (by decide) (hts _ k_1_53) (fun x9 h9 => u_same (hts _ k_1_51) x9 h9) rfl d_Memory_putEntry_28 ?_
  refine lv_iconst (v := 1) hx hb d_Memory_putEntry_31 (by decide) ?_
  refine lv_isub hx hb d_Memory_putEntry_32 ?_
  refine lv_topi (fun x1 ex1 => ?_)
  have rx1 := zt_rng x1
  refine jc_ci (w := (fun u => u)) hK hP hD hS hA (va_runV (As := [.int rv1, .int rv2, .ref (ad 1), .int x1]) (rest := []) F (c_Store_define l D T ad S rv1 rv2 x1  H.size ⟨i_vst, i_vc0, i_vc1, i_vc2, i_vc3, i_vv0, i_vv1, i_vv2, i_vv3, i_vg, i_wct, i_wln, i_sd0, i_sd1, i_sd2, i_sd3, i_rln, i_rtx, i_rpl, i_rtk, i_cnv, i_pts, i_cik, i_und⟩) (j_cV (k := 4) (C := "PageScribe$Store") hts k_5_31 k_1_6 k_5_28 k_5_29 k_5_30 (by decide +kernel) ⟨Nat.le_of_ble_eq_true rfl, Nat.le_of_ble_eq_true rfl⟩) (j_preV (q0 := 12) (ci := 3) hK hP hD csc csc_all csc_nd cl_3 (ce_12 _ _ _) (fun _ _ _ _ h => h) (fun _ _ _ => trivial)) rfl rfl hl.1 rfl (lv_room (Nat.le_of_ble_eq_true rfl)) d_Memory_putEntry_33 ⟨Nat.le_of_ble_eq_true rfl, Nat.le_of_ble_eq_true rfl⟩) (fun rv3 S1 H locs hw3 hP hD hS => ?_)
  have hP : va_P D classes (cW T ad S1) H := hP
  have hD : va_D A (cW T ad S1) := hD
  obtain ⟨⟨i_vst, i_vc0, i_vc1, i_vc2, i_vc3, i_vv0, i_vv1, i_vv2, i_vv3, i_vg, i_wct, i_wln, i_sd0, i_sd1, i_sd2, i_sd3, i_rln, i_rtx, i_rpl, i_rtk, i_cnv, i_pts, i_cik, i_und⟩, kpcL_S1, kpcP_S1, kpcU_S1, kpcW_S1⟩ := hw3
  have kScL_S1 : kcL S S1 := kcL_t (show kcL S S from (kcL_r S)) kpcL_S1
  have kScP_S1 : kcP S S1 := kcP_t (show kcP S S from (kcP_r S)) kpcP_S1
  have kScU_S1 : kcU S S1 := kcU_t (show kcU S S from (kcU_r S)) kpcU_S1
  have kScW_S1 : kcW S S1 := kcW_t (show kcW S S from (kcW_r S)) kpcW_S1
  have nxr_length_S1 : (f_xr_length S1).toInt = (f_xr_length S).toInt := congrArg Int32.toInt kpcL_S1
  have nxr_length_S1 : (f_xr_length S1).toInt = (f_xr_length S).toInt := congrArg Int32.toInt kpcP_S1.1
  have nxr_place_S1 : (f_xr_place S1).toInt = (f_xr_place S).toInt := congrArg Int32.toInt kpcP_S1.2.1
  have nxe_underWay_S1 : (f_xe_underWay S1).toInt = (f_xe_underWay S).toInt := congrArg Int32.toInt kpcU_S1
  have nxp_columns_S1 : (f_xp_columns S1).toInt = (f_xp_columns S).toInt := congrArg Int32.toInt kpcW_S1.1
  have nxp_rows_S1 : (f_xp_rows S1).toInt = (f_xp_rows S).toInt := congrArg Int32.toInt kpcW_S1.2
  have rrv3 := zt_rng rv3
  refine lv_istore_n (lv' := [(1, .int rv3), (0, .ref (ad 8))]) hx hb d_Memory_putEntry_36 rfl hl (by decide) rfl (fun ls hl => ?_)
  refine lv_iload_n hx hb d_Memory_putEntry_37 rfl (lv_at hl 0 rfl) ?_
  refine lv_if_ne (tgt := 49) hx hb d_Memory_putEntry_38 (by decide) (fun c38_1 => ?_) (fun c38_1 => ?_)
  · first | have fc38_1 : rv3.toInt < 0 := (by have := zt_ne (show rv3.toInt = _ from rfl) tI_0 c38_1; omega) | have fc38_1 : 0 < rv3.toInt := (by have := zt_ne (show rv3.toInt = _ from rfl) tI_0 c38_1; omega) | skip
    refine lv_iload_n hx hb d_Memory_putEntry_49 rfl (lv_at hl 0 rfl) ?_
    exact j_iret F hr hlocks hK hS S1 ⟨⟨i_vst, i_vc0, i_vc1, i_vc2, i_vc3, i_vv0, i_vv1, i_vv2, i_vv3, i_vg, i_wct, i_wln, i_sd0, i_sd1, i_sd2, i_sd3, i_rln, i_rtx, i_rpl, i_rtk, i_cnv, i_pts, i_cik, i_und⟩, kScL_S1, kScP_S1, kScU_S1, kScW_S1⟩ hP hD d_Memory_putEntry_50
  · have fc38_1 : rv3.toInt = 0 := zt_eq (show rv3.toInt = _ from rfl) tI_0 c38_1
    refine lv_aload_n hx hb d_Memory_putEntry_41 rfl (lv_at hl 1 rfl) ?_
    refine va_get (D := D) (ci := 2) (v := .ref (ad 1)) (C := "PageScribe$Memory") (T := F_Memory) (N := 8) hx hb hts i_Memory hown hK hP 8 (ce_8 _ _ _) cl_2 0 (by decide) (hts _ k_1_129) (fun _ h9 => h9) rfl d_Memory_putEntry_42 ?_
    refine lv_iconst (v := 3) hx hb d_Memory_putEntry_45 (by decide) ?_
    refine jc_cv (w := (fun u => u)) hK hP hD hS hA (va_runU (As := [.int 3]) (rest := []) F (c_Row_drop l D T ad S1 (3 : Int32)  H.size ⟨i_vst, i_vc0, i_vc1, i_vc2, i_vc3, i_vv0, i_vv1, i_vv2, i_vv3, i_vg, i_wct, i_wln, i_sd0, i_sd1, i_sd2, i_sd3, i_rln, i_rtx, i_rpl, i_rtk, i_cnv, i_pts, i_cik, i_und⟩) (j_cU (k := 1) (C := "PageScribe$Stack") (owner := "PageScribe$Row") (x := ⟨"PageScribe$Stack", "drop", "(I)V"⟩) hts k_4_47 k_4_231 k_4_43 k_4_45 k_4_46 k_1_2 rfl (by decide +kernel) ⟨Nat.le_of_ble_eq_true rfl, Nat.le_of_ble_eq_true rfl⟩) (j_preV (q0 := 1) (ci := 0) hK hP hD csc csc_all csc_nd cl_0 (ce_1 _ _ _) (fun _ _ _ _ h => h) (fun _ _ _ => trivial)) rfl rfl hl.1 rfl (lv_room (Nat.le_of_ble_eq_true rfl)) d_Memory_putEntry_46 ⟨Nat.le_of_ble_eq_true rfl, Nat.le_of_ble_eq_true rfl⟩) (fun S2 H locs hw4 hP hD hS => ?_)
    have hP : va_P D classes (cW T ad S2) H := hP
    have hD : va_D A (cW T ad S2) := hD
    obtain ⟨⟨i_vst, i_vc0, i_vc1, i_vc2, i_vc3, i_vv0, i_vv1, i_vv2, i_vv3, i_vg, i_wct, i_wln, i_sd0, i_sd1, i_sd2, i_sd3, i_rln, i_rtx, i_rpl, i_rtk, i_cnv, i_pts, i_cik, i_und⟩, kpcL_S2, kpcP_S2, kpcU_S2, kpcW_S2⟩ := hw4
    have kScL_S2 : kcL S S2 := kcL_t (show kcL S S1 from kScL_S1) kpcL_S2
    have kScP_S2 : kcP S S2 := kcP_t (show kcP S S1 from kScP_S1) kpcP_S2
    have kScU_S2 : kcU S S2 := kcU_t (show kcU S S1 from kScU_S1) kpcU_S2
    have kScW_S2 : kcW S S2 := kcW_t (show kcW S S1 from kScW_S1) kpcW_S2
    have nxr_length_S2 : (f_xr_length S2).toInt = (f_xr_length S1).toInt := congrArg Int32.toInt kpcL_S2
    have nxr_length_S2 : (f_xr_length S2).toInt = (f_xr_length S1).toInt := congrArg Int32.toInt kpcP_S2.1
    have nxr_place_S2 : (f_xr_place S2).toInt = (f_xr_place S1).toInt := congrArg Int32.toInt kpcP_S2.2.1
    have nxe_underWay_S2 : (f_xe_underWay S2).toInt = (f_xe_underWay S1).toInt := congrArg Int32.toInt kpcU_S2
    have nxp_columns_S2 : (f_xp_columns S2).toInt = (f_xp_columns S1).toInt := congrArg Int32.toInt kpcW_S2.1
    have nxp_rows_S2 : (f_xp_rows S2).toInt = (f_xp_rows S1).toInt := congrArg Int32.toInt kpcW_S2.2
    refine lv_iload_n hx hb d_Memory_putEntry_49 rfl (lv_at hl 0 rfl) ?_
    exact j_iret F hr hlocks hK hS S2 ⟨⟨i_vst, i_vc0, i_vc1, i_vc2, i_vc3, i_vv0, i_vv1, i_vv2, i_vv3, i_vg, i_wct, i_wln, i_sd0, i_sd1, i_sd2, i_sd3, i_rln, i_rtx, i_rpl, i_rtk, i_cnv, i_pts, i_cik, i_und⟩, kScL_S2, kScP_S2, kScU_S2, kScW_S2⟩ hP hD d_Memory_putEntry_50
theorem d_Memory_getInterval_0 : decode prog_5_method_10_code 0 = .ok (.aload_n 0, 1) := by decide +kernel
theorem d_Memory_getInterval_1 : decode prog_5_method_10_code 1 = .ok (.getfield 39, 3) := by decide +kernel
theorem d_Memory_getInterval_4 : decode prog_5_method_10_code 4 = .ok (.iconst 2, 1) := by decide +kernel
theorem d_Memory_getInterval_5 : decode prog_5_method_10_code 5 = .ok (.invokevirtual 63, 3) := by decide +kernel
theorem d_Memory_getInterval_8 : decode prog_5_method_10_code 8 = .ok (.istore_n 1, 1) := by decide +kernel
theorem d_Memory_getInterval_9 : decode prog_5_method_10_code 9 = .ok (.aload_n 0, 1) := by decide +kernel
theorem d_Memory_getInterval_10 : decode prog_5_method_10_code 10 = .ok (.getfield 39, 3) := by decide +kernel
theorem d_Memory_getInterval_13 : decode prog_5_method_10_code 13 = .ok (.iconst 2, 1) := by decide +kernel
theorem d_Memory_getInterval_14 : decode prog_5_method_10_code 14 = .ok (.invokevirtual 105, 3) := by decide +kernel
theorem d_Memory_getInterval_17 : decode prog_5_method_10_code 17 = .ok (.istore_n 2, 1) := by decide +kernel
theorem d_Memory_getInterval_18 : decode prog_5_method_10_code 18 = .ok (.aload_n 0, 1) := by decide +kernel
theorem d_Memory_getInterval_19 : decode prog_5_method_10_code 19 = .ok (.getfield 39, 3) := by decide +kernel
theorem d_Memory_getInterval_22 : decode prog_5_method_10_code 22 = .ok (.iconst 1, 1) := by decide +kernel
theorem d_Memory_getInterval_23 : decode prog_5_method_10_code 23 = .ok (.invokevirtual 105, 3) := by decide +kernel
theorem d_Memory_getInterval_26 : decode prog_5_method_10_code 26 = .ok (.istore_n 3, 1) := by decide +kernel
theorem d_Memory_getInterval_27 : decode prog_5_method_10_code 27 = .ok (.aload_n 0, 1) := by decide +kernel
theorem d_Memory_getInterval_28 : decode prog_5_method_10_code 28 = .ok (.getfield 39, 3) := by decide +kernel
theorem d_Memory_getInterval_31 : decode prog_5_method_10_code 31 = .ok (.iconst 0, 1) := by decide +kernel
theorem d_Memory_getInterval_32 : decode prog_5_method_10_code 32 = .ok (.invokevirtual 105, 3) := by decide +kernel
theorem d_Memory_getInterval_35 : decode prog_5_method_10_code 35 = .ok (.istore 4, 2) := by decide +kernel
theorem d_Memory_getInterval_37 : decode prog_5_method_10_code 37 = .ok (.iload_n 3, 1) := by decide +kernel
theorem d_Memory_getInterval_38 : decode prog_5_method_10_code 38 = .ok (.ifCond .lt 27, 3) := by decide +kernel
theorem d_Memory_getInterval_65 : decode prog_5_method_10_code 65 = .ok (.iconst 4, 1) := by decide +kernel
theorem d_Memory_getInterval_66 : decode prog_5_method_10_code 66 = .ok (.ireturn, 1) := by decide +kernel
theorem d_Memory_getInterval_41 : decode prog_5_method_10_code 41 = .ok (.iload 4, 2) := by decide +kernel
theorem d_Memory_getInterval_43 : decode prog_5_method_10_code 43 = .ok (.ifCond .lt 22, 3) := by decide +kernel
theorem d_Memory_getInterval_46 : decode prog_5_method_10_code 46 = .ok (.iload_n 3, 1) := by decide +kernel
theorem d_Memory_getInterval_47 : decode prog_5_method_10_code 47 = .ok (.iload_n 2, 1) := by decide +kernel
theorem d_Memory_getInterval_48 : decode prog_5_method_10_code 48 = .ok (.invokestatic 127, 3) := by decide +kernel
theorem d_Memory_getInterval_51 : decode prog_5_method_10_code 51 = .ok (.if_icmp .gt 14, 3) := by decide +kernel
theorem d_Memory_getInterval_54 : decode prog_5_method_10_code 54 = .ok (.iload 4, 2) := by decide +kernel
theorem d_Memory_getInterval_56 : decode prog_5_method_10_code 56 = .ok (.iload_n 2, 1) := by decide +kernel
theorem d_Memory_getInterval_57 : decode prog_5_method_10_code 57 = .ok (.invokestatic 127, 3) := by decide +kernel
theorem d_Memory_getInterval_60 : decode prog_5_method_10_code 60 = .ok (.iload_n 3, 1) := by decide +kernel
theorem d_Memory_getInterval_61 : decode prog_5_method_10_code 61 = .ok (.isub, 1) := by decide +kernel
theorem d_Memory_getInterval_62 : decode prog_5_method_10_code 62 = .ok (.if_icmp .le 5, 3) := by decide +kernel
theorem d_Memory_getInterval_67 : decode prog_5_method_10_code 67 = .ok (.aload_n 0, 1) := by decide +kernel
theorem d_Memory_getInterval_68 : decode prog_5_method_10_code 68 = .ok (.getfield 39, 3) := by decide +kernel
theorem d_Memory_getInterval_71 : decode prog_5_method_10_code 71 = .ok (.iconst 3, 1) := by decide +kernel
theorem d_Memory_getInterval_72 : decode prog_5_method_10_code 72 = .ok (.invokevirtual 97, 3) := by decide +kernel
theorem d_Memory_getInterval_75 : decode prog_5_method_10_code 75 = .ok (.aload_n 0, 1) := by decide +kernel
theorem d_Memory_getInterval_76 : decode prog_5_method_10_code 76 = .ok (.getfield 39, 3) := by decide +kernel
theorem d_Memory_getInterval_79 : decode prog_5_method_10_code 79 = .ok (.iload_n 1, 1) := by decide +kernel
theorem d_Memory_getInterval_80 : decode prog_5_method_10_code 80 = .ok (.iload_n 2, 1) := by decide +kernel
theorem d_Memory_getInterval_81 : decode prog_5_method_10_code 81 = .ok (.invokestatic 133, 3) := by decide +kernel
theorem d_Memory_getInterval_84 : decode prog_5_method_10_code 84 = .ok (.iload_n 3, 1) := by decide +kernel
theorem d_Memory_getInterval_85 : decode prog_5_method_10_code 85 = .ok (.iadd, 1) := by decide +kernel
theorem d_Memory_getInterval_86 : decode prog_5_method_10_code 86 = .ok (.iload 4, 2) := by decide +kernel
theorem d_Memory_getInterval_88 : decode prog_5_method_10_code 88 = .ok (.invokestatic 120, 3) := by decide +kernel
theorem d_Memory_getInterval_91 : decode prog_5_method_10_code 91 = .ok (.dconst 0, 1) := by decide +kernel
theorem d_Memory_getInterval_92 : decode prog_5_method_10_code 92 = .ok (.invokevirtual 101, 3) := by decide +kernel
theorem d_Memory_getInterval_95 : decode prog_5_method_10_code 95 = .ok (.ireturn, 1) := by decide +kernel
set_option maxHeartbeats 4000000 in
set_option maxRecDepth 100000 in
theorem c_Memory_getInterval (l : Launch) (D : va_G) (T : Nat → ClassId) (ad : Nat → Nat) (g : GE) (Bq : Nat → Prop) (S : CS)  (sz : Nat)  (hI : CIv S) : Met l ⟨"PageScribe$Memory", "getInterval", "()I"⟩ (wy ⟨"PageScribe$Memory", "getInterval", "()I"⟩ prog_5_method_10_code 5 (some .int)) ({ frames := 2, cells := 0, slots := 0, locals := 140 }) (va_Pc [.ref (ad 8)] (Pw D T (cW T ad S) sz (EC g Bq ad))) (va_Qi (fun (r : Int32) (u : CS) => CIv u ∧ kcL S u ∧ kcP S u ∧ kcU S u ∧ kcW S u) (fun u t => Bw D T (va_A (cW T ad S) sz) (cW T ad u) t) (va_A (cW T ad S) sz)) 0 0 (va_A (cW T ad S) sz) := by
  refine j_met (y := ⟨"PageScribe$Memory", "getInterval", "()I"⟩) (b := prog_5_method_10_code) (n := 5) (ret := (some .int)) (av := [.ref (ad 8)]) (Qc := fun A => va_Qi (fun (r : Int32) (u : CS) => CIv u ∧ kcL S u ∧ kcP S u ∧ kcU S u ∧ kcW S u) (fun u t => Bw D T A (cW T ad u) t) A) (by decide +kernel) (Nat.le_of_ble_eq_true rfl) (fun p e s m args below meth c A ls F hr hlocks hnm hK hP hD hS hA hN hE hl => ?_)
  obtain ⟨hx, hb, hml, hown, hts⟩ := id F
  have hl : lv_has ls 5 [(0, .ref (ad 8))] := hl
  obtain ⟨i_vst, i_vc0, i_vc1, i_vc2, i_vc3, i_vv0, i_vv1, i_vv2, i_vv3, i_vg, i_wct, i_wln, i_sd0, i_sd1, i_sd2, i_sd3, i_rln, i_rtx, i_rpl, i_rtk, i_cnv, i_pts, i_cik, i_und⟩ := id hI
  have hAB : ∀ q, A q → Bq q := EC.ab hE hN
  have hEV := hE.1.narrow hAB
  refine lv_aload_n hx hb d_Memory_getInterval_0 rfl (lv_at hl 0 rfl) ?_
  refine va_get (D := D) (ci := 2) (v := .ref (ad 1)) (C := "PageScribe$Memory") (T := F_Memory) (N := 8) hx hb hts i_Memory hown hK hP 8 (ce_8 _ _ _) cl_2 0 (by decide) (hts _ k_1_129) (fun _ h9 => h9) rfl d_Memory_getInterval_1 ?_
  refine lv_iconst (v := 2) hx hb d_Memory_getInterval_4 (by decide) ?_
  refine jc_ci (w := (fun _ => S)) hK hP hD hS hA (va_runV (As := [.int 2]) (rest := []) F (c_Stack_kindDown l D T ad S (2 : Int32)  s.heap.size) (j_cV (k := 1) (C := "PageScribe$Stack") hts k_2_120 k_1_3 k_5_5 k_2_118 k_2_119 (by decide +kernel) ⟨Nat.le_of_ble_eq_true rfl, Nat.le_of_ble_eq_true rfl⟩) (j_preV (q0 := 1) (ci := 0) hK hP hD csc csc_all csc_nd cl_0 (ce_1 _ _ _) (fun _ _ _ _ h => h) (fun _ _ _ => trivial)) rfl rfl hl.1 rfl (lv_room (Nat.le_of_ble_eq_true rfl)) d_Memory_getInterval_5 ⟨Nat.le_of_ble_eq_true rfl, Nat.le_of_ble_eq_true rfl⟩) (fun rv1 u1 H locs hw1 hP hD hS => ?_)
  have hP : va_P D classes (cW T ad S) H := hP
  have hD : va_D A (cW T ad S) := hD
  have rrv1 := zt_rng rv1
  refine lv_istore_n (lv' := [(1, .int rv1), (0, .ref (ad 8))]) hx hb d_Memory_getInterval_8 rfl hl (by decide) rfl (fun ls hl => ?_)
  refine lv_aload_n hx hb d_Memory_getInterval_9 rfl (lv_at hl 1 rfl) ?_
  refine va_get (D := D) (ci := 2) (v := .ref (ad 1)) (C := "PageScribe$Memory") (T := F_Memory) (N := 8) hx hb hts i_Memory hown hK hP 8 (ce_8 _ _ _) cl_2 0 (by decide) (hts _ k_1_129) (fun _ h9 => h9) rfl d_Memory_getInterval_10 ?_
  refine lv_iconst (v := 2) hx hb d_Memory_getInterval_13 (by decide) ?_
  refine jc_ci (w := (fun _ => S)) hK hP hD hS hA (va_runV (As := [.int 2]) (rest := []) F (c_Stack_numberDown l D T ad S (2 : Int32)  H.size) (j_cV (k := 1) (C := "PageScribe$Stack") hts k_2_130 k_1_3 k_4_237 k_2_128 k_2_129 (by decide +kernel) ⟨Nat.le_of_ble_eq_true rfl, Nat.le_of_ble_eq_true rfl⟩) (j_preV (q0 := 1) (ci := 0) hK hP hD csc csc_all csc_nd cl_0 (ce_1 _ _ _) (fun _ _ _ _ h => h) (fun _ _ _ => trivial)) rfl rfl hl.1 rfl (lv_room (Nat.le_of_ble_eq_true rfl)) d_Memory_getInterval_14 ⟨Nat.le_of_ble_eq_true rfl, Nat.le_of_ble_eq_true rfl⟩) (fun rv2 u2 H locs hw2 hP hD hS => ?_)
  have hP : va_P D classes (cW T ad S) H := hP
  have hD : va_D A (cW T ad S) := hD
  have rrv2 := zt_rng rv2
  refine lv_istore_n (lv' := [(2, .int rv2), (1, .int rv1), (0, .ref (ad 8))]) hx hb d_Memory_getInterval_17 rfl hl (by decide) rfl (fun ls hl => ?_)
  refine lv_aload_n hx hb d_Memory_getInterval_18 rfl (lv_at hl 2 rfl) ?_
  refine va_get (D := D) (ci := 2) (v := .ref (ad 1)) (C := "PageScribe$Memory") (T := F_Memory) (N := 8) hx hb hts i_Memory hown hK hP 8 (ce_8 _ _ _) cl_2 0 (by decide) (hts _ k_1_129) (fun _ h9 => h9) rfl d_Memory_getInterval_19 ?_
  refine lv_iconst (v := 1) hx hb d_Memory_getInterval_22 (by decide) ?_
  refine jc_ci (w := (fun _ => S)) hK hP hD hS hA (va_runV (As := [.int 1]) (rest := []) F (c_Stack_numberDown l D T ad S (1 : Int32)  H.size) (j_cV (k := 1) (C := "PageScribe$Stack") hts k_2_130 k_1_3 k_4_237 k_2_128 k_2_129 (by decide +kernel) ⟨Nat.le_of_ble_eq_true rfl, Nat.le_of_ble_eq_true rfl⟩) (j_preV (q0 := 1) (ci := 0) hK hP hD csc csc_all csc_nd cl_0 (ce_1 _ _ _) (fun _ _ _ _ h => h) (fun _ _ _ => trivial)) rfl rfl hl.1 rfl (lv_room (Nat.le_of_ble_eq_true rfl)) d_Memory_getInterval_23 ⟨Nat.le_of_ble_eq_true rfl, Nat.le_of_ble_eq_true rfl⟩) (fun rv3 u3 H locs hw3 hP hD hS => ?_)
  have hP : va_P D classes (cW T ad S) H := hP
  have hD : va_D A (cW T ad S) := hD
  have rrv3 := zt_rng rv3
  refine lv_istore_n (lv' := [(3, .int rv3), (2, .int rv2), (1, .int rv1), (0, .ref (ad 8))]) hx hb d_Memory_getInterval_26 rfl hl (by decide) rfl (fun ls hl => ?_)
  refine lv_aload_n hx hb d_Memory_getInterval_27 rfl (lv_at hl 3 rfl) ?_
  refine va_get (D := D) (ci := 2) (v := .ref (ad 1)) (C := "PageScribe$Memory") (T := F_Memory) (N := 8) hx hb hts i_Memory hown hK hP 8 (ce_8 _ _ _) cl_2 0 (by decide) (hts _ k_1_129) (fun _ h9 => h9) rfl d_Memory_getInterval_28 ?_
  refine lv_iconst (v := 0) hx hb d_Memory_getInterval_31 (by decide) ?_
  refine jc_ci (w := (fun _ => S)) hK hP hD hS hA (va_runV (As := [.int 0]) (rest := []) F (c_Stack_numberDown l D T ad S (0 : Int32)  H.size) (j_cV (k := 1) (C := "PageScribe$Stack") hts k_2_130 k_1_3 k_4_237 k_2_128 k_2_129 (by decide +kernel) ⟨Nat.le_of_ble_eq_true rfl, Nat.le_of_ble_eq_true rfl⟩) (j_preV (q0 := 1) (ci := 0) hK hP hD csc csc_all csc_nd cl_0 (ce_1 _ _ _) (fun _ _ _ _ h => h) (fun _ _ _ => trivial)) rfl rfl hl.1 rfl (lv_room (Nat.le_of_ble_eq_true rfl)) d_Memory_getInterval_32 ⟨Nat.le_of_ble_eq_true rfl, Nat.le_of_ble_eq_true rfl⟩) (fun rv4 u4 H locs hw4 hP hD hS => ?_)
  have hP : va_P D classes (cW T ad S) H := hP
  have hD : va_D A (cW T ad S) := hD
  have rrv4 := zt_rng rv4
  refine lv_istore (lv' := [(4, .int rv4), (3, .int rv3), (2, .int rv2), (1, .int rv1), (0, .ref (ad 8))]) hx hb d_Memory_getInterval_35 hl (by decide) rfl (fun ls hl => ?_)
  refine lv_iload_n hx hb d_Memory_getInterval_37 rfl (lv_at hl 1 rfl) ?_
  refine lv_if_lt (tgt := 65) hx hb d_Memory_getInterval_38 (by decide) (fun c38_1 => ?_) (fun c38_1 => ?_)
  · have fc38_1 : rv3.toInt < 0 := zt_lt (show rv3.toInt = _ from rfl) tI_0 c38_1
    refine lv_iconst (v := 4) hx hb d_Memory_getInterval_65 (by decide) ?_
    exact j_iret F hr hlocks hK hS S ⟨⟨i_vst, i_vc0, i_vc1, i_vc2, i_vc3, i_vv0, i_vv1, i_vv2, i_vv3, i_vg, i_wct, i_wln, i_sd0, i_sd1, i_sd2, i_sd3, i_rln, i_rtx, i_rpl, i_rtk, i_cnv, i_pts, i_cik, i_und⟩, (kcL_r S), (kcP_r S), (kcU_r S), (kcW_r S)⟩ hP hD d_Memory_getInterval_66
  · have fc38_1 : 0 ≤ rv3.toInt := Int.not_lt.mp (zt_nlt (show rv3.toInt = _ from rfl) tI_0 c38_1)
    refine lv_iload hx hb d_Memory_getInterval_41 (lv_at hl 0 rfl) ?_
    refine lv_if_lt (tgt := 65) hx hb d_Memory_getInterval_43 (by decide) (fun c43_1 => ?_) (fun c43_1 => ?_)
    · have fc43_1 : rv4.toInt < 0 := zt_lt (show rv4.toInt = _ from rfl) tI_0 c43_1
      refine lv_iconst (v := 4) hx hb d_Memory_getInterval_65 (by decide) ?_
      exact j_iret F hr hlocks hK hS S ⟨⟨i_vst, i_vc0, i_vc1, i_vc2, i_vc3, i_vv0, i_vv1, i_vv2, i_vv3, i_vg, i_wct, i_wln, i_sd0, i_sd1, i_sd2, i_sd3, i_rln, i_rtx, i_rpl, i_rtk, i_cnv, i_pts, i_cik, i_und⟩, (kcL_r S), (kcP_r S), (kcU_r S), (kcW_r S)⟩ hP hD d_Memory_getInterval_66
    · have fc43_1 : 0 ≤ rv4.toInt := Int.not_lt.mp (zt_nlt (show rv4.toInt = _ from rfl) tI_0 c43_1)
      refine lv_iload_n hx hb d_Memory_getInterval_46 rfl (lv_at hl 1 rfl) ?_
      refine lv_iload_n hx hb d_Memory_getInterval_47 rfl (lv_at hl 2 rfl) ?_
      refine j_ci (wc := []) (wr := (cW T ad S)) hK hP hD hS hA [] csc rfl csc_all csc_nd (fun _ _ => List.not_mem_nil) (va_runSN (As := [.int rv2]) (rest := [.int rv3]) F (c_Ps_lengthOf l D T rv2  H.size) (j_cSN (k := 1) hts k_4_189 k_1_1 (hE.2.2.2 (Cond.methodLinkNest "PageScribe$Memory" 127 ⟨"PageScribe", "lengthOf", "(I)I"⟩ "PageScribe") (List.mem_of_getElem? (i := 7) rfl)) k_4_188 (by decide +kernel) ⟨Nat.le_of_ble_eq_true rfl, Nat.le_of_ble_eq_true rfl⟩) (j_preS hK hP hD [] rfl (by decide) (fun _ _ _ _ h => h) (fun _ _ _ => trivial)) rfl rfl hl.1 rfl (lv_room (Nat.le_of_ble_eq_true rfl)) d_Memory_getInterval_48 ⟨Nat.le_of_ble_eq_true rfl, Nat.le_of_ble_eq_true rfl⟩) (fun rv5 u5 H locs hw5 hP hD hS => ?_)
      have hP : va_P D classes (cW T ad S) H := hP
      have hD : va_D A (cW T ad S) := hD
      have rrv5 := zt_rng rv5
      refine lv_icmp_gt (tgt := 65) hx hb d_Memory_getInterval_51 (by decide) (fun c51_1 => ?_) (fun c51_1 => ?_)
      · have fc51_1 : rv5.toInt < rv3.toInt := zt_lt (show rv5.toInt = _ from rfl) (show rv3.toInt = _ from rfl) c51_1
        refine lv_iconst (v := 4) hx hb d_Memory_getInterval_65 (by decide) ?_
        exact j_iret F hr hlocks hK hS S ⟨⟨i_vst, i_vc0, i_vc1, i_vc2, i_vc3, i_vv0, i_vv1, i_vv2, i_vv3, i_vg, i_wct, i_wln, i_sd0, i_sd1, i_sd2, i_sd3, i_rln, i_rtx, i_rpl, i_rtk, i_cnv, i_pts, i_cik, i_und⟩, (kcL_r S), (kcP_r S), (kcU_r S), (kcW_r S)⟩ hP hD d_Memory_getInterval_66
      · have fc51_1 : rv3.toInt ≤ rv5.toInt := Int.not_lt.mp (zt_nlt (show rv5.toInt = _ from rfl) (show rv3.toInt = _ from rfl) c51_1)
        refine lv_iload hx hb d_Memory_getInterval_54 (lv_at hl 0 rfl) ?_
        refine lv_iload_n hx hb d_Memory_getInterval_56 rfl (lv_at hl 2 rfl) ?_
        refine j_ci (wc := []) (wr := (cW T ad S)) hK hP hD hS hA [] csc rfl csc_all csc_nd (fun _ _ => List.not_mem_nil) (va_runSN (As := [.int rv2]) (rest := [.int rv4]) F (c_Ps_lengthOf l D T rv2  H.size) (j_cSN (k := 1) hts k_4_189 k_1_1 (hE.2.2.2 (Cond.methodLinkNest "PageScribe$Memory" 127 ⟨"PageScribe", "lengthOf", "(I)I"⟩ "PageScribe") (List.mem_of_getElem? (i := 7) rfl)) k_4_188 (by decide +kernel) ⟨Nat.le_of_ble_eq_true rfl, Nat.le_of_ble_eq_true rfl⟩) (j_preS hK hP hD [] rfl (by decide) (fun _ _ _ _ h => h) (fun _ _ _ => trivial)) rfl rfl hl.1 rfl (lv_room (Nat.le_of_ble_eq_true rfl)) d_Memory_getInterval_57 ⟨Nat.le_of_ble_eq_true rfl, Nat.le_of_ble_eq_true rfl⟩) (fun rv6 u6 H locs hw6 hP hD hS => ?_)
        have hP : va_P D classes (cW T ad S) H := hP
        have hD : va_D A (cW T ad S) := hD
        have rrv6 := zt_rng rv6
        refine lv_iload_n hx hb d_Memory_getInterval_60 rfl (lv_at hl 1 rfl) ?_
        refine lv_isub hx hb d_Memory_getInterval_61 ?_
        refine lv_topi (fun x1 ex1 => ?_)
        have rx1 := zt_rng x1
        refine lv_icmp_le (tgt := 67) hx hb d_Memory_getInterval_62 (by decide) (fun c62_1 => ?_) (fun c62_1 => ?_)
        · have fc62_1 : rv4.toInt ≤ x1.toInt := zt_le (show rv4.toInt = _ from rfl) (show x1.toInt = _ from rfl) c62_1
          refine lv_aload_n hx hb d_Memory_getInterval_67 rfl (lv_at hl 4 rfl) ?_
          refine va_get (D := D) (ci := 2) (v := .ref (ad 1)) (C := "PageScribe$Memory") (T := F_Memory) (N := 8) hx hb hts i_Memory hown hK hP 8 (ce_8 _ _ _) cl_2 0 (by decide) (hts _ k_1_129) (fun _ h9 => h9) rfl d_Memory_getInterval_68 ?_
          refine lv_iconst (v := 3) hx hb d_Memory_getInterval_71 (by decide) ?_
          refine jc_cv (w := (fun u => u)) hK hP hD hS hA (va_runU (As := [.int 3]) (rest := []) F (c_Row_drop l D T ad S (3 : Int32)  H.size ⟨i_vst, i_vc0, i_vc1, i_vc2, i_vc3, i_vv0, i_vv1, i_vv2, i_vv3, i_vg, i_wct, i_wln, i_sd0, i_sd1, i_sd2, i_sd3, i_rln, i_rtx, i_rpl, i_rtk, i_cnv, i_pts, i_cik, i_und⟩) (j_cU (k := 1) (C := "PageScribe$Stack") (owner := "PageScribe$Row") (x := ⟨"PageScribe$Stack", "drop", "(I)V"⟩) hts k_4_47 k_4_231 k_4_43 k_4_45 k_4_46 k_1_2 rfl (by decide +kernel) ⟨Nat.le_of_ble_eq_true rfl, Nat.le_of_ble_eq_true rfl⟩) (j_preV (q0 := 1) (ci := 0) hK hP hD csc csc_all csc_nd cl_0 (ce_1 _ _ _) (fun _ _ _ _ h => h) (fun _ _ _ => trivial)) rfl rfl hl.1 rfl (lv_room (Nat.le_of_ble_eq_true rfl)) d_Memory_getInterval_72 ⟨Nat.le_of_ble_eq_true rfl, Nat.le_of_ble_eq_true rfl⟩) (fun S1 H locs hw7 hP hD hS => ?_)
          have hP : va_P D classes (cW T ad S1) H := hP
          have hD : va_D A (cW T ad S1) := hD
          obtain ⟨⟨i_vst, i_vc0, i_vc1, i_vc2, i_vc3, i_vv0, i_vv1, i_vv2, i_vv3, i_vg, i_wct, i_wln, i_sd0, i_sd1, i_sd2, i_sd3, i_rln, i_rtx, i_rpl, i_rtk, i_cnv, i_pts, i_cik, i_und⟩, kpcL_S1, kpcP_S1, kpcU_S1, kpcW_S1⟩ := hw7
          have kScL_S1 : kcL S S1 := kcL_t (show kcL S S from (kcL_r S)) kpcL_S1
          have kScP_S1 : kcP S S1 := kcP_t (show kcP S S from (kcP_r S)) kpcP_S1
          have kScU_S1 : kcU S S1 := kcU_t (show kcU S S from (kcU_r S)) kpcU_S1
          have kScW_S1 : kcW S S1 := kcW_t (show kcW S S from (kcW_r S)) kpcW_S1
          have nxr_length_S1 : (f_xr_length S1).toInt = (f_xr_length S).toInt := congrArg Int32.toInt kpcL_S1
          have nxr_length_S1 : (f_xr_length S1).toInt = (f_xr_length S).toInt := congrArg Int32.toInt kpcP_S1.1
          have nxr_place_S1 : (f_xr_place S1).toInt = (f_xr_place S).toInt := congrArg Int32.toInt kpcP_S1.2.1
          have nxe_underWay_S1 : (f_xe_underWay S1).toInt = (f_xe_underWay S).toInt := congrArg Int32.toInt kpcU_S1
          have nxp_columns_S1 : (f_xp_columns S1).toInt = (f_xp_columns S).toInt := congrArg Int32.toInt kpcW_S1.1
          have nxp_rows_S1 : (f_xp_rows S1).toInt = (f_xp_rows S).toInt := congrArg Int32.toInt kpcW_S1.2
          refine lv_aload_n hx hb d_Memory_getInterval_75 rfl (lv_at hl 4 rfl) ?_
          refine va_get (D := D) (ci := 2) (v := .ref (ad 1)) (C := "PageScribe$Memory") (T := F_Memory) (N := 8) hx hb hts i_Memory hown hK hP 8 (ce_8 _ _ _) cl_2 0 (by decide) (hts _ k_1_129) (fun _ h9 => h9) rfl d_Memory_getInterval_76 ?_
          refine lv_iload_n hx hb d_Memory_getInterval_79 rfl (lv_at hl 3 rfl) ?_
          refine lv_iload_n hx hb d_Memory_getInterval_80 rfl (lv_at hl 2 rfl) ?_
          refine j_ci (wc := []) (wr := (cW T ad S1)) hK hP hD hS hA [] csc rfl csc_all csc_nd (fun _ _ => List.not_mem_nil) (va_runSN (As := [.int rv2]) (rest := [.int rv1, .ref (ad 1)]) F (c_Ps_firstOf l D T rv2  H.size) (j_cSN (k := 1) hts k_5_23 k_1_1 (hE.2.2.2 (Cond.methodLinkNest "PageScribe$Memory" 133 ⟨"PageScribe", "firstOf", "(I)I"⟩ "PageScribe") (List.mem_of_getElem? (i := 8) rfl)) k_5_22 (by decide +kernel) ⟨Nat.le_of_ble_eq_true rfl, Nat.le_of_ble_eq_true rfl⟩) (j_preS hK hP hD [] rfl (by decide) (fun _ _ _ _ h => h) (fun _ _ _ => trivial)) rfl rfl hl.1 rfl (lv_room (Nat.le_of_ble_eq_true rfl)) d_Memory_getInterval_81 ⟨Nat.le_of_ble_eq_true rfl, Nat.le_of_ble_eq_true rfl⟩) (fun rv8 u7 H locs hw8 hP hD hS => ?_)
          have hP : va_P D classes (cW T ad S1) H := hP
          have hD : va_D A (cW T ad S1) := hD
          have rrv8 := zt_rng rv8
          refine lv_iload_n hx hb d_Memory_getInterval_84 rfl (lv_at hl 1 rfl) ?_
          refine lv_iadd hx hb d_Memory_getInterval_85 ?_
          refine lv_topi (fun x2 ex2 => ?_)
          have rx2 := zt_rng x2
          refine lv_iload hx hb d_Memory_getInterval_86 (lv_at hl 0 rfl) ?_
          refine j_ci (wc := []) (wr := (cW T ad S1)) hK hP hD hS hA [] csc rfl csc_all csc_nd (fun _ _ => List.not_mem_nil) (va_runSN (As := [.int x2, .int rv4]) (rest := [.int rv1, .ref (ad 1)]) F (c_Ps_arrayOf l D T x2 rv4  H.size) (j_cSN (k := 2) hts k_3_108 k_1_1 (hE.2.2.2 (Cond.methodLinkNest "PageScribe$Memory" 120 ⟨"PageScribe", "arrayOf", "(II)I"⟩ "PageScribe") (List.mem_of_getElem? (i := 6) rfl)) k_3_107 (by decide +kernel) ⟨Nat.le_of_ble_eq_true rfl, Nat.le_of_ble_eq_true rfl⟩) (j_preS hK hP hD [] rfl (by decide) (fun _ _ _ _ h => h) (fun _ _ _ => trivial)) rfl rfl hl.1 rfl (lv_room (Nat.le_of_ble_eq_true rfl)) d_Memory_getInterval_88 ⟨Nat.le_of_ble_eq_true rfl, Nat.le_of_ble_eq_true rfl⟩) (fun rv9 u8 H locs hw9 hP hD hS => ?_)
          have hP : va_P D classes (cW T ad S1) H := hP
          have hD : va_D A (cW T ad S1) := hD
          have rrv9 := zt_rng rv9
          refine lv_dconst0 hx hb d_Memory_getInterval_91 ?_
          have := tD_0
          refine jc_ci (w := (fun u => u)) hK hP hD hS hA (va_runU (As := [.int rv1, .int rv9, .double 0]) (rest := []) F (c_Row_push l D T ad S1 rv1 rv9 0  H.size ⟨i_vst, i_vc0, i_vc1, i_vc2, i_vc3, i_vv0, i_vv1, i_vv2, i_vv3, i_vg, i_wct, i_wln, i_sd0, i_sd1, i_sd2, i_sd3, i_rln, i_rtx, i_rpl, i_rtk, i_cnv, i_pts, i_cik, i_und⟩ (show dB 0 by omega)) (j_cU (k := 3) (C := "PageScribe$Stack") (owner := "PageScribe$Row") (x := ⟨"PageScribe$Stack", "push", "(IID)I"⟩) hts k_2_104 k_4_232 k_2_100 k_2_102 k_2_103 k_1_2 rfl (by decide +kernel) ⟨Nat.le_of_ble_eq_true rfl, Nat.le_of_ble_eq_true rfl⟩) (j_preV (q0 := 1) (ci := 0) hK hP hD csc csc_all csc_nd cl_0 (ce_1 _ _ _) (fun _ _ _ _ h => h) (fun _ _ _ => trivial)) rfl rfl hl.1 rfl (lv_room (Nat.le_of_ble_eq_true rfl)) d_Memory_getInterval_92 ⟨Nat.le_of_ble_eq_true rfl, Nat.le_of_ble_eq_true rfl⟩) (fun rv10 S2 H locs hw10 hP hD hS => ?_)
          have hP : va_P D classes (cW T ad S2) H := hP
          have hD : va_D A (cW T ad S2) := hD
          obtain ⟨⟨i_vst, i_vc0, i_vc1, i_vc2, i_vc3, i_vv0, i_vv1, i_vv2, i_vv3, i_vg, i_wct, i_wln, i_sd0, i_sd1, i_sd2, i_sd3, i_rln, i_rtx, i_rpl, i_rtk, i_cnv, i_pts, i_cik, i_und⟩, kpcL_S2, kpcP_S2, kpcU_S2, kpcW_S2⟩ := hw10
          have kScL_S2 : kcL S S2 := kcL_t (show kcL S S1 from kScL_S1) kpcL_S2
          have kScP_S2 : kcP S S2 := kcP_t (show kcP S S1 from kScP_S1) kpcP_S2
          have kScU_S2 : kcU S S2 := kcU_t (show kcU S S1 from kScU_S1) kpcU_S2
          have kScW_S2 : kcW S S2 := kcW_t (show kcW S S1 from kScW_S1) kpcW_S2
          have nxr_length_S2 : (f_xr_length S2).toInt = (f_xr_length S1).toInt := congrArg Int32.toInt kpcL_S2
          have nxr_length_S2 : (f_xr_length S2).toInt = (f_xr_length S1).toInt := congrArg Int32.toInt kpcP_S2.1
          have nxr_place_S2 : (f_xr_place S2).toInt = (f_xr_place S1).toInt := congrArg Int32.toInt kpcP_S2.2.1
          have nxe_underWay_S2 : (f_xe_underWay S2).toInt = (f_xe_underWay S1).toInt := congrArg Int32.toInt kpcU_S2
          have nxp_columns_S2 : (f_xp_columns S2).toInt = (f_xp_columns S1).toInt := congrArg Int32.toInt kpcW_S2.1
          have nxp_rows_S2 : (f_xp_rows S2).toInt = (f_xp_rows S1).toInt := congrArg Int32.toInt kpcW_S2.2
          have rrv10 := zt_rng rv10
          exact j_iret F hr hlocks hK hS S2 ⟨⟨i_vst, i_vc0, i_vc1, i_vc2, i_vc3, i_vv0, i_vv1, i_vv2, i_vv3, i_vg, i_wct, i_wln, i_sd0, i_sd1, i_sd2, i_sd3, i_rln, i_rtx, i_rpl, i_rtk, i_cnv, i_pts, i_cik, i_und⟩, kScL_S2, kScP_S2, kScU_S2, kScW_S2⟩ hP hD d_Memory_getInterval_95
        · have fc62_1 : x1.toInt < rv4.toInt := Int.not_le.mp (zt_nle (show rv4.toInt = _ from rfl) (show x1.toInt = _ from rfl) c62_1)
          refine lv_iconst (v := 4) hx hb d_Memory_getInterval_65 (by decide) ?_
          exact j_iret F hr hlocks hK hS S ⟨⟨i_vst, i_vc0, i_vc1, i_vc2, i_vc3, i_vv0, i_vv1, i_vv2, i_vv3, i_vg, i_wct, i_wln, i_sd0, i_sd1, i_sd2, i_sd3, i_rln, i_rtx, i_rpl, i_rtk, i_cnv, i_pts, i_cik, i_und⟩, (kcL_r S), (kcP_r S), (kcU_r S), (kcW_r S)⟩ hP hD d_Memory_getInterval_66
theorem d_Memory_unpack_0 : decode prog_5_method_11_code 0 = .ok (.aload_n 0, 1) := by decide +kernel
theorem d_Memory_unpack_1 : decode prog_5_method_11_code 1 = .ok (.getfield 39, 3) := by decide +kernel
theorem d_Memory_unpack_4 : decode prog_5_method_11_code 4 = .ok (.iconst 0, 1) := by decide +kernel
theorem d_Memory_unpack_5 : decode prog_5_method_11_code 5 = .ok (.invokevirtual 63, 3) := by decide +kernel
theorem d_Memory_unpack_8 : decode prog_5_method_11_code 8 = .ok (.istore_n 1, 1) := by decide +kernel
theorem d_Memory_unpack_9 : decode prog_5_method_11_code 9 = .ok (.aload_n 0, 1) := by decide +kernel
theorem d_Memory_unpack_10 : decode prog_5_method_11_code 10 = .ok (.getfield 39, 3) := by decide +kernel
theorem d_Memory_unpack_13 : decode prog_5_method_11_code 13 = .ok (.iconst 0, 1) := by decide +kernel
theorem d_Memory_unpack_14 : decode prog_5_method_11_code 14 = .ok (.invokevirtual 105, 3) := by decide +kernel
theorem d_Memory_unpack_17 : decode prog_5_method_11_code 17 = .ok (.istore_n 2, 1) := by decide +kernel
theorem d_Memory_unpack_18 : decode prog_5_method_11_code 18 = .ok (.iload_n 2, 1) := by decide +kernel
theorem d_Memory_unpack_19 : decode prog_5_method_11_code 19 = .ok (.invokestatic 127, 3) := by decide +kernel
theorem d_Memory_unpack_22 : decode prog_5_method_11_code 22 = .ok (.istore_n 3, 1) := by decide +kernel
theorem d_Memory_unpack_23 : decode prog_5_method_11_code 23 = .ok (.aload_n 0, 1) := by decide +kernel
theorem d_Memory_unpack_24 : decode prog_5_method_11_code 24 = .ok (.getfield 39, 3) := by decide +kernel
theorem d_Memory_unpack_27 : decode prog_5_method_11_code 27 = .ok (.getfield 90, 3) := by decide +kernel
theorem d_Memory_unpack_30 : decode prog_5_method_11_code 30 = .ok (.iload_n 3, 1) := by decide +kernel
theorem d_Memory_unpack_31 : decode prog_5_method_11_code 31 = .ok (.iadd, 1) := by decide +kernel
theorem d_Memory_unpack_32 : decode prog_5_method_11_code 32 = .ok (.bipush 40, 2) := by decide +kernel
theorem d_Memory_unpack_34 : decode prog_5_method_11_code 34 = .ok (.if_icmp .le 5, 3) := by decide +kernel
theorem d_Memory_unpack_39 : decode prog_5_method_11_code 39 = .ok (.aload_n 0, 1) := by decide +kernel
theorem d_Memory_unpack_40 : decode prog_5_method_11_code 40 = .ok (.getfield 39, 3) := by decide +kernel
theorem d_Memory_unpack_43 : decode prog_5_method_11_code 43 = .ok (.iconst 1, 1) := by decide +kernel
theorem d_Memory_unpack_44 : decode prog_5_method_11_code 44 = .ok (.invokevirtual 97, 3) := by decide +kernel
theorem d_Memory_unpack_47 : decode prog_5_method_11_code 47 = .ok (.iconst 0, 1) := by decide +kernel
theorem d_Memory_unpack_48 : decode prog_5_method_11_code 48 = .ok (.istore 4, 2) := by decide +kernel
theorem d_Memory_unpack_50 : decode prog_5_method_11_code 50 = .ok (.iload 4, 2) := by decide +kernel
theorem d_Memory_unpack_52 : decode prog_5_method_11_code 52 = .ok (.iload_n 3, 1) := by decide +kernel
theorem d_Memory_unpack_53 : decode prog_5_method_11_code 53 = .ok (.if_icmp .ge 31, 3) := by decide +kernel
theorem d_Memory_unpack_84 : decode prog_5_method_11_code 84 = .ok (.aload_n 0, 1) := by decide +kernel
theorem d_Memory_unpack_85 : decode prog_5_method_11_code 85 = .ok (.getfield 39, 3) := by decide +kernel
theorem d_Memory_unpack_88 : decode prog_5_method_11_code 88 = .ok (.iload_n 1, 1) := by decide +kernel
theorem d_Memory_unpack_89 : decode prog_5_method_11_code 89 = .ok (.iload_n 2, 1) := by decide +kernel
theorem d_Memory_unpack_90 : decode prog_5_method_11_code 90 = .ok (.dconst 0, 1) := by decide +kernel
theorem d_Memory_unpack_91 : decode prog_5_method_11_code 91 = .ok (.invokevirtual 101, 3) := by decide +kernel
theorem d_Memory_unpack_94 : decode prog_5_method_11_code 94 = .ok (.ireturn, 1) := by decide +kernel
theorem d_Memory_unpack_56 : decode prog_5_method_11_code 56 = .ok (.aload_n 0, 1) := by decide +kernel
theorem d_Memory_unpack_57 : decode prog_5_method_11_code 57 = .ok (.getfield 39, 3) := by decide +kernel
theorem d_Memory_unpack_60 : decode prog_5_method_11_code 60 = .ok (.aload_n 0, 1) := by decide +kernel
theorem d_Memory_unpack_61 : decode prog_5_method_11_code 61 = .ok (.getfield 12, 3) := by decide +kernel
theorem d_Memory_unpack_64 : decode prog_5_method_11_code 64 = .ok (.getfield 112, 3) := by decide +kernel
theorem d_Memory_unpack_67 : decode prog_5_method_11_code 67 = .ok (.iload_n 2, 1) := by decide +kernel
theorem d_Memory_unpack_68 : decode prog_5_method_11_code 68 = .ok (.invokestatic 133, 3) := by decide +kernel
theorem d_Memory_unpack_71 : decode prog_5_method_11_code 71 = .ok (.iload 4, 2) := by decide +kernel
theorem d_Memory_unpack_73 : decode prog_5_method_11_code 73 = .ok (.iadd, 1) := by decide +kernel
theorem d_Memory_unpack_74 : decode prog_5_method_11_code 74 = .ok (.invokevirtual 136, 3) := by decide +kernel
theorem d_Memory_unpack_77 : decode prog_5_method_11_code 77 = .ok (.pop, 1) := by decide +kernel
theorem d_Memory_unpack_78 : decode prog_5_method_11_code 78 = .ok (.iinc 4 1, 3) := by decide +kernel
theorem d_Memory_unpack_81 : decode prog_5_method_11_code 81 = .ok (.goto (-31), 3) := by decide +kernel
theorem d_Memory_unpack_37 : decode prog_5_method_11_code 37 = .ok (.iconst 2, 1) := by decide +kernel
theorem d_Memory_unpack_38 : decode prog_5_method_11_code 38 = .ok (.ireturn, 1) := by decide +kernel
set_option maxHeartbeats 4000000 in
set_option maxRecDepth 100000 in
theorem c_Memory_unpack (l : Launch) (D : va_G) (T : Nat → ClassId) (ad : Nat → Nat) (g : GE) (Bq : Nat → Prop) (S : CS)  (sz : Nat)  (hI : CIv S) : Met l ⟨"PageScribe$Memory", "unpack", "()I"⟩ (wy ⟨"PageScribe$Memory", "unpack", "()I"⟩ prog_5_method_11_code 5 (some .int)) ({ frames := 2, cells := 0, slots := 0, locals := 140 }) (va_Pc [.ref (ad 8)] (Pw D T (cW T ad S) sz (EC g Bq ad))) (va_Qi (fun (r : Int32) (u : CS) => CIv u ∧ kcL S u ∧ kcP S u ∧ kcU S u ∧ kcW S u) (fun u t => Bw D T (va_A (cW T ad S) sz) (cW T ad u) t) (va_A (cW T ad S) sz)) 0 0 (va_A (cW T ad S) sz) := by
  refine j_met (y := ⟨"PageScribe$Memory", "unpack", "()I"⟩) (b := prog_5_method_11_code) (n := 5) (ret := (some .int)) (av := [.ref (ad 8)]) (Qc := fun A => va_Qi (fun (r : Int32) (u : CS) => CIv u ∧ kcL S u ∧ kcP S u ∧ kcU S u ∧ kcW S u) (fun u t => Bw D T A (cW T ad u) t) A) (by decide +kernel) (Nat.le_of_ble_eq_true rfl) (fun p e s m args below meth c A ls F hr hlocks hnm hK hP hD hS hA hN hE hl => ?_)
  obtain ⟨hx, hb, hml, hown, hts⟩ := id F
  have hl : lv_has ls 5 [(0, .ref (ad 8))] := hl
  obtain ⟨i_vst, i_vc0, i_vc1, i_vc2, i_vc3, i_vv0, i_vv1, i_vv2, i_vv3, i_vg, i_wct, i_wln, i_sd0, i_sd1, i_sd2, i_sd3, i_rln, i_rtx, i_rpl, i_rtk, i_cnv, i_pts, i_cik, i_und⟩ := id hI
  have hAB : ∀ q, A q → Bq q := EC.ab hE hN
  have hEV := hE.1.narrow hAB
  refine lv_aload_n hx hb d_Memory_unpack_0 rfl (lv_at hl 0 rfl) ?_
  refine va_get (D := D) (ci := 2) (v := .ref (ad 1)) (C := "PageScribe$Memory") (T := F_Memory) (N := 8) hx hb hts i_Memory hown hK hP 8 (ce_8 _ _ _) cl_2 0 (by decide) (hts _ k_1_129) (fun _ h9 => h9) rfl d_Memory_unpack_1 ?_
  refine lv_iconst (v := 0) hx hb d_Memory_unpack_4 (by decide) ?_
  refine jc_ci (w := (fun _ => S)) hK hP hD hS hA (va_runV (As := [.int 0]) (rest := []) F (c_Stack_kindDown l D T ad S (0 : Int32)  s.heap.size) (j_cV (k := 1) (C := "PageScribe$Stack") hts k_2_120 k_1_3 k_5_5 k_2_118 k_2_119 (by decide +kernel) ⟨Nat.le_of_ble_eq_true rfl, Nat.le_of_ble_eq_true rfl⟩) (j_preV (q0 := 1) (ci := 0) hK hP hD csc csc_all csc_nd cl_0 (ce_1 _ _ _) (fun _ _ _ _ h => h) (fun _ _ _ => trivial)) rfl rfl hl.1 rfl (lv_room (Nat.le_of_ble_eq_true rfl)) d_Memory_unpack_5 ⟨Nat.le_of_ble_eq_true rfl, Nat.le_of_ble_eq_true rfl⟩) (fun rv1 u1 H locs hw1 hP hD hS => ?_)
  have hP : va_P D classes (cW T ad S) H := hP
  have hD : va_D A (cW T ad S) := hD
  have rrv1 := zt_rng rv1
  refine lv_istore_n (lv' := [(1, .int rv1), (0, .ref (ad 8))]) hx hb d_Memory_unpack_8 rfl hl (by decide) rfl (fun ls hl => ?_)
  refine lv_aload_n hx hb d_Memory_unpack_9 rfl (lv_at hl 1 rfl) ?_
  refine va_get (D := D) (ci := 2) (v := .ref (ad 1)) (C := "PageScribe$Memory") (T := F_Memory) (N := 8) hx hb hts i_Memory hown hK hP 8 (ce_8 _ _ _) cl_2 0 (by decide) (hts _ k_1_129) (fun _ h9 => h9) rfl d_Memory_unpack_10 ?_
  refine lv_iconst (v := 0) hx hb d_Memory_unpack_13 (by decide) ?_
  refine jc_ci (w := (fun _ => S)) hK hP hD hS hA (va_runV (As := [.int 0]) (rest := []) F (c_Stack_numberDown l D T ad S (0 : Int32)  H.size) (j_cV (k := 1) (C := "PageScribe$Stack") hts k_2_130 k_1_3 k_4_237 k_2_128 k_2_129 (by decide +kernel) ⟨Nat.le_of_ble_eq_true rfl, Nat.le_of_ble_eq_true rfl⟩) (j_preV (q0 := 1) (ci := 0) hK hP hD csc csc_all csc_nd cl_0 (ce_1 _ _ _) (fun _ _ _ _ h => h) (fun _ _ _ => trivial)) rfl rfl hl.1 rfl (lv_room (Nat.le_of_ble_eq_true rfl)) d_Memory_unpack_14 ⟨Nat.le_of_ble_eq_true rfl, Nat.le_of_ble_eq_true rfl⟩) (fun rv2 u2 H locs hw2 hP hD hS => ?_)
  have hP : va_P D classes (cW T ad S) H := hP
  have hD : va_D A (cW T ad S) := hD
  have rrv2 := zt_rng rv2
  refine lv_istore_n (lv' := [(2, .int rv2), (1, .int rv1), (0, .ref (ad 8))]) hx hb d_Memory_unpack_17 rfl hl (by decide) rfl (fun ls hl => ?_)
  refine lv_iload_n hx hb d_Memory_unpack_18 rfl (lv_at hl 0 rfl) ?_
  refine j_ci (wc := []) (wr := (cW T ad S)) hK hP hD hS hA [] csc rfl csc_all csc_nd (fun _ _ => List.not_mem_nil) (va_runSN (As := [.int rv2]) (rest := []) F (c_Ps_lengthOf l D T rv2  H.size) (j_cSN (k := 1) hts k_4_189 k_1_1 (hE.2.2.2 (Cond.methodLinkNest "PageScribe$Memory" 127 ⟨"PageScribe", "lengthOf", "(I)I"⟩ "PageScribe") (List.mem_of_getElem? (i := 7) rfl)) k_4_188 (by decide +kernel) ⟨Nat.le_of_ble_eq_true rfl, Nat.le_of_ble_eq_true rfl⟩) (j_preS hK hP hD [] rfl (by decide) (fun _ _ _ _ h => h) (fun _ _ _ => trivial)) rfl rfl hl.1 rfl (lv_room (Nat.le_of_ble_eq_true rfl)) d_Memory_unpack_19 ⟨Nat.le_of_ble_eq_true rfl, Nat.le_of_ble_eq_true rfl⟩) (fun rv3 u3 H locs hw3 hP hD hS => ?_)
  have hP : va_P D classes (cW T ad S) H := hP
  have hD : va_D A (cW T ad S) := hD
  have rrv3 := zt_rng rv3
  refine lv_istore_n (lv' := [(3, .int rv3), (2, .int rv2), (1, .int rv1), (0, .ref (ad 8))]) hx hb d_Memory_unpack_22 rfl hl (by decide) rfl (fun ls hl => ?_)
  refine lv_aload_n hx hb d_Memory_unpack_23 rfl (lv_at hl 3 rfl) ?_
  refine va_get (D := D) (ci := 2) (v := .ref (ad 1)) (C := "PageScribe$Memory") (T := F_Memory) (N := 8) hx hb hts i_Memory hown hK hP 8 (ce_8 _ _ _) cl_2 0 (by decide) (hts _ k_1_129) (fun _ h9 => h9) rfl d_Memory_unpack_24 ?_
  refine va_get (D := D) (ci := 0) (v := .int (f_xst_z S)) (C := "PageScribe$Stack") (T := F_Stack) (N := 4) hx hb hts i_Stack hown hK hP 1 (ce_1 _ _ _) cl_0 3 (by decide) (hts _ k_1_53) (fun x9 h9 => u_same (hts _ k_1_51) x9 h9) rfl d_Memory_unpack_27 ?_
  refine lv_iload_n hx hb d_Memory_unpack_30 rfl (lv_at hl 0 rfl) ?_
  refine lv_iadd hx hb d_Memory_unpack_31 ?_
  refine lv_topi (fun x1 ex1 => ?_)
  have rx1 := zt_rng x1
  refine lv_bipush (v := 40) hx hb d_Memory_unpack_32 (by decide) ?_
  refine lv_icmp_le (tgt := 39) hx hb d_Memory_unpack_34 (by decide) (fun c34_1 => ?_) (fun c34_1 => ?_)
  · have fc34_1 : x1.toInt ≤ 40 := zt_le (show x1.toInt = _ from rfl) tI_40 c34_1
    refine lv_aload_n hx hb d_Memory_unpack_39 rfl (lv_at hl 3 rfl) ?_
    refine va_get (D := D) (ci := 2) (v := .ref (ad 1)) (C := "PageScribe$Memory") (T := F_Memory) (N := 8) hx hb hts i_Memory hown hK hP 8 (ce_8 _ _ _) cl_2 0 (by decide) (hts _ k_1_129) (fun _ h9 => h9) rfl d_Memory_unpack_40 ?_
    refine lv_iconst (v := 1) hx hb d_Memory_unpack_43 (by decide) ?_
    refine jc_cv (w := (fun u => u)) hK hP hD hS hA (va_runU (As := [.int 1]) (rest := []) F (c_Row_drop l D T ad S (1 : Int32)  H.size ⟨i_vst, i_vc0, i_vc1, i_vc2, i_vc3, i_vv0, i_vv1, i_vv2, i_vv3, i_vg, i_wct, i_wln, i_sd0, i_sd1, i_sd2, i_sd3, i_rln, i_rtx, i_rpl, i_rtk, i_cnv, i_pts, i_cik, i_und⟩) (j_cU (k := 1) (C := "PageScribe$Stack") (owner := "PageScribe$Row") (x := ⟨"PageScribe$Stack", "drop", "(I)V"⟩) hts k_4_47 k_4_231 k_4_43 k_4_45 k_4_46 k_1_2 rfl (by decide +kernel) ⟨Nat.le_of_ble_eq_true rfl, Nat.le_of_ble_eq_true rfl⟩) (j_preV (q0 := 1) (ci := 0) hK hP hD csc csc_all csc_nd cl_0 (ce_1 _ _ _) (fun _ _ _ _ h => h) (fun _ _ _ => trivial)) rfl rfl hl.1 rfl (lv_room (Nat.le_of_ble_eq_true rfl)) d_Memory_unpack_44 ⟨Nat.le_of_ble_eq_true rfl, Nat.le_of_ble_eq_true rfl⟩) (fun S1 H locs hw4 hP hD hS => ?_)
    have hP : va_P D classes (cW T ad S1) H := hP
    have hD : va_D A (cW T ad S1) := hD
    obtain ⟨⟨i_vst, i_vc0, i_vc1, i_vc2, i_vc3, i_vv0, i_vv1, i_vv2, i_vv3, i_vg, i_wct, i_wln, i_sd0, i_sd1, i_sd2, i_sd3, i_rln, i_rtx, i_rpl, i_rtk, i_cnv, i_pts, i_cik, i_und⟩, kpcL_S1, kpcP_S1, kpcU_S1, kpcW_S1⟩ := hw4
    have kScL_S1 : kcL S S1 := kcL_t (show kcL S S from (kcL_r S)) kpcL_S1
    have kScP_S1 : kcP S S1 := kcP_t (show kcP S S from (kcP_r S)) kpcP_S1
    have kScU_S1 : kcU S S1 := kcU_t (show kcU S S from (kcU_r S)) kpcU_S1
    have kScW_S1 : kcW S S1 := kcW_t (show kcW S S from (kcW_r S)) kpcW_S1
    have nxr_length_S1 : (f_xr_length S1).toInt = (f_xr_length S).toInt := congrArg Int32.toInt kpcL_S1
    have nxr_length_S1 : (f_xr_length S1).toInt = (f_xr_length S).toInt := congrArg Int32.toInt kpcP_S1.1
    have nxr_place_S1 : (f_xr_place S1).toInt = (f_xr_place S).toInt := congrArg Int32.toInt kpcP_S1.2.1
    have nxe_underWay_S1 : (f_xe_underWay S1).toInt = (f_xe_underWay S).toInt := congrArg Int32.toInt kpcU_S1
    have nxp_columns_S1 : (f_xp_columns S1).toInt = (f_xp_columns S).toInt := congrArg Int32.toInt kpcW_S1.1
    have nxp_rows_S1 : (f_xp_rows S1).toInt = (f_xp_rows S).toInt := congrArg Int32.toInt kpcW_S1.2
    refine lv_iconst (v := 0) hx hb d_Memory_unpack_47 (by decide) ?_
    refine lv_istore (lv' := [(4, .int 0), (3, .int rv3), (2, .int rv2), (1, .int rv1), (0, .ref (ad 8))]) hx hb d_Memory_unpack_48 hl (by decide) rfl (fun ls hl => ?_)
    refine j_loop (α := CS × Int32) (fun k x H locs ls => (0 ≤ x.2.toInt ∧ rv3.toInt ≤ x.2.toInt + ((k : Nat) : Int)) ∧ CIv x.1 ∧ kcL S x.1 ∧ kcP S x.1 ∧ kcU S x.1 ∧ kcW S x.1 ∧ va_P D classes (cW T ad x.1) H ∧ va_D A (cW T ad x.1) ∧ va_S A s.heap H locs ∧ lv_has ls 5 [(4, .int x.2), (3, .int rv3), (2, .int rv2), (1, .int rv1), (0, .ref (ad 8))]) (fun _ _ ls => F0 m 50 ls []) (fun k x H locs ls hI9 ih => ?_) (rv3.toInt).toNat (S1, (0 : Int32)) _ _ _ ⟨(show 0 ≤ (0 : Int32).toInt ∧ rv3.toInt ≤ (0 : Int32).toInt + (((rv3.toInt).toNat : Nat) : Int) by have := tI_0; omega), ⟨i_vst, i_vc0, i_vc1, i_vc2, i_vc3, i_vv0, i_vv1, i_vv2, i_vv3, i_vg, i_wct, i_wln, i_sd0, i_sd1, i_sd2, i_sd3, i_rln, i_rtx, i_rpl, i_rtk, i_cnv, i_pts, i_cik, i_und⟩, (show kcL S S1 from kScL_S1), (show kcP S S1 from kScP_S1), (show kcU S S1 from kScU_S1), (show kcW S S1 from kScW_S1), hP, hD, hS, lv_sub hl [0, 1, 2, 3, 4] rfl⟩
    obtain ⟨S2, i⟩ := x
    obtain ⟨hf1, hIx, klcL_S2, klcP_S2, klcU_S2, klcW_S2, hP, hD, hS, hl⟩ := hI9
    obtain ⟨i_vst, i_vc0, i_vc1, i_vc2, i_vc3, i_vv0, i_vv1, i_vv2, i_vv3, i_vg, i_wct, i_wln, i_sd0, i_sd1, i_sd2, i_sd3, i_rln, i_rtx, i_rpl, i_rtk, i_cnv, i_pts, i_cik, i_und⟩ := (show CIv S2 from hIx)
    have klcL_S2 : kcL S S2 := klcL_S2
    have klcP_S2 : kcP S S2 := klcP_S2
    have klcU_S2 : kcU S S2 := klcU_S2
    have klcW_S2 : kcW S S2 := klcW_S2
    have hf1 : 0 ≤ i.toInt ∧ rv3.toInt ≤ i.toInt + ((k : Nat) : Int) := hf1
    have hP : va_P D classes (cW T ad S2) H := hP
    have hD : va_D A (cW T ad S2) := hD
    have hl : lv_has ls 5 [(4, .int i), (3, .int rv3), (2, .int rv2), (1, .int rv1), (0, .ref (ad 8))] := hl
    refine lv_iload hx hb d_Memory_unpack_50 (lv_at hl 0 rfl) ?_
    refine lv_iload_n hx hb d_Memory_unpack_52 rfl (lv_at hl 1 rfl) ?_
    refine lv_icmp_ge (tgt := 84) hx hb d_Memory_unpack_53 (by decide) (fun c53_1 => ?_) (fun c53_1 => ?_)
    · have fc53_1 : rv3.toInt ≤ i.toInt := zt_le (show rv3.toInt = _ from rfl) (show i.toInt = _ from rfl) c53_1
      refine lv_aload_n hx hb d_Memory_unpack_84 rfl (lv_at hl 4 rfl) ?_
      refine va_get (D := D) (ci := 2) (v := .ref (ad 1)) (C := "PageScribe$Memory") (T := F_Memory) (N := 8) hx hb hts i_Memory hown hK hP 8 (ce_8 _ _ _) cl_2 0 (by decide) (hts _ k_1_129) (fun _ h9 => h9) rfl d_Memory_unpack_85 ?_
      refine lv_iload_n hx hb d_Memory_unpack_88 rfl (lv_at hl 3 rfl) ?_
      refine lv_iload_n hx hb d_Memory_unpack_89 rfl (lv_at hl 2 rfl) ?_
      refine lv_dconst0 hx hb d_Memory_unpack_90 ?_
      have := tD_0
      refine jc_ci (w := (fun u => u)) hK hP hD hS hA (va_runU (As := [.int rv1, .int rv2, .double 0]) (rest := []) F (c_Row_push l D T ad S2 rv1 rv2 0  H.size ⟨i_vst, i_vc0, i_vc1, i_vc2, i_vc3, i_vv0, i_vv1, i_vv2, i_vv3, i_vg, i_wct, i_wln, i_sd0, i_sd1, i_sd2, i_sd3, i_rln, i_rtx, i_rpl, i_rtk, i_cnv, i_pts, i_cik, i_und⟩ (show dB 0 by omega)) (j_cU (k := 3) (C := "PageScribe$Stack") (owner := "PageScribe$Row") (x := ⟨"PageScribe$Stack", "push", "(IID)I"⟩) hts k_2_104 k_4_232 k_2_100 k_2_102 k_2_103 k_1_2 rfl (by decide +kernel) ⟨Nat.le_of_ble_eq_true rfl, Nat.le_of_ble_eq_true rfl⟩) (j_preV (q0 := 1) (ci := 0) hK hP hD csc csc_all csc_nd cl_0 (ce_1 _ _ _) (fun _ _ _ _ h => h) (fun _ _ _ => trivial)) rfl rfl hl.1 rfl (lv_room (Nat.le_of_ble_eq_true rfl)) d_Memory_unpack_91 ⟨Nat.le_of_ble_eq_true rfl, Nat.le_of_ble_eq_true rfl⟩) (fun rv5 S3 H locs hw5 hP hD hS => ?_)
      have hP : va_P D classes (cW T ad S3) H := hP
      have hD : va_D A (cW T ad S3) := hD
      obtain ⟨⟨i_vst, i_vc0, i_vc1, i_vc2, i_vc3, i_vv0, i_vv1, i_vv2, i_vv3, i_vg, i_wct, i_wln, i_sd0, i_sd1, i_sd2, i_sd3, i_rln, i_rtx, i_rpl, i_rtk, i_cnv, i_pts, i_cik, i_und⟩, kpcL_S3, kpcP_S3, kpcU_S3, kpcW_S3⟩ := hw5
      have kScL_S3 : kcL S S3 := kcL_t (show kcL S S2 from klcL_S2) kpcL_S3
      have kScP_S3 : kcP S S3 := kcP_t (show kcP S S2 from klcP_S2) kpcP_S3
      have kScU_S3 : kcU S S3 := kcU_t (show kcU S S2 from klcU_S2) kpcU_S3
      have kScW_S3 : kcW S S3 := kcW_t (show kcW S S2 from klcW_S2) kpcW_S3
      have nxr_length_S3 : (f_xr_length S3).toInt = (f_xr_length S2).toInt := congrArg Int32.toInt kpcL_S3
      have nxr_length_S3 : (f_xr_length S3).toInt = (f_xr_length S2).toInt := congrArg Int32.toInt kpcP_S3.1
      have nxr_place_S3 : (f_xr_place S3).toInt = (f_xr_place S2).toInt := congrArg Int32.toInt kpcP_S3.2.1
      have nxe_underWay_S3 : (f_xe_underWay S3).toInt = (f_xe_underWay S2).toInt := congrArg Int32.toInt kpcU_S3
      have nxp_columns_S3 : (f_xp_columns S3).toInt = (f_xp_columns S2).toInt := congrArg Int32.toInt kpcW_S3.1
      have nxp_rows_S3 : (f_xp_rows S3).toInt = (f_xp_rows S2).toInt := congrArg Int32.toInt kpcW_S3.2
      have rrv5 := zt_rng rv5
      exact j_iret F hr hlocks hK hS S3 ⟨⟨i_vst, i_vc0, i_vc1, i_vc2, i_vc3, i_vv0, i_vv1, i_vv2, i_vv3, i_vg, i_wct, i_wln, i_sd0, i_sd1, i_sd2, i_sd3, i_rln, i_rtx, i_rpl, i_rtk, i_cnv, i_pts, i_cik, i_und⟩, kScL_S3, kScP_S3, kScU_S3, kScW_S3⟩ hP hD d_Memory_unpack_94
    · have fc53_1 : i.toInt < rv3.toInt := Int.not_le.mp (zt_nle (show rv3.toInt = _ from rfl) (show i.toInt = _ from rfl) c53_1)
      refine lv_aload_n hx hb d_Memory_unpack_56 rfl (lv_at hl 4 rfl) ?_
      refine va_get (D := D) (ci := 2) (v := .ref (ad 1)) (C := "PageScribe$Memory") (T := F_Memory) (N := 8) hx hb hts i_Memory hown hK hP 8 (ce_8 _ _ _) cl_2 0 (by decide) (hts _ k_1_129) (fun _ h9 => h9) rfl d_Memory_unpack_57 ?_
      refine lv_aload_n hx hb d_Memory_unpack_60 rfl (lv_at hl 4 rfl) ?_
      refine va_get (D := D) (ci := 2) (v := .ref (ad 12)) (C := "PageScribe$Memory") (T := F_Memory) (N := 8) hx hb hts i_Memory hown hK hP 8 (ce_8 _ _ _) cl_2 1 (by decide) (hts _ k_1_130) (fun _ h9 => h9) rfl d_Memory_unpack_61 ?_
      refine va_get (D := D) (ci := 3) (v := .ref (ad 13)) (C := "PageScribe$Store") (T := F_Store) (N := 5) hx hb hts i_Store hown hK hP 12 (ce_12 _ _ _) cl_3 0 (by decide) (hts _ k_1_108) (fun _ h9 => h9) rfl d_Memory_unpack_64 ?_
      refine lv_iload_n hx hb d_Memory_unpack_67 rfl (lv_at hl 2 rfl) ?_
      refine j_ci (wc := []) (wr := (cW T ad S2)) hK hP hD hS hA [] csc rfl csc_all csc_nd (fun _ _ => List.not_mem_nil) (va_runSN (As := [.int rv2]) (rest := [.ref (ad 13), .ref (ad 1)]) F (c_Ps_firstOf l D T rv2  H.size) (j_cSN (k := 1) hts k_5_23 k_1_1 (hE.2.2.2 (Cond.methodLinkNest "PageScribe$Memory" 133 ⟨"PageScribe", "firstOf", "(I)I"⟩ "PageScribe") (List.mem_of_getElem? (i := 8) rfl)) k_5_22 (by decide +kernel) ⟨Nat.le_of_ble_eq_true rfl, Nat.le_of_ble_eq_true rfl⟩) (j_preS hK hP hD [] rfl (by decide) (fun _ _ _ _ h => h) (fun _ _ _ => trivial)) rfl rfl hl.1 rfl (lv_room (Nat.le_of_ble_eq_true rfl)) d_Memory_unpack_68 ⟨Nat.le_of_ble_eq_true rfl, Nat.le_of_ble_eq_true rfl⟩) (fun rv6 u4 H locs hw6 hP hD hS => ?_)
      have hP : va_P D classes (cW T ad S2) H := hP
      have hD : va_D A (cW T ad S2) := hD
      have rrv6 := zt_rng rv6
      refine lv_iload hx hb d_Memory_unpack_71 (lv_at hl 0 rfl) ?_
      refine lv_iadd hx hb d_Memory_unpack_73 ?_
      refine lv_topi (fun x2 ex2 => ?_)
      have rx2 := zt_rng x2
      refine jc_ci (w := (fun u => u)) hK hP hD hS hA (va_runU (As := [.ref (ad 13), .int x2]) (rest := []) F (c_Row_pushFrom_1_13 l D T ad S2 x2  H.size ⟨i_vst, i_vc0, i_vc1, i_vc2, i_vc3, i_vv0, i_vv1, i_vv2, i_vv3, i_vg, i_wct, i_wln, i_sd0, i_sd1, i_sd2, i_sd3, i_rln, i_rtx, i_rpl, i_rtk, i_cnv, i_pts, i_cik, i_und⟩) (j_cU (k := 2) (C := "PageScribe$Stack") (owner := "PageScribe$Row") (x := ⟨"PageScribe$Stack", "pushFrom", "(LPageScribe$Row;I)I"⟩) hts k_3_96 k_5_16 k_4_64 k_4_66 k_3_92 k_1_2 rfl (by decide +kernel) ⟨Nat.le_of_ble_eq_true rfl, Nat.le_of_ble_eq_true rfl⟩) (j_preV (q0 := 1) (ci := 0) hK hP hD csc csc_all csc_nd cl_0 (ce_1 _ _ _) (fun _ _ _ _ h => h) (fun _ _ _ => trivial)) rfl rfl hl.1 rfl (lv_room (Nat.le_of_ble_eq_true rfl)) d_Memory_unpack_74 ⟨Nat.le_of_ble_eq_true rfl, Nat.le_of_ble_eq_true rfl⟩) (fun rv7 S4 H locs hw7 hP hD hS => ?_)
      have hP : va_P D classes (cW T ad S4) H := hP
      have hD : va_D A (cW T ad S4) := hD
      obtain ⟨⟨i_vst, i_vc0, i_vc1, i_vc2, i_vc3, i_vv0, i_vv1, i_vv2, i_vv3, i_vg, i_wct, i_wln, i_sd0, i_sd1, i_sd2, i_sd3, i_rln, i_rtx, i_rpl, i_rtk, i_cnv, i_pts, i_cik, i_und⟩, kpcL_S4, kpcP_S4, kpcU_S4, kpcW_S4⟩ := hw7
      have kScL_S4 : kcL S S4 := kcL_t (show kcL S S2 from klcL_S2) kpcL_S4
      have kScP_S4 : kcP S S4 := kcP_t (show kcP S S2 from klcP_S2) kpcP_S4
      have kScU_S4 : kcU S S4 := kcU_t (show kcU S S2 from klcU_S2) kpcU_S4
      have kScW_S4 : kcW S S4 := kcW_t (show kcW S S2 from klcW_S2) kpcW_S4
      have nxr_length_S4 : (f_xr_length S4).toInt = (f_xr_length S2).toInt := congrArg Int32.toInt kpcL_S4
      have nxr_length_S4 : (f_xr_length S4).toInt = (f_xr_length S2).toInt := congrArg Int32.toInt kpcP_S4.1
      have nxr_place_S4 : (f_xr_place S4).toInt = (f_xr_place S2).toInt := congrArg Int32.toInt kpcP_S4.2.1
      have nxe_underWay_S4 : (f_xe_underWay S4).toInt = (f_xe_underWay S2).toInt := congrArg Int32.toInt kpcU_S4
      have nxp_columns_S4 : (f_xp_columns S4).toInt = (f_xp_columns S2).toInt := congrArg Int32.toInt kpcW_S4.1
      have nxp_rows_S4 : (f_xp_rows S4).toInt = (f_xp_rows S2).toInt := congrArg Int32.toInt kpcW_S4.2
      have rrv7 := zt_rng rv7
      refine lv_pop hx hb d_Memory_unpack_77 rfl ?_
      refine lv_iinc (v := (i + 1)) (lv' := [(4, .int (i + 1)), (3, .int rv3), (2, .int rv2), (1, .int rv1), (0, .ref (ad 8))]) hx hb d_Memory_unpack_78 hl (k := 0) rfl (by first | rfl | decide) (by decide) rfl (fun ls hl => ?_)
      obtain ⟨x3, ex3⟩ : ∃ z, z = (i + 1) := ⟨_, rfl⟩
      rw [← ex3] at hl
      have fx3 : x3.toInt = (i.toInt + 1) := by rw [ex3]; exact (zt_add (show i.toInt = _ from rfl) tI_1 (by omega) (by omega)).trans (by omega)
      have hl : lv_has ls 5 [(4, .int x3), (3, .int rv3), (2, .int rv2), (1, .int rv1), (0, .ref (ad 8))] := hl
      refine lv_goto (tgt := 50) hx hb d_Memory_unpack_81 (by decide) ?_
      exact ih (k - 1) (S4, x3) _ _ _ (by omega) ⟨(show 0 ≤ x3.toInt ∧ rv3.toInt ≤ x3.toInt + (((k - 1) : Nat) : Int) by omega), ⟨i_vst, i_vc0, i_vc1, i_vc2, i_vc3, i_vv0, i_vv1, i_vv2, i_vv3, i_vg, i_wct, i_wln, i_sd0, i_sd1, i_sd2, i_sd3, i_rln, i_rtx, i_rpl, i_rtk, i_cnv, i_pts, i_cik, i_und⟩, (show kcL S S4 from kScL_S4), (show kcP S S4 from kScP_S4), (show kcU S S4 from kScU_S4), (show kcW S S4 from kScW_S4), hP, hD, hS, lv_sub hl [0, 1, 2, 3, 4] rfl⟩
  · have fc34_1 : 40 < x1.toInt := Int.not_le.mp (zt_nle (show x1.toInt = _ from rfl) tI_40 c34_1)
    refine lv_iconst (v := 2) hx hb d_Memory_unpack_37 (by decide) ?_
    exact j_iret F hr hlocks hK hS S ⟨⟨i_vst, i_vc0, i_vc1, i_vc2, i_vc3, i_vv0, i_vv1, i_vv2, i_vv3, i_vg, i_wct, i_wln, i_sd0, i_sd1, i_sd2, i_sd3, i_rln, i_rtx, i_rpl, i_rtk, i_cnv, i_pts, i_cik, i_und⟩, (kcL_r S), (kcP_r S), (kcU_r S), (kcW_r S)⟩ hP hD d_Memory_unpack_38
theorem d_Memory_actOnArrays_0 : decode prog_5_method_2_code 0 = .ok (.getstatic 43, 3) := by decide +kernel
theorem k_4_223 : Cond.fieldLink "PageScribe$Memory" 43 "PageScribe$1" "$SwitchMap$PageScribe$Op" "[I" ∈ gw := gw_of (tb_4 (List.mem_of_getElem? (i := 223) (by decide +kernel))) (by decide +kernel)
theorem d_Memory_actOnArrays_3 : decode prog_5_method_2_code 3 = .ok (.aload_n 1, 1) := by decide +kernel
theorem d_Memory_actOnArrays_4 : decode prog_5_method_2_code 4 = .ok (.invokevirtual 48, 3) := by decide +kernel
theorem k_4_224 : Cond.methodLink "PageScribe$Memory" 48 ⟨"PageScribe$Op", "ordinal", "()I"⟩ ∈ gw := gw_of (tb_4 (List.mem_of_getElem? (i := 224) (by decide +kernel))) (by decide +kernel)
theorem d_Memory_actOnArrays_7 : decode prog_5_method_2_code 7 = .ok (.iaload, 1) := by decide +kernel
theorem d_Memory_actOnArrays_8 : decode prog_5_method_2_code 8 = .ok (.tableswitch 110 33 38 #[40, 45, 50, 55, 80, 105], 40) := by decide +kernel
theorem d_Memory_actOnArrays_48 : decode prog_5_method_2_code 48 = .ok (.aload_n 0, 1) := by decide +kernel
theorem d_Memory_actOnArrays_49 : decode prog_5_method_2_code 49 = .ok (.invokevirtual 54, 3) := by decide +kernel
theorem k_4_228 : Cond.code ⟨"PageScribe$Memory", "gather", "()I"⟩ prog_5_method_3_code 3 (some .int) ∈ gw := gw_of (tb_4 (List.mem_of_getElem? (i := 228) (by decide +kernel))) (by decide +kernel)
theorem k_4_225 : Cond.methodLink "PageScribe$Memory" 54 ⟨"PageScribe$Memory", "gather", "()I"⟩ ∈ gw := gw_of (tb_4 (List.mem_of_getElem? (i := 225) (by decide +kernel))) (by decide +kernel)
theorem k_4_227 : Cond.instanceMethod ⟨"PageScribe$Memory", "gather", "()I"⟩ ∈ gw := gw_of (tb_4 (List.mem_of_getElem? (i := 227) (by decide +kernel))) (by decide +kernel)
theorem k_0_38 : Cond.selects "PageScribe$Memory" ⟨"PageScribe$Memory", "gather", "()I"⟩ ⟨"PageScribe$Memory", "gather", "()I"⟩ ∈ gw := gw_of (tb_0 (List.mem_of_getElem? (i := 38) (by decide +kernel))) (by decide +kernel)
theorem d_Memory_actOnArrays_52 : decode prog_5_method_2_code 52 = .ok (.ireturn, 1) := by decide +kernel
theorem d_Memory_actOnArrays_53 : decode prog_5_method_2_code 53 = .ok (.aload_n 0, 1) := by decide +kernel
theorem d_Memory_actOnArrays_54 : decode prog_5_method_2_code 54 = .ok (.invokevirtual 57, 3) := by decide +kernel
theorem k_4_236 : Cond.code ⟨"PageScribe$Memory", "makeArray", "()I"⟩ prog_5_method_4_code 4 (some .int) ∈ gw := gw_of (tb_4 (List.mem_of_getElem? (i := 236) (by decide +kernel))) (by decide +kernel)
theorem k_4_233 : Cond.methodLink "PageScribe$Memory" 57 ⟨"PageScribe$Memory", "makeArray", "()I"⟩ ∈ gw := gw_of (tb_4 (List.mem_of_getElem? (i := 233) (by decide +kernel))) (by decide +kernel)
theorem k_4_235 : Cond.instanceMethod ⟨"PageScribe$Memory", "makeArray", "()I"⟩ ∈ gw := gw_of (tb_4 (List.mem_of_getElem? (i := 235) (by decide +kernel))) (by decide +kernel)
theorem k_0_39 : Cond.selects "PageScribe$Memory" ⟨"PageScribe$Memory", "makeArray", "()I"⟩ ⟨"PageScribe$Memory", "makeArray", "()I"⟩ ∈ gw := gw_of (tb_0 (List.mem_of_getElem? (i := 39) (by decide +kernel))) (by decide +kernel)
theorem d_Memory_actOnArrays_57 : decode prog_5_method_2_code 57 = .ok (.ireturn, 1) := by decide +kernel
theorem d_Memory_actOnArrays_58 : decode prog_5_method_2_code 58 = .ok (.aload_n 0, 1) := by decide +kernel
theorem d_Memory_actOnArrays_59 : decode prog_5_method_2_code 59 = .ok (.invokevirtual 60, 3) := by decide +kernel
theorem k_5_4 : Cond.code ⟨"PageScribe$Memory", "tellLength", "()I"⟩ prog_5_method_5_code 2 (some .int) ∈ gw := gw_of (tb_5 (List.mem_of_getElem? (i := 4) (by decide +kernel))) (by decide +kernel)
theorem k_5_1 : Cond.methodLink "PageScribe$Memory" 60 ⟨"PageScribe$Memory", "tellLength", "()I"⟩ ∈ gw := gw_of (tb_5 (List.mem_of_getElem? (i := 1) (by decide +kernel))) (by decide +kernel)
theorem k_5_3 : Cond.instanceMethod ⟨"PageScribe$Memory", "tellLength", "()I"⟩ ∈ gw := gw_of (tb_5 (List.mem_of_getElem? (i := 3) (by decide +kernel))) (by decide +kernel)
theorem k_0_40 : Cond.selects "PageScribe$Memory" ⟨"PageScribe$Memory", "tellLength", "()I"⟩ ⟨"PageScribe$Memory", "tellLength", "()I"⟩ ∈ gw := gw_of (tb_0 (List.mem_of_getElem? (i := 40) (by decide +kernel))) (by decide +kernel)
theorem d_Memory_actOnArrays_62 : decode prog_5_method_2_code 62 = .ok (.ireturn, 1) := by decide +kernel
theorem d_Memory_actOnArrays_63 : decode prog_5_method_2_code 63 = .ok (.aload_n 0, 1) := by decide +kernel
theorem d_Memory_actOnArrays_64 : decode prog_5_method_2_code 64 = .ok (.getfield 39, 3) := by decide +kernel
theorem d_Memory_actOnArrays_67 : decode prog_5_method_2_code 67 = .ok (.iconst 1, 1) := by decide +kernel
theorem d_Memory_actOnArrays_68 : decode prog_5_method_2_code 68 = .ok (.invokevirtual 63, 3) := by decide +kernel
theorem d_Memory_actOnArrays_71 : decode prog_5_method_2_code 71 = .ok (.bipush 6, 2) := by decide +kernel
theorem d_Memory_actOnArrays_73 : decode prog_5_method_2_code 73 = .ok (.if_icmp .ne 10, 3) := by decide +kernel
theorem d_Memory_actOnArrays_83 : decode prog_5_method_2_code 83 = .ok (.aload_n 0, 1) := by decide +kernel
theorem d_Memory_actOnArrays_84 : decode prog_5_method_2_code 84 = .ok (.invokevirtual 72, 3) := by decide +kernel
theorem k_5_20 : Cond.code ⟨"PageScribe$Memory", "getCell", "()I"⟩ prog_5_method_6_code 3 (some .int) ∈ gw := gw_of (tb_5 (List.mem_of_getElem? (i := 20) (by decide +kernel))) (by decide +kernel)
theorem k_5_17 : Cond.methodLink "PageScribe$Memory" 72 ⟨"PageScribe$Memory", "getCell", "()I"⟩ ∈ gw := gw_of (tb_5 (List.mem_of_getElem? (i := 17) (by decide +kernel))) (by decide +kernel)
theorem k_5_19 : Cond.instanceMethod ⟨"PageScribe$Memory", "getCell", "()I"⟩ ∈ gw := gw_of (tb_5 (List.mem_of_getElem? (i := 19) (by decide +kernel))) (by decide +kernel)
theorem k_0_42 : Cond.selects "PageScribe$Memory" ⟨"PageScribe$Memory", "getCell", "()I"⟩ ⟨"PageScribe$Memory", "getCell", "()I"⟩ ∈ gw := gw_of (tb_0 (List.mem_of_getElem? (i := 42) (by decide +kernel))) (by decide +kernel)
theorem d_Memory_actOnArrays_87 : decode prog_5_method_2_code 87 = .ok (.ireturn, 1) := by decide +kernel
theorem d_Memory_actOnArrays_76 : decode prog_5_method_2_code 76 = .ok (.aload_n 0, 1) := by decide +kernel
theorem d_Memory_actOnArrays_77 : decode prog_5_method_2_code 77 = .ok (.invokevirtual 69, 3) := by decide +kernel
theorem k_5_15 : Cond.code ⟨"PageScribe$Memory", "getEntry", "()I"⟩ prog_5_method_7_code 2 (some .int) ∈ gw := gw_of (tb_5 (List.mem_of_getElem? (i := 15) (by decide +kernel))) (by decide +kernel)
theorem k_5_12 : Cond.methodLink "PageScribe$Memory" 69 ⟨"PageScribe$Memory", "getEntry", "()I"⟩ ∈ gw := gw_of (tb_5 (List.mem_of_getElem? (i := 12) (by decide +kernel))) (by decide +kernel)
theorem k_5_14 : Cond.instanceMethod ⟨"PageScribe$Memory", "getEntry", "()I"⟩ ∈ gw := gw_of (tb_5 (List.mem_of_getElem? (i := 14) (by decide +kernel))) (by decide +kernel)
theorem k_0_41 : Cond.selects "PageScribe$Memory" ⟨"PageScribe$Memory", "getEntry", "()I"⟩ ⟨"PageScribe$Memory", "getEntry", "()I"⟩ ∈ gw := gw_of (tb_0 (List.mem_of_getElem? (i := 41) (by decide +kernel))) (by decide +kernel)
theorem d_Memory_actOnArrays_80 : decode prog_5_method_2_code 80 = .ok (.goto 7, 3) := by decide +kernel
theorem d_Memory_actOnArrays_88 : decode prog_5_method_2_code 88 = .ok (.aload_n 0, 1) := by decide +kernel
theorem d_Memory_actOnArrays_89 : decode prog_5_method_2_code 89 = .ok (.getfield 39, 3) := by decide +kernel
theorem d_Memory_actOnArrays_92 : decode prog_5_method_2_code 92 = .ok (.iconst 2, 1) := by decide +kernel
theorem d_Memory_actOnArrays_93 : decode prog_5_method_2_code 93 = .ok (.invokevirtual 63, 3) := by decide +kernel
theorem d_Memory_actOnArrays_96 : decode prog_5_method_2_code 96 = .ok (.bipush 6, 2) := by decide +kernel
theorem d_Memory_actOnArrays_98 : decode prog_5_method_2_code 98 = .ok (.if_icmp .ne 10, 3) := by decide +kernel
theorem d_Memory_actOnArrays_108 : decode prog_5_method_2_code 108 = .ok (.aload_n 0, 1) := by decide +kernel
theorem d_Memory_actOnArrays_109 : decode prog_5_method_2_code 109 = .ok (.invokevirtual 78, 3) := by decide +kernel
theorem k_5_40 : Cond.code ⟨"PageScribe$Memory", "putCell", "()I"⟩ prog_5_method_8_code 3 (some .int) ∈ gw := gw_of (tb_5 (List.mem_of_getElem? (i := 40) (by decide +kernel))) (by decide +kernel)
theorem k_5_37 : Cond.methodLink "PageScribe$Memory" 78 ⟨"PageScribe$Memory", "putCell", "()I"⟩ ∈ gw := gw_of (tb_5 (List.mem_of_getElem? (i := 37) (by decide +kernel))) (by decide +kernel)
theorem k_5_39 : Cond.instanceMethod ⟨"PageScribe$Memory", "putCell", "()I"⟩ ∈ gw := gw_of (tb_5 (List.mem_of_getElem? (i := 39) (by decide +kernel))) (by decide +kernel)
theorem k_0_44 : Cond.selects "PageScribe$Memory" ⟨"PageScribe$Memory", "putCell", "()I"⟩ ⟨"PageScribe$Memory", "putCell", "()I"⟩ ∈ gw := gw_of (tb_0 (List.mem_of_getElem? (i := 44) (by decide +kernel))) (by decide +kernel)
theorem d_Memory_actOnArrays_112 : decode prog_5_method_2_code 112 = .ok (.ireturn, 1) := by decide +kernel
theorem d_Memory_actOnArrays_101 : decode prog_5_method_2_code 101 = .ok (.aload_n 0, 1) := by decide +kernel
theorem d_Memory_actOnArrays_102 : decode prog_5_method_2_code 102 = .ok (.invokevirtual 75, 3) := by decide +kernel
theorem k_5_27 : Cond.code ⟨"PageScribe$Memory", "putEntry", "()I"⟩ prog_5_method_9_code 2 (some .int) ∈ gw := gw_of (tb_5 (List.mem_of_getElem? (i := 27) (by decide +kernel))) (by decide +kernel)
theorem k_5_24 : Cond.methodLink "PageScribe$Memory" 75 ⟨"PageScribe$Memory", "putEntry", "()I"⟩ ∈ gw := gw_of (tb_5 (List.mem_of_getElem? (i := 24) (by decide +kernel))) (by decide +kernel)
theorem k_5_26 : Cond.instanceMethod ⟨"PageScribe$Memory", "putEntry", "()I"⟩ ∈ gw := gw_of (tb_5 (List.mem_of_getElem? (i := 26) (by decide +kernel))) (by decide +kernel)
theorem k_0_43 : Cond.selects "PageScribe$Memory" ⟨"PageScribe$Memory", "putEntry", "()I"⟩ ⟨"PageScribe$Memory", "putEntry", "()I"⟩ ∈ gw := gw_of (tb_0 (List.mem_of_getElem? (i := 43) (by decide +kernel))) (by decide +kernel)
theorem d_Memory_actOnArrays_105 : decode prog_5_method_2_code 105 = .ok (.goto 7, 3) := by decide +kernel
theorem d_Memory_actOnArrays_113 : decode prog_5_method_2_code 113 = .ok (.aload_n 0, 1) := by decide +kernel
theorem d_Memory_actOnArrays_114 : decode prog_5_method_2_code 114 = .ok (.invokevirtual 81, 3) := by decide +kernel
theorem k_5_46 : Cond.code ⟨"PageScribe$Memory", "getInterval", "()I"⟩ prog_5_method_10_code 5 (some .int) ∈ gw := gw_of (tb_5 (List.mem_of_getElem? (i := 46) (by decide +kernel))) (by decide +kernel)
theorem k_5_43 : Cond.methodLink "PageScribe$Memory" 81 ⟨"PageScribe$Memory", "getInterval", "()I"⟩ ∈ gw := gw_of (tb_5 (List.mem_of_getElem? (i := 43) (by decide +kernel))) (by decide +kernel)
theorem k_5_45 : Cond.instanceMethod ⟨"PageScribe$Memory", "getInterval", "()I"⟩ ∈ gw := gw_of (tb_5 (List.mem_of_getElem? (i := 45) (by decide +kernel))) (by decide +kernel)
theorem k_0_45 : Cond.selects "PageScribe$Memory" ⟨"PageScribe$Memory", "getInterval", "()I"⟩ ⟨"PageScribe$Memory", "getInterval", "()I"⟩ ∈ gw := gw_of (tb_0 (List.mem_of_getElem? (i := 45) (by decide +kernel))) (by decide +kernel)
theorem d_Memory_actOnArrays_117 : decode prog_5_method_2_code 117 = .ok (.ireturn, 1) := by decide +kernel
theorem d_Memory_actOnArrays_118 : decode prog_5_method_2_code 118 = .ok (.aload_n 0, 1) := by decide +kernel
theorem d_Memory_actOnArrays_119 : decode prog_5_method_2_code 119 = .ok (.invokevirtual 84, 3) := by decide +kernel
theorem k_5_50 : Cond.code ⟨"PageScribe$Memory", "unpack", "()I"⟩ prog_5_method_11_code 5 (some .int) ∈ gw := gw_of (tb_5 (List.mem_of_getElem? (i := 50) (by decide +kernel))) (by decide +kernel)
theorem k_5_47 : Cond.methodLink "PageScribe$Memory" 84 ⟨"PageScribe$Memory", "unpack", "()I"⟩ ∈ gw := gw_of (tb_5 (List.mem_of_getElem? (i := 47) (by decide +kernel))) (by decide +kernel)
theorem k_5_49 : Cond.instanceMethod ⟨"PageScribe$Memory", "unpack", "()I"⟩ ∈ gw := gw_of (tb_5 (List.mem_of_getElem? (i := 49) (by decide +kernel))) (by decide +kernel)
theorem k_0_46 : Cond.selects "PageScribe$Memory" ⟨"PageScribe$Memory", "unpack", "()I"⟩ ⟨"PageScribe$Memory", "unpack", "()I"⟩ ∈ gw := gw_of (tb_0 (List.mem_of_getElem? (i := 46) (by decide +kernel))) (by decide +kernel)
theorem d_Memory_actOnArrays_122 : decode prog_5_method_2_code 122 = .ok (.ireturn, 1) := by decide +kernel
set_option maxHeartbeats 4000000 in
set_option maxRecDepth 100000 in
theorem c_Memory_actOnArrays (l : Launch) (D : va_G) (T : Nat → ClassId) (ad : Nat → Nat) (g : GE) (Bq : Nat → Prop) (S : CS) (op : Nat) (sz : Nat) (hi_op : op < 72) (hI : CIv S) : Met l ⟨"PageScribe$Memory", "actOnArrays", "(LPageScribe$Op;)I"⟩ (wy ⟨"PageScribe$Memory", "actOnArrays", "(LPageScribe$Op;)I"⟩ prog_5_method_2_code 2 (some .int)) ({ frames := 4, cells := 0, slots := 0, locals := 280 }) (va_Pc [.ref (ad 8), .ref (g_en g op)] (Pw D T (cW T ad S) sz (EC g Bq ad))) (va_Qi (fun (r : Int32) (u : CS) => CIv u ∧ kcL S u ∧ kcP S u ∧ kcU S u ∧ kcW S u) (fun u t => Bw D T (va_A (cW T ad S) sz) (cW T ad u) t) (va_A (cW T ad S) sz)) 0 0 (va_A (cW T ad S) sz) := by
  refine j_met (y := ⟨"PageScribe$Memory", "actOnArrays", "(LPageScribe$Op;)I"⟩) (b := prog_5_method_2_code) (n := 2) (ret := (some .int)) (av := [.ref (ad 8), .ref (g_en g op)]) (Qc := fun A => va_Qi (fun (r : Int32) (u : CS) => CIv u ∧ kcL S u ∧ kcP S u ∧ kcU S u ∧ kcW S u) (fun u t => Bw D T A (cW T ad u) t) A) (by decide +kernel) (Nat.le_of_ble_eq_true rfl) (fun p e s m args below meth c A ls F hr hlocks hnm hK hP hD hS hA hN hE hl => ?_)
  obtain ⟨hx, hb, hml, hown, hts⟩ := id F
  have hl : lv_has ls 2 [(0, .ref (ad 8)), (1, .ref (g_en g op))] := hl
  obtain ⟨i_vst, i_vc0, i_vc1, i_vc2, i_vc3, i_vv0, i_vv1, i_vv2, i_vv3, i_vg, i_wct, i_wln, i_sd0, i_sd1, i_sd2, i_sd3, i_rln, i_rtx, i_rpl, i_rtk, i_cnv, i_pts, i_cik, i_und⟩ := id hI
  have hAB : ∀ q, A q → Bq q := EC.ab hE hN
  have hEV := hE.1.narrow hAB
  refine va_gets hx hb hEV.2.2.1.1 hS hown (hts _ k_4_223) (fun _ h9 => h9) d_Memory_actOnArrays_0 ?_
  refine lv_aload_n hx hb d_Memory_actOnArrays_3 rfl (lv_at hl 1 rfl) ?_
  refine jc_ci (w := (fun _ => S)) hK hP hD hS hA (va_runU (As := []) (rest := [.ref (g_tS g)]) F (c_Enum_ordinal l D T ad g Bq S op  s.heap.size hi_op) (j_cU (k := 0) (C := "PageScribe$Op") (owner := "java/lang/Enum") (x := ⟨"PageScribe$Op", "ordinal", "()I"⟩) hts k_4_41 k_4_224 k_4_37 k_4_39 k_4_40 k_1_24 rfl (by decide +kernel) ⟨Nat.le_of_ble_eq_true rfl, Nat.le_of_ble_eq_true rfl⟩) (jc_preO (j_preS hK hP hD csc csc_all csc_nd (fun _ _ _ _ h => EC.calling h) (fun U hU hW => EC.at hS hAB hU hW hE)) (hEV.1 _ hi_op).1.1 hS) rfl rfl hl.1 rfl (lv_room (Nat.le_of_ble_eq_true rfl)) d_Memory_actOnArrays_4 ⟨Nat.le_of_ble_eq_true rfl, Nat.le_of_ble_eq_true rfl⟩) (fun rv1 u1 H locs hw1 hP hD hS => ?_)
  have hP : va_P D classes (cW T ad S) H := hP
  have hD : va_D A (cW T ad S) := hD
  have qhw1 : rv1.toInt = (op : Int) := hw1
  have rrv1 := zt_rng rv1
  refine va_ti hx hb hEV.2.2.1.2 hS (zt_in (show rv1.toInt = _ from rfl) (by omega) (by omega)) rfl d_Memory_actOnArrays_7 ?_
  refine lv_topi (fun x1 ex1 => ?_)
  have rx1 := zt_rng x1
  by_cases h_33_1 : x1.toInt = 33
  · refine lv_tableIn (off := 40) (tgt := 48) hx hb d_Memory_actOnArrays_8 (by omega) (by omega) (by rw [show x1.toInt = 33 from h_33_1]; decide +kernel) (by decide) ?_
    refine lv_aload_n hx hb d_Memory_actOnArrays_48 rfl (lv_at hl 0 rfl) ?_
    refine jc_ci (w := (fun u => u)) hK hP hD hS hA (va_runV (As := []) (rest := []) F (c_Memory_gather l D T ad g Bq S  H.size ⟨i_vst, i_vc0, i_vc1, i_vc2, i_vc3, i_vv0, i_vv1, i_vv2, i_vv3, i_vg, i_wct, i_wln, i_sd0, i_sd1, i_sd2, i_sd3, i_rln, i_rtx, i_rpl, i_rtk, i_cnv, i_pts, i_cik, i_und⟩) (j_cV (k := 0) (C := "PageScribe$Memory") hts k_4_228 k_1_5 k_4_225 k_4_227 k_0_38 (by decide +kernel) ⟨Nat.le_of_ble_eq_true rfl, Nat.le_of_ble_eq_true rfl⟩) (j_preV (q0 := 8) (ci := 2) hK hP hD csc csc_all csc_nd cl_2 (ce_8 _ _ _) (fun _ _ _ _ h => EC.calling h) (fun U hU hW => EC.at hS hAB hU hW hE)) rfl rfl hl.1 rfl (lv_room (Nat.le_of_ble_eq_true rfl)) d_Memory_actOnArrays_49 ⟨Nat.le_of_ble_eq_true rfl, Nat.le_of_ble_eq_true rfl⟩) (fun rv2 S1 H locs hw2 hP hD hS => ?_)
    have hP : va_P D classes (cW T ad S1) H := hP
    have hD : va_D A (cW T ad S1) := hD
    obtain ⟨⟨i_vst, i_vc0, i_vc1, i_vc2, i_vc3, i_vv0, i_vv1, i_vv2, i_vv3, i_vg, i_wct, i_wln, i_sd0, i_sd1, i_sd2, i_sd3, i_rln, i_rtx, i_rpl, i_rtk, i_cnv, i_pts, i_cik, i_und⟩, kpcL_S1, kpcP_S1, kpcU_S1, kpcW_S1⟩ := hw2
    have kScL_S1 : kcL S S1 := kcL_t (show kcL S S from (kcL_r S)) kpcL_S1
    have kScP_S1 : kcP S S1 := kcP_t (show kcP S S from (kcP_r S)) kpcP_S1
    have kScU_S1 : kcU S S1 := kcU_t (show kcU S S from (kcU_r S)) kpcU_S1
    have kScW_S1 : kcW S S1 := kcW_t (show kcW S S from (kcW_r S)) kpcW_S1
    have nxr_length_S1 : (f_xr_length S1).toInt = (f_xr_length S).toInt := congrArg Int32.toInt kpcL_S1
    have nxr_length_S1 : (f_xr_length S1).toInt = (f_xr_length S).toInt := congrArg Int32.toInt kpcP_S1.1
    have nxr_place_S1 : (f_xr_place S1).toInt = (f_xr_place S).toInt := congrArg Int32.toInt kpcP_S1.2.1
    have nxe_underWay_S1 : (f_xe_underWay S1).toInt = (f_xe_underWay S).toInt := congrArg Int32.toInt kpcU_S1
    have nxp_columns_S1 : (f_xp_columns S1).toInt = (f_xp_columns S).toInt := congrArg Int32.toInt kpcW_S1.1
    have nxp_rows_S1 : (f_xp_rows S1).toInt = (f_xp_rows S).toInt := congrArg Int32.toInt kpcW_S1.2
    have rrv2 := zt_rng rv2
    exact j_iret F hr hlocks hK hS S1 ⟨⟨i_vst, i_vc0, i_vc1, i_vc2, i_vc3, i_vv0, i_vv1, i_vv2, i_vv3, i_vg, i_wct, i_wln, i_sd0, i_sd1, i_sd2, i_sd3, i_rln, i_rtx, i_rpl, i_rtk, i_cnv, i_pts, i_cik, i_und⟩, kScL_S1, kScP_S1, kScU_S1, kScW_S1⟩ hP hD d_Memory_actOnArrays_52
  by_cases h_34_1 : x1.toInt = 34
  · refine lv_tableIn (off := 45) (tgt := 53) hx hb d_Memory_actOnArrays_8 (by omega) (by omega) (by rw [show x1.toInt = 34 from h_34_1]; decide +kernel) (by decide) ?_
    refine lv_aload_n hx hb d_Memory_actOnArrays_53 rfl (lv_at hl 0 rfl) ?_
    refine jc_ci (w := (fun u => u)) hK hP hD hS hA (va_runV (As := []) (rest := []) F (c_Memory_makeArray l D T ad g Bq S  H.size ⟨i_vst, i_vc0, i_vc1, i_vc2, i_vc3, i_vv0, i_vv1, i_vv2, i_vv3, i_vg, i_wct, i_wln, i_sd0, i_sd1, i_sd2, i_sd3, i_rln, i_rtx, i_rpl, i_rtk, i_cnv, i_pts, i_cik, i_und⟩) (j_cV (k := 0) (C := "PageScribe$Memory") hts k_4_236 k_1_5 k_4_233 k_4_235 k_0_39 (by decide +kernel) ⟨Nat.le_of_ble_eq_true rfl, Nat.le_of_ble_eq_true rfl⟩) (j_preV (q0 := 8) (ci := 2) hK hP hD csc csc_all csc_nd cl_2 (ce_8 _ _ _) (fun _ _ _ _ h => EC.calling h) (fun U hU hW => EC.at hS hAB hU hW hE)) rfl rfl hl.1 rfl (lv_room (Nat.le_of_ble_eq_true rfl)) d_Memory_actOnArrays_54 ⟨Nat.le_of_ble_eq_true rfl, Nat.le_of_ble_eq_true rfl⟩) (fun rv3 S2 H locs hw3 hP hD hS => ?_)
    have hP : va_P D classes (cW T ad S2) H := hP
    have hD : va_D A (cW T ad S2) := hD
    obtain ⟨⟨i_vst, i_vc0, i_vc1, i_vc2, i_vc3, i_vv0, i_vv1, i_vv2, i_vv3, i_vg, i_wct, i_wln, i_sd0, i_sd1, i_sd2, i_sd3, i_rln, i_rtx, i_rpl, i_rtk, i_cnv, i_pts, i_cik, i_und⟩, kpcL_S2, kpcP_S2, kpcU_S2, kpcW_S2⟩ := hw3
    have kScL_S2 : kcL S S2 := kcL_t (show kcL S S from (kcL_r S)) kpcL_S2
    have kScP_S2 : kcP S S2 := kcP_t (show kcP S S from (kcP_r S)) kpcP_S2
    have kScU_S2 : kcU S S2 := kcU_t (show kcU S S from (kcU_r S)) kpcU_S2
    have kScW_S2 : kcW S S2 := kcW_t (show kcW S S from (kcW_r S)) kpcW_S2
    have nxr_length_S2 : (f_xr_length S2).toInt = (f_xr_length S).toInt := congrArg Int32.toInt kpcL_S2
    have nxr_length_S2 : (f_xr_length S2).toInt = (f_xr_length S).toInt := congrArg Int32.toInt kpcP_S2.1
    have nxr_place_S2 : (f_xr_place S2).toInt = (f_xr_place S).toInt := congrArg Int32.toInt kpcP_S2.2.1
    have nxe_underWay_S2 : (f_xe_underWay S2).toInt = (f_xe_underWay S).toInt := congrArg Int32.toInt kpcU_S2
    have nxp_columns_S2 : (f_xp_columns S2).toInt = (f_xp_columns S).toInt := congrArg Int32.toInt kpcW_S2.1
    have nxp_rows_S2 : (f_xp_rows S2).toInt = (f_xp_rows S).toInt := congrArg Int32.toInt kpcW_S2.2
    have rrv3 := zt_rng rv3
    exact j_iret F hr hlocks hK hS S2 ⟨⟨i_vst, i_vc0, i_vc1, i_vc2, i_vc3, i_vv0, i_vv1, i_vv2, i_vv3, i_vg, i_wct, i_wln, i_sd0, i_sd1, i_sd2, i_sd3, i_rln, i_rtx, i_rpl, i_rtk, i_cnv, i_pts, i_cik, i_und⟩, kScL_S2, kScP_S2, kScU_S2, kScW_S2⟩ hP hD d_Memory_actOnArrays_57
  by_cases h_35_1 : x1.toInt = 35
  · refine lv_tableIn (off := 50) (tgt := 58) hx hb d_Memory_actOnArrays_8 (by omega) (by omega) (by rw [show x1.toInt = 35 from h_35_1]; decide +kernel) (by decide) ?_
    refine lv_aload_n hx hb d_Memory_actOnArrays_58 rfl (lv_at hl 0 rfl) ?_
    refine jc_ci (w := (fun u => u)) hK hP hD hS hA (va_runV (As := []) (rest := []) F (c_Memory_tellLength l D T ad g Bq S  H.size ⟨i_vst, i_vc0, i_vc1, i_vc2, i_vc3, i_vv0, i_vv1, i_vv2, i_vv3, i_vg, i_wct, i_wln, i_sd0, i_sd1, i_sd2, i_sd3, i_rln, i_rtx, i_rpl, i_rtk, i_cnv, i_pts, i_cik, i_und⟩) (j_cV (k := 0) (C := "PageScribe$Memory") hts k_5_4 k_1_5 k_5_1 k_5_3 k_0_40 (by decide +kernel) ⟨Nat.le_of_ble_eq_true rfl, Nat.le_of_ble_eq_true rfl⟩) (j_preV (q0 := 8) (ci := 2) hK hP hD csc csc_all csc_nd cl_2 (ce_8 _ _ _) (fun _ _ _ _ h => EC.calling h) (fun U hU hW => EC.at hS hAB hU hW hE)) rfl rfl hl.1 rfl (lv_room (Nat.le_of_ble_eq_true rfl)) d_Memory_actOnArrays_59 ⟨Nat.le_of_ble_eq_true rfl, Nat.le_of_ble_eq_true rfl⟩) (fun rv4 S3 H locs hw4 hP hD hS => ?_)
    have hP : va_P D classes (cW T ad S3) H := hP
    have hD : va_D A (cW T ad S3) := hD
    obtain ⟨⟨i_vst, i_vc0, i_vc1, i_vc2, i_vc3, i_vv0, i_vv1, i_vv2, i_vv3, i_vg, i_wct, i_wln, i_sd0, i_sd1, i_sd2, i_sd3, i_rln, i_rtx, i_rpl, i_rtk, i_cnv, i_pts, i_cik, i_und⟩, kpcL_S3, kpcP_S3, kpcU_S3, kpcW_S3⟩ := hw4
    have kScL_S3 : kcL S S3 := kcL_t (show kcL S S from (kcL_r S)) kpcL_S3
    have kScP_S3 : kcP S S3 := kcP_t (show kcP S S from (kcP_r S)) kpcP_S3
    have kScU_S3 : kcU S S3 := kcU_t (show kcU S S from (kcU_r S)) kpcU_S3
    have kScW_S3 : kcW S S3 := kcW_t (show kcW S S from (kcW_r S)) kpcW_S3
    have nxr_length_S3 : (f_xr_length S3).toInt = (f_xr_length S).toInt := congrArg Int32.toInt kpcL_S3
    have nxr_length_S3 : (f_xr_length S3).toInt = (f_xr_length S).toInt := congrArg Int32.toInt kpcP_S3.1
    have nxr_place_S3 : (f_xr_place S3).toInt = (f_xr_place S).toInt := congrArg Int32.toInt kpcP_S3.2.1
    have nxe_underWay_S3 : (f_xe_underWay S3).toInt = (f_xe_underWay S).toInt := congrArg Int32.toInt kpcU_S3
    have nxp_columns_S3 : (f_xp_columns S3).toInt = (f_xp_columns S).toInt := congrArg Int32.toInt kpcW_S3.1
    have nxp_rows_S3 : (f_xp_rows S3).toInt = (f_xp_rows S).toInt := congrArg Int32.toInt kpcW_S3.2
    have rrv4 := zt_rng rv4
    exact j_iret F hr hlocks hK hS S3 ⟨⟨i_vst, i_vc0, i_vc1, i_vc2, i_vc3, i_vv0, i_vv1, i_vv2, i_vv3, i_vg, i_wct, i_wln, i_sd0, i_sd1, i_sd2, i_sd3, i_rln, i_rtx, i_rpl, i_rtk, i_cnv, i_pts, i_cik, i_und⟩, kScL_S3, kScP_S3, kScU_S3, kScW_S3⟩ hP hD d_Memory_actOnArrays_62
  by_cases h_36_1 : x1.toInt = 36
  · refine lv_tableIn (off := 55) (tgt := 63) hx hb d_Memory_actOnArrays_8 (by omega) (by omega) (by rw [show x1.toInt = 36 from h_36_1]; decide +kernel) (by decide) ?_
    refine lv_aload_n hx hb d_Memory_actOnArrays_63 rfl (lv_at hl 0 rfl) ?_
    refine va_get (D := D) (ci := 2) (v := .ref (ad 1)) (C := "PageScribe$Memory") (T := F_Memory) (N := 8) hx hb hts i_Memory hown hK hP 8 (ce_8 _ _ _) cl_2 0 (by decide) (hts _ k_1_129) (fun _ h9 => h9) rfl d_Memory_actOnArrays_64 ?_
    refine lv_iconst (v := 1) hx hb d_Memory_actOnArrays_67 (by decide) ?_
    refine jc_ci (w := (fun _ => S)) hK hP hD hS hA (va_runV (As := [.int 1]) (rest := []) F (c_Stack_kindDown l D T ad S (1 : Int32)  H.size) (j_cV (k := 1) (C := "PageScribe$Stack") hts k_2_120 k_1_3 k_5_5 k_2_118 k_2_119 (by decide +kernel) ⟨Nat.le_of_ble_eq_true rfl, Nat.le_of_ble_eq_true rfl⟩) (j_preV (q0 := 1) (ci := 0) hK hP hD csc csc_all csc_nd cl_0 (ce_1 _ _ _) (fun _ _ _ _ h => h) (fun _ _ _ => trivial)) rfl rfl hl.1 rfl (lv_room (Nat.le_of_ble_eq_true rfl)) d_Memory_actOnArrays_68 ⟨Nat.le_of_ble_eq_true rfl, Nat.le_of_ble_eq_true rfl⟩) (fun rv5 u2 H locs hw5 hP hD hS => ?_)
    have hP : va_P D classes (cW T ad S) H := hP
    have hD : va_D A (cW T ad S) := hD
    have rrv5 := zt_rng rv5
    refine lv_bipush (v := 6) hx hb d_Memory_actOnArrays_71 (by decide) ?_
    refine lv_icmp_ne (tgt := 83) hx hb d_Memory_actOnArrays_73 (by decide) (fun c73_1 => ?_) (fun c73_1 => ?_)
    · first | have fc73_1 : rv5.toInt < 6 := (by have := zt_ne (show rv5.toInt = _ from rfl) tI_6 c73_1; omega) | have fc73_1 : 6 < rv5.toInt := (by have := zt_ne (show rv5.toInt = _ from rfl) tI_6 c73_1; omega) | skip
      refine lv_aload_n hx hb d_Memory_actOnArrays_83 rfl (lv_at hl 0 rfl) ?_
      refine jc_ci (w := (fun u => u)) hK hP hD hS hA (va_runV (As := []) (rest := []) F (c_Memory_getCell l D T ad g Bq S  H.size ⟨i_vst, i_vc0, i_vc1, i_vc2, i_vc3, i_vv0, i_vv1, i_vv2, i_vv3, i_vg, i_wct, i_wln, i_sd0, i_sd1, i_sd2, i_sd3, i_rln, i_rtx, i_rpl, i_rtk, i_cnv, i_pts, i_cik, i_und⟩) (j_cV (k := 0) (C := "PageScribe$Memory") hts k_5_20 k_1_5 k_5_17 k_5_19 k_0_42 (by decide +kernel) ⟨Nat.le_of_ble_eq_true rfl, Nat.le_of_ble_eq_true rfl⟩) (j_preV (q0 := 8) (ci := 2) hK hP hD csc csc_all csc_nd cl_2 (ce_8 _ _ _) (fun _ _ _ _ h => EC.calling h) (fun U hU hW => EC.at hS hAB hU hW hE)) rfl rfl hl.1 rfl (lv_room (Nat.le_of_ble_eq_true rfl)) d_Memory_actOnArrays_84 ⟨Nat.le_of_ble_eq_true rfl, Nat.le_of_ble_eq_true rfl⟩) (fun rv6 S4 H locs hw6 hP hD hS => ?_)
      have hP : va_P D classes (cW T ad S4) H := hP
      have hD : va_D A (cW T ad S4) := hD
      obtain ⟨⟨i_vst, i_vc0, i_vc1, i_vc2, i_vc3, i_vv0, i_vv1, i_vv2, i_vv3, i_vg, i_wct, i_wln, i_sd0, i_sd1, i_sd2, i_sd3, i_rln, i_rtx, i_rpl, i_rtk, i_cnv, i_pts, i_cik, i_und⟩, kpcL_S4, kpcP_S4, kpcU_S4, kpcW_S4⟩ := hw6
      have kScL_S4 : kcL S S4 := kcL_t (show kcL S S from (kcL_r S)) kpcL_S4
      have kScP_S4 : kcP S S4 := kcP_t (show kcP S S from (kcP_r S)) kpcP_S4
      have kScU_S4 : kcU S S4 := kcU_t (show kcU S S from (kcU_r S)) kpcU_S4
      have kScW_S4 : kcW S S4 := kcW_t (show kcW S S from (kcW_r S)) kpcW_S4
      have nxr_length_S4 : (f_xr_length S4).toInt = (f_xr_length S).toInt := congrArg Int32.toInt kpcL_S4
      have nxr_length_S4 : (f_xr_length S4).toInt = (f_xr_length S).toInt := congrArg Int32.toInt kpcP_S4.1
      have nxr_place_S4 : (f_xr_place S4).toInt = (f_xr_place S).toInt := congrArg Int32.toInt kpcP_S4.2.1
      have nxe_underWay_S4 : (f_xe_underWay S4).toInt = (f_xe_underWay S).toInt := congrArg Int32.toInt kpcU_S4
      have nxp_columns_S4 : (f_xp_columns S4).toInt = (f_xp_columns S).toInt := congrArg Int32.toInt kpcW_S4.1
      have nxp_rows_S4 : (f_xp_rows S4).toInt = (f_xp_rows S).toInt := congrArg Int32.toInt kpcW_S4.2
      have rrv6 := zt_rng rv6
      exact j_iret F hr hlocks hK hS S4 ⟨⟨i_vst, i_vc0, i_vc1, i_vc2, i_vc3, i_vv0, i_vv1, i_vv2, i_vv3, i_vg, i_wct, i_wln, i_sd0, i_sd1, i_sd2, i_sd3, i_rln, i_rtx, i_rpl, i_rtk, i_cnv, i_pts, i_cik, i_und⟩, kScL_S4, kScP_S4, kScU_S4, kScW_S4⟩ hP hD d_Memory_actOnArrays_87
    · have fc73_1 : rv5.toInt = 6 := zt_eq (show rv5.toInt = _ from rfl) tI_6 c73_1
      refine lv_aload_n hx hb d_Memory_actOnArrays_76 rfl (lv_at hl 0 rfl) ?_
      refine jc_ci (w := (fun u => u)) hK hP hD hS hA (va_runV (As := []) (rest := []) F (c_Memory_getEntry l D T ad g Bq S  H.size ⟨i_vst, i_vc0, i_vc1, i_vc2, i_vc3, i_vv0, i_vv1, i_vv2, i_vv3, i_vg, i_wct, i_wln, i_sd0, i_sd1, i_sd2, i_sd3, i_rln, i_rtx, i_rpl, i_rtk, i_cnv, i_pts, i_cik, i_und⟩) (j_cV (k := 0) (C := "PageScribe$Memory") hts k_5_15 k_1_5 k_5_12 k_5_14 k_0_41 (by decide +kernel) ⟨Nat.le_of_ble_eq_true rfl, Nat.le_of_ble_eq_true rfl⟩) (j_preV (q0 := 8) (ci := 2) hK hP hD csc csc_all csc_nd cl_2 (ce_8 _ _ _) (fun _ _ _ _ h => EC.calling h) (fun U hU hW => EC.at hS hAB hU hW hE)) rfl rfl hl.1 rfl (lv_room (Nat.le_of_ble_eq_true rfl)) d_Memory_actOnArrays_77 ⟨Nat.le_of_ble_eq_true rfl, Nat.le_of_ble_eq_true rfl⟩) (fun rv7 S5 H locs hw7 hP hD hS => ?_)
      have hP : va_P D classes (cW T ad S5) H := hP
      have hD : va_D A (cW T ad S5) := hD
      obtain ⟨⟨i_vst, i_vc0, i_vc1, i_vc2, i_vc3, i_vv0, i_vv1, i_vv2, i_vv3, i_vg, i_wct, i_wln, i_sd0, i_sd1, i_sd2, i_sd3, i_rln, i_rtx, i_rpl, i_rtk, i_cnv, i_pts, i_cik, i_und⟩, kpcL_S5, kpcP_S5, kpcU_S5, kpcW_S5⟩ := hw7
      have kScL_S5 : kcL S S5 := kcL_t (show kcL S S from (kcL_r S)) kpcL_S5
      have kScP_S5 : kcP S S5 := kcP_t (show kcP S S from (kcP_r S)) kpcP_S5
      have kScU_S5 : kcU S S5 := kcU_t (show kcU S S from (kcU_r S)) kpcU_S5
      have kScW_S5 : kcW S S5 := kcW_t (show kcW S S from (kcW_r S)) kpcW_S5
      have nxr_length_S5 : (f_xr_length S5).toInt = (f_xr_length S).toInt := congrArg Int32.toInt kpcL_S5
      have nxr_length_S5 : (f_xr_length S5).toInt = (f_xr_length S).toInt := congrArg Int32.toInt kpcP_S5.1
      have nxr_place_S5 : (f_xr_place S5).toInt = (f_xr_place S).toInt := congrArg Int32.toInt kpcP_S5.2.1
      have nxe_underWay_S5 : (f_xe_underWay S5).toInt = (f_xe_underWay S).toInt := congrArg Int32.toInt kpcU_S5
      have nxp_columns_S5 : (f_xp_columns S5).toInt = (f_xp_columns S).toInt := congrArg Int32.toInt kpcW_S5.1
      have nxp_rows_S5 : (f_xp_rows S5).toInt = (f_xp_rows S).toInt := congrArg Int32.toInt kpcW_S5.2
      have rrv7 := zt_rng rv7
      refine lv_goto (tgt := 87) hx hb d_Memory_actOnArrays_80 (by decide) ?_
      exact j_iret F hr hlocks hK hS S5 ⟨⟨i_vst, i_vc0, i_vc1, i_vc2, i_vc3, i_vv0, i_vv1, i_vv2, i_vv3, i_vg, i_wct, i_wln, i_sd0, i_sd1, i_sd2, i_sd3, i_rln, i_rtx, i_rpl, i_rtk, i_cnv, i_pts, i_cik, i_und⟩, kScL_S5, kScP_S5, kScU_S5, kScW_S5⟩ hP hD d_Memory_actOnArrays_87
  by_cases h_37_1 : x1.toInt = 37
  · refine lv_tableIn (off := 80) (tgt := 88) hx hb d_Memory_actOnArrays_8 (by omega) (by omega) (by rw [show x1.toInt = 37 from h_37_1]; decide +kernel) (by decide) ?_
    refine lv_aload_n hx hb d_Memory_actOnArrays_88 rfl (lv_at hl 0 rfl) ?_
    refine va_get (D := D) (ci := 2) (v := .ref (ad 1)) (C := "PageScribe$Memory") (T := F_Memory) (N := 8) hx hb hts i_Memory hown hK hP 8 (ce_8 _ _ _) cl_2 0 (by decide) (hts _ k_1_129) (fun _ h9 => h9) rfl d_Memory_actOnArrays_89 ?_
    refine lv_iconst (v := 2) hx hb d_Memory_actOnArrays_92 (by decide) ?_
    refine jc_ci (w := (fun _ => S)) hK hP hD hS hA (va_runV (As := [.int 2]) (rest := []) F (c_Stack_kindDown l D T ad S (2 : Int32)  H.size) (j_cV (k := 1) (C := "PageScribe$Stack") hts k_2_120 k_1_3 k_5_5 k_2_118 k_2_119 (by decide +kernel) ⟨Nat.le_of_ble_eq_true rfl, Nat.le_of_ble_eq_true rfl⟩) (j_preV (q0 := 1) (ci := 0) hK hP hD csc csc_all csc_nd cl_0 (ce_1 _ _ _) (fun _ _ _ _ h => h) (fun _ _ _ => trivial)) rfl rfl hl.1 rfl (lv_room (Nat.le_of_ble_eq_true rfl)) d_Memory_actOnArrays_93 ⟨Nat.le_of_ble_eq_true rfl, Nat.le_of_ble_eq_true rfl⟩) (fun rv8 u3 H locs hw8 hP hD hS => ?_)
    have hP : va_P D classes (cW T ad S) H := hP
    have hD : va_D A (cW T ad S) := hD
    have rrv8 := zt_rng rv8
    refine lv_bipush (v := 6) hx hb d_Memory_actOnArrays_96 (by decide) ?_
    refine lv_icmp_ne (tgt := 108) hx hb d_Memory_actOnArrays_98 (by decide) (fun c98_1 => ?_) (fun c98_1 => ?_)
    · first | have fc98_1 : rv8.toInt < 6 := (by have := zt_ne (show rv8.toInt = _ from rfl) tI_6 c98_1; omega) | have fc98_1 : 6 < rv8.toInt := (by have := zt_ne (show rv8.toInt = _ from rfl) tI_6 c98_1; omega) | skip
      refine lv_aload_n hx hb d_Memory_actOnArrays_108 rfl (lv_at hl 0 rfl) ?_
      refine jc_ci (w := (fun u => u)) hK hP hD hS hA (va_runV (As := []) (rest := []) F (c_Memory_putCell l D T ad g Bq S  H.size ⟨i_vst, i_vc0, i_vc1, i_vc2, i_vc3, i_vv0, i_vv1, i_vv2, i_vv3, i_vg, i_wct, i_wln, i_sd0, i_sd1, i_sd2, i_sd3, i_rln, i_rtx, i_rpl, i_rtk, i_cnv, i_pts, i_cik, i_und⟩) (j_cV (k := 0) (C := "PageScribe$Memory") hts k_5_40 k_1_5 k_5_37 k_5_39 k_0_44 (by decide +kernel) ⟨Nat.le_of_ble_eq_true rfl, Nat.le_of_ble_eq_true rfl⟩) (j_preV (q0 := 8) (ci := 2) hK hP hD csc csc_all csc_nd cl_2 (ce_8 _ _ _) (fun _ _ _ _ h => EC.calling h) (fun U hU hW => EC.at hS hAB hU hW hE)) rfl rfl hl.1 rfl (lv_room (Nat.le_of_ble_eq_true rfl)) d_Memory_actOnArrays_109 ⟨Nat.le_of_ble_eq_true rfl, Nat.le_of_ble_eq_true rfl⟩) (fun rv9 S6 H locs hw9 hP hD hS => ?_)
      have hP : va_P D classes (cW T ad S6) H := hP
      have hD : va_D A (cW T ad S6) := hD
      obtain ⟨⟨i_vst, i_vc0, i_vc1, i_vc2, i_vc3, i_vv0, i_vv1, i_vv2, i_vv3, i_vg, i_wct, i_wln, i_sd0, i_sd1, i_sd2, i_sd3, i_rln, i_rtx, i_rpl, i_rtk, i_cnv, i_pts, i_cik, i_und⟩, kpcL_S6, kpcP_S6, kpcU_S6, kpcW_S6⟩ := hw9
      have kScL_S6 : kcL S S6 := kcL_t (show kcL S S from (kcL_r S)) kpcL_S6
      have kScP_S6 : kcP S S6 := kcP_t (show kcP S S from (kcP_r S)) kpcP_S6
      have kScU_S6 : kcU S S6 := kcU_t (show kcU S S from (kcU_r S)) kpcU_S6
      have kScW_S6 : kcW S S6 := kcW_t (show kcW S S from (kcW_r S)) kpcW_S6
      have nxr_length_S6 : (f_xr_length S6).toInt = (f_xr_length S).toInt := congrArg Int32.toInt kpcL_S6
      have nxr_length_S6 : (f_xr_length S6).toInt = (f_xr_length S).toInt := congrArg Int32.toInt kpcP_S6.1
      have nxr_place_S6 : (f_xr_place S6).toInt = (f_xr_place S).toInt := congrArg Int32.toInt kpcP_S6.2.1
      have nxe_underWay_S6 : (f_xe_underWay S6).toInt = (f_xe_underWay S).toInt := congrArg Int32.toInt kpcU_S6
      have nxp_columns_S6 : (f_xp_columns S6).toInt = (f_xp_columns S).toInt := congrArg Int32.toInt kpcW_S6.1
      have nxp_rows_S6 : (f_xp_rows S6).toInt = (f_xp_rows S).toInt := congrArg Int32.toInt kpcW_S6.2
      have rrv9 := zt_rng rv9
      exact j_iret F hr hlocks hK hS S6 ⟨⟨i_vst, i_vc0, i_vc1, i_vc2, i_vc3, i_vv0, i_vv1, i_vv2, i_vv3, i_vg, i_wct, i_wln, i_sd0, i_sd1, i_sd2, i_sd3, i_rln, i_rtx, i_rpl, i_rtk, i_cnv, i_pts, i_cik, i_und⟩, kScL_S6, kScP_S6, kScU_S6, kScW_S6⟩ hP hD d_Memory_actOnArrays_112
    · have fc98_1 : rv8.toInt = 6 := zt_eq (show rv8.toInt = _ from rfl) tI_6 c98_1
      refine lv_aload_n hx hb d_Memory_actOnArrays_101 rfl (lv_at hl 0 rfl) ?_
      refine jc_ci (w := (fun u => u)) hK hP hD hS hA (va_runV (As := []) (rest := []) F (c_Memory_putEntry l D T ad g Bq S  H.size ⟨i_vst, i_vc0, i_vc1, i_vc2, i_vc3, i_vv0, i_vv1, i_vv2, i_vv3, i_vg, i_wct, i_wln, i_sd0, i_sd1, i_sd2, i_sd3, i_rln, i_rtx, i_rpl, i_rtk, i_cnv, i_pts, i_cik, i_und⟩) (j_cV (k := 0) (C := "PageScribe$Memory") hts k_5_27 k_1_5 k_5_24 k_5_26 k_0_43 (by decide +kernel) ⟨Nat.le_of_ble_eq_true rfl, Nat.le_of_ble_eq_true rfl⟩) (j_preV (q0 := 8) (ci := 2) hK hP hD csc csc_all csc_nd cl_2 (ce_8 _ _ _) (fun _ _ _ _ h => EC.calling h) (fun U hU hW => EC.at hS hAB hU hW hE)) rfl rfl hl.1 rfl (lv_room (Nat.le_of_ble_eq_true rfl)) d_Memory_actOnArrays_102 ⟨Nat.le_of_ble_eq_true rfl, Nat.le_of_ble_eq_true rfl⟩) (fun rv10 S7 H locs hw10 hP hD hS => ?_)
      have hP : va_P D classes (cW T ad S7) H := hP
      have hD : va_D A (cW T ad S7) := hD
      obtain ⟨⟨i_vst, i_vc0, i_vc1, i_vc2, i_vc3, i_vv0, i_vv1, i_vv2, i_vv3, i_vg, i_wct, i_wln, i_sd0, i_sd1, i_sd2, i_sd3, i_rln, i_rtx, i_rpl, i_rtk, i_cnv, i_pts, i_cik, i_und⟩, kpcL_S7, kpcP_S7, kpcU_S7, kpcW_S7⟩ := hw10
      have kScL_S7 : kcL S S7 := kcL_t (show kcL S S from (kcL_r S)) kpcL_S7
      have kScP_S7 : kcP S S7 := kcP_t (show kcP S S from (kcP_r S)) kpcP_S7
      have kScU_S7 : kcU S S7 := kcU_t (show kcU S S from (kcU_r S)) kpcU_S7
      have kScW_S7 : kcW S S7 := kcW_t (show kcW S S from (kcW_r S)) kpcW_S7
      have nxr_length_S7 : (f_xr_length S7).toInt = (f_xr_length S).toInt := congrArg Int32.toInt kpcL_S7
      have nxr_length_S7 : (f_xr_length S7).toInt = (f_xr_length S).toInt := congrArg Int32.toInt kpcP_S7.1
      have nxr_place_S7 : (f_xr_place S7).toInt = (f_xr_place S).toInt := congrArg Int32.toInt kpcP_S7.2.1
      have nxe_underWay_S7 : (f_xe_underWay S7).toInt = (f_xe_underWay S).toInt := congrArg Int32.toInt kpcU_S7
      have nxp_columns_S7 : (f_xp_columns S7).toInt = (f_xp_columns S).toInt := congrArg Int32.toInt kpcW_S7.1
      have nxp_rows_S7 : (f_xp_rows S7).toInt = (f_xp_rows S).toInt := congrArg Int32.toInt kpcW_S7.2
      have rrv10 := zt_rng rv10
      refine lv_goto (tgt := 112) hx hb d_Memory_actOnArrays_105 (by decide) ?_
      exact j_iret F hr hlocks hK hS S7 ⟨⟨i_vst, i_vc0, i_vc1, i_vc2, i_vc3, i_vv0, i_vv1, i_vv2, i_vv3, i_vg, i_wct, i_wln, i_sd0, i_sd1, i_sd2, i_sd3, i_rln, i_rtx, i_rpl, i_rtk, i_cnv, i_pts, i_cik, i_und⟩, kScL_S7, kScP_S7, kScU_S7, kScW_S7⟩ hP hD d_Memory_actOnArrays_112
  by_cases h_38_1 : x1.toInt = 38
  · refine lv_tableIn (off := 105) (tgt := 113) hx hb d_Memory_actOnArrays_8 (by omega) (by omega) (by rw [show x1.toInt = 38 from h_38_1]; decide +kernel) (by decide) ?_
    refine lv_aload_n hx hb d_Memory_actOnArrays_113 rfl (lv_at hl 0 rfl) ?_
    refine jc_ci (w := (fun u => u)) hK hP hD hS hA (va_runV (As := []) (rest := []) F (c_Memory_getInterval l D T ad g Bq S  H.size ⟨i_vst, i_vc0, i_vc1, i_vc2, i_vc3, i_vv0, i_vv1, i_vv2, i_vv3, i_vg, i_wct, i_wln, i_sd0, i_sd1, i_sd2, i_sd3, i_rln, i_rtx, i_rpl, i_rtk, i_cnv, i_pts, i_cik, i_und⟩) (j_cV (k := 0) (C := "PageScribe$Memory") hts k_5_46 k_1_5 k_5_43 k_5_45 k_0_45 (by decide +kernel) ⟨Nat.le_of_ble_eq_true rfl, Nat.le_of_ble_eq_true rfl⟩) (j_preV (q0 := 8) (ci := 2) hK hP hD csc csc_all csc_nd cl_2 (ce_8 _ _ _) (fun _ _ _ _ h => EC.calling h) (fun U hU hW => EC.at hS hAB hU hW hE)) rfl rfl hl.1 rfl (lv_room (Nat.le_of_ble_eq_true rfl)) d_Memory_actOnArrays_114 ⟨Nat.le_of_ble_eq_true rfl, Nat.le_of_ble_eq_true rfl⟩) (fun rv11 S8 H locs hw11 hP hD hS => ?_)
    have hP : va_P D classes (cW T ad S8) H := hP
    have hD : va_D A (cW T ad S8) := hD
    obtain ⟨⟨i_vst, i_vc0, i_vc1, i_vc2, i_vc3, i_vv0, i_vv1, i_vv2, i_vv3, i_vg, i_wct, i_wln, i_sd0, i_sd1, i_sd2, i_sd3, i_rln, i_rtx, i_rpl, i_rtk, i_cnv, i_pts, i_cik, i_und⟩, kpcL_S8, kpcP_S8, kpcU_S8, kpcW_S8⟩ := hw11
    have kScL_S8 : kcL S S8 := kcL_t (show kcL S S from (kcL_r S)) kpcL_S8
    have kScP_S8 : kcP S S8 := kcP_t (show kcP S S from (kcP_r S)) kpcP_S8
    have kScU_S8 : kcU S S8 := kcU_t (show kcU S S from (kcU_r S)) kpcU_S8
    have kScW_S8 : kcW S S8 := kcW_t (show kcW S S from (kcW_r S)) kpcW_S8
    have nxr_length_S8 : (f_xr_length S8).toInt = (f_xr_length S).toInt := congrArg Int32.toInt kpcL_S8
    have nxr_length_S8 : (f_xr_length S8).toInt = (f_xr_length S).toInt := congrArg Int32.toInt kpcP_S8.1
    have nxr_place_S8 : (f_xr_place S8).toInt = (f_xr_place S).toInt := congrArg Int32.toInt kpcP_S8.2.1
    have nxe_underWay_S8 : (f_xe_underWay S8).toInt = (f_xe_underWay S).toInt := congrArg Int32.toInt kpcU_S8
    have nxp_columns_S8 : (f_xp_columns S8).toInt = (f_xp_columns S).toInt := congrArg Int32.toInt kpcW_S8.1
    have nxp_rows_S8 : (f_xp_rows S8).toInt = (f_xp_rows S).toInt := congrArg Int32.toInt kpcW_S8.2
    have rrv11 := zt_rng rv11
    exact j_iret F hr hlocks hK hS S8 ⟨⟨i_vst, i_vc0, i_vc1, i_vc2, i_vc3, i_vv0, i_vv1, i_vv2, i_vv3, i_vg, i_wct, i_wln, i_sd0, i_sd1, i_sd2, i_sd3, i_rln, i_rtx, i_rpl, i_rtk, i_cnv, i_pts, i_cik, i_und⟩, kScL_S8, kScP_S8, kScU_S8, kScW_S8⟩ hP hD d_Memory_actOnArrays_117
  refine lv_tableOut (tgt := 118) hx hb d_Memory_actOnArrays_8 (by omega) (by decide) ?_
  refine lv_aload_n hx hb d_Memory_actOnArrays_118 rfl (lv_at hl 0 rfl) ?_
  refine jc_ci (w := (fun u => u)) hK hP hD hS hA (va_runV (As := []) (rest := []) F (c_Memory_unpack l D T ad g Bq S  H.size ⟨i_vst, i_vc0, i_vc1, i_vc2, i_vc3, i_vv0, i_vv1, i_vv2, i_vv3, i_vg, i_wct, i_wln, i_sd0, i_sd1, i_sd2, i_sd3, i_rln, i_rtx, i_rpl, i_rtk, i_cnv, i_pts, i_cik, i_und⟩) (j_cV (k := 0) (C := "PageScribe$Memory") hts k_5_50 k_1_5 k_5_47 k_5_49 k_0_46 (by decide +kernel) ⟨Nat.le_of_ble_eq_true rfl, Nat.le_of_ble_eq_true rfl⟩) (j_preV (q0 := 8) (ci := 2) hK hP hD csc csc_all csc_nd cl_2 (ce_8 _ _ _) (fun _ _ _ _ h => EC.calling h) (fun U hU hW => EC.at hS hAB hU hW hE)) rfl rfl hl.1 rfl (lv_room (Nat.le_of_ble_eq_true rfl)) d_Memory_actOnArrays_119 ⟨Nat.le_of_ble_eq_true rfl, Nat.le_of_ble_eq_true rfl⟩) (fun rv12 S9 H locs hw12 hP hD hS => ?_)
  have hP : va_P D classes (cW T ad S9) H := hP
  have hD : va_D A (cW T ad S9) := hD
  obtain ⟨⟨i_vst, i_vc0, i_vc1, i_vc2, i_vc3, i_vv0, i_vv1, i_vv2, i_vv3, i_vg, i_wct, i_wln, i_sd0, i_sd1, i_sd2, i_sd3, i_rln, i_rtx, i_rpl, i_rtk, i_cnv, i_pts, i_cik, i_und⟩, kpcL_S9, kpcP_S9, kpcU_S9, kpcW_S9⟩ := hw12
  have kScL_S9 : kcL S S9 := kcL_t (show kcL S S from (kcL_r S)) kpcL_S9
  have kScP_S9 : kcP S S9 := kcP_t (show kcP S S from (kcP_r S)) kpcP_S9
  have kScU_S9 : kcU S S9 := kcU_t (show kcU S S from (kcU_r S)) kpcU_S9
  have kScW_S9 : kcW S S9 := kcW_t (show kcW S S from (kcW_r S)) kpcW_S9
  have nxr_length_S9 : (f_xr_length S9).toInt = (f_xr_length S).toInt := congrArg Int32.toInt kpcL_S9
  have nxr_length_S9 : (f_xr_length S9).toInt = (f_xr_length S).toInt := congrArg Int32.toInt kpcP_S9.1
  have nxr_place_S9 : (f_xr_place S9).toInt = (f_xr_place S).toInt := congrArg Int32.toInt kpcP_S9.2.1
  have nxe_underWay_S9 : (f_xe_underWay S9).toInt = (f_xe_underWay S).toInt := congrArg Int32.toInt kpcU_S9
  have nxp_columns_S9 : (f_xp_columns S9).toInt = (f_xp_columns S).toInt := congrArg Int32.toInt kpcW_S9.1
  have nxp_rows_S9 : (f_xp_rows S9).toInt = (f_xp_rows S).toInt := congrArg Int32.toInt kpcW_S9.2
  have rrv12 := zt_rng rv12
  exact j_iret F hr hlocks hK hS S9 ⟨⟨i_vst, i_vc0, i_vc1, i_vc2, i_vc3, i_vv0, i_vv1, i_vv2, i_vv3, i_vg, i_wct, i_wln, i_sd0, i_sd1, i_sd2, i_sd3, i_rln, i_rtx, i_rpl, i_rtk, i_cnv, i_pts, i_cik, i_und⟩, kScL_S9, kScP_S9, kScU_S9, kScW_S9⟩ hP hD d_Memory_actOnArrays_122
theorem d_Memory_makeDict_0 : decode prog_5_method_13_code 0 = .ok (.aload_n 0, 1) := by decide +kernel
theorem d_Memory_makeDict_1 : decode prog_5_method_13_code 1 = .ok (.getfield 39, 3) := by decide +kernel
theorem d_Memory_makeDict_4 : decode prog_5_method_13_code 4 = .ok (.iconst 0, 1) := by decide +kernel
theorem d_Memory_makeDict_5 : decode prog_5_method_13_code 5 = .ok (.invokevirtual 105, 3) := by decide +kernel
theorem d_Memory_makeDict_8 : decode prog_5_method_13_code 8 = .ok (.istore_n 1, 1) := by decide +kernel
theorem d_Memory_makeDict_9 : decode prog_5_method_13_code 9 = .ok (.iload_n 1, 1) := by decide +kernel
theorem d_Memory_makeDict_10 : decode prog_5_method_13_code 10 = .ok (.iconst 1, 1) := by decide +kernel
theorem d_Memory_makeDict_11 : decode prog_5_method_13_code 11 = .ok (.if_icmp .lt 9, 3) := by decide +kernel
theorem d_Memory_makeDict_20 : decode prog_5_method_13_code 20 = .ok (.iconst 4, 1) := by decide +kernel
theorem d_Memory_makeDict_21 : decode prog_5_method_13_code 21 = .ok (.ireturn, 1) := by decide +kernel
theorem d_Memory_makeDict_14 : decode prog_5_method_13_code 14 = .ok (.iload_n 1, 1) := by decide +kernel
theorem d_Memory_makeDict_15 : decode prog_5_method_13_code 15 = .ok (.bipush 10, 2) := by decide +kernel
theorem d_Memory_makeDict_17 : decode prog_5_method_13_code 17 = .ok (.if_icmp .le 5, 3) := by decide +kernel
theorem d_Memory_makeDict_22 : decode prog_5_method_13_code 22 = .ok (.aload_n 0, 1) := by decide +kernel
theorem d_Memory_makeDict_23 : decode prog_5_method_13_code 23 = .ok (.getfield 12, 3) := by decide +kernel
theorem d_Memory_makeDict_26 : decode prog_5_method_13_code 26 = .ok (.iload_n 1, 1) := by decide +kernel
theorem d_Memory_makeDict_27 : decode prog_5_method_13_code 27 = .ok (.invokevirtual 179, 3) := by decide +kernel
theorem k_5_62 : Cond.code ⟨"PageScribe$Store", "newDict", "(I)I"⟩ prog_10_method_7_code 3 (some .int) ∈ gw := gw_of (tb_5 (List.mem_of_getElem? (i := 62) (by decide +kernel))) (by decide +kernel)
theorem k_5_59 : Cond.methodLink "PageScribe$Memory" 179 ⟨"PageScribe$Store", "newDict", "(I)I"⟩ ∈ gw := gw_of (tb_5 (List.mem_of_getElem? (i := 59) (by decide +kernel))) (by decide +kernel)
theorem k_5_60 : Cond.instanceMethod ⟨"PageScribe$Store", "newDict", "(I)I"⟩ ∈ gw := gw_of (tb_5 (List.mem_of_getElem? (i := 60) (by decide +kernel))) (by decide +kernel)
theorem k_5_61 : Cond.selects "PageScribe$Store" ⟨"PageScribe$Store", "newDict", "(I)I"⟩ ⟨"PageScribe$Store", "newDict", "(I)I"⟩ ∈ gw := gw_of (tb_5 (List.mem_of_getElem? (i := 61) (by decide +kernel))) (by decide +kernel)
theorem d_Memory_makeDict_30 : decode prog_5_method_13_code 30 = .ok (.istore_n 2, 1) := by decide +kernel
theorem d_Memory_makeDict_31 : decode prog_5_method_13_code 31 = .ok (.iload_n 2, 1) := by decide +kernel
theorem d_Memory_makeDict_32 : decode prog_5_method_13_code 32 = .ok (.ifCond .ge 6, 3) := by decide +kernel
theorem d_Memory_makeDict_38 : decode prog_5_method_13_code 38 = .ok (.aload_n 0, 1) := by decide +kernel
theorem d_Memory_makeDict_39 : decode prog_5_method_13_code 39 = .ok (.getfield 39, 3) := by decide +kernel
theorem d_Memory_makeDict_42 : decode prog_5_method_13_code 42 = .ok (.iconst 1, 1) := by decide +kernel
theorem d_Memory_makeDict_43 : decode prog_5_method_13_code 43 = .ok (.invokevirtual 97, 3) := by decide +kernel
theorem d_Memory_makeDict_46 : decode prog_5_method_13_code 46 = .ok (.aload_n 0, 1) := by decide +kernel
theorem d_Memory_makeDict_47 : decode prog_5_method_13_code 47 = .ok (.getfield 39, 3) := by decide +kernel
theorem d_Memory_makeDict_50 : decode prog_5_method_13_code 50 = .ok (.bipush 6, 2) := by decide +kernel
theorem d_Memory_makeDict_52 : decode prog_5_method_13_code 52 = .ok (.iload_n 2, 1) := by decide +kernel
theorem d_Memory_makeDict_53 : decode prog_5_method_13_code 53 = .ok (.dconst 0, 1) := by decide +kernel
theorem d_Memory_makeDict_54 : decode prog_5_method_13_code 54 = .ok (.invokevirtual 101, 3) := by decide +kernel
theorem d_Memory_makeDict_57 : decode prog_5_method_13_code 57 = .ok (.ireturn, 1) := by decide +kernel
theorem d_Memory_makeDict_35 : decode prog_5_method_13_code 35 = .ok (.bipush 7, 2) := by decide +kernel
theorem d_Memory_makeDict_37 : decode prog_5_method_13_code 37 = .ok (.ireturn, 1) := by decide +kernel
set_option maxHeartbeats 4000000 in
set_option maxRecDepth 100000 in
theorem c_Memory_makeDict (l : Launch) (D : va_G) (T : Nat → ClassId) (ad : Nat → Nat) (S : CS)  (sz : Nat)  (hI : CIv S) : Met l ⟨"PageScribe$Memory", "makeDict", "()I"⟩ (wy ⟨"PageScribe$Memory", "makeDict", "()I"⟩ prog_5_method_13_code 3 (some .int)) ({ frames := 2, cells := 0, slots := 0, locals := 140 }) (va_Pc [.ref (ad 8)] (Pw D T (cW T ad S) sz E0)) (va_Qi (fun (r : Int32) (u : CS) => CIv u ∧ kcL S u ∧ kcP S u ∧ kcU S u ∧ kcW S u) (fun u t => Bw D T (va_A (cW T ad S) sz) (cW T ad u) t) (va_A (cW T ad S) sz)) 0 0 (va_A (cW T ad S) sz) := by
  refine j_met (y := ⟨"PageScribe$Memory", "makeDict", "()I"⟩) (b := prog_5_method_13_code) (n := 3) (ret := (some .int)) (av := [.ref (ad 8)]) (Qc := fun A => va_Qi (fun (r : Int32) (u : CS) => CIv u ∧ kcL S u ∧ kcP S u ∧ kcU S u ∧ kcW S u) (fun u t => Bw D T A (cW T ad u) t) A) (by decide +kernel) (Nat.le_of_ble_eq_true rfl) (fun p e s m args below meth c A ls F hr hlocks hnm hK hP hD hS hA hN hE hl => ?_)
  obtain ⟨hx, hb, hml, hown, hts⟩ := id F
  have hl : lv_has ls 3 [(0, .ref (ad 8))] := hl
  obtain ⟨i_vst, i_vc0, i_vc1, i_vc2, i_vc3, i_vv0, i_vv1, i_vv2, i_vv3, i_vg, i_wct, i_wln, i_sd0, i_sd1, i_sd2, i_sd3, i_rln, i_rtx, i_rpl, i_rtk, i_cnv, i_pts, i_cik, i_und⟩ := id hI
  refine lv_aload_n hx hb d_Memory_makeDict_0 rfl (lv_at hl 0 rfl) ?_
  refine va_get (D := D) (ci := 2) (v := .ref (ad 1)) (C := "PageScribe$Memory") (T := F_Memory) (N := 8) hx hb hts i_Memory hown hK hP 8 (ce_8 _ _ _) cl_2 0 (by decide) (hts _ k_1_129) (fun _ h9 => h9) rfl d_Memory_makeDict_1 ?_
  refine lv_iconst (v := 0) hx hb d_Memory_makeDict_4 (by decide) ?_
  refine jc_ci (w := (fun _ => S)) hK hP hD hS hA (va_runV (As := [.int 0]) (rest := []) F (c_Stack_numberDown l D T ad S (0 : Int32)  s.heap.size) (j_cV (k := 1) (C := "PageScribe$Stack") hts k_2_130 k_1_3 k_4_237 k_2_128 k_2_129 (by decide +kernel) ⟨Nat.le_of_ble_eq_true rfl, Nat.le_of_ble_eq_true rfl⟩) (j_preV (q0 := 1) (ci := 0) hK hP hD csc csc_all csc_nd cl_0 (ce_1 _ _ _) (fun _ _ _ _ h => h) (fun _ _ _ => trivial)) rfl rfl hl.1 rfl (lv_room (Nat.le_of_ble_eq_true rfl)) d_Memory_makeDict_5 ⟨Nat.le_of_ble_eq_true rfl, Nat.le_of_ble_eq_true rfl⟩) (fun rv1 u1 H locs hw1 hP hD hS => ?_)
  have hP : va_P D classes (cW T ad S) H := hP
  have hD : va_D A (cW T ad S) := hD
  have rrv1 := zt_rng rv1
  refine lv_istore_n (lv' := [(1, .int rv1), (0, .ref (ad 8))]) hx hb d_Memory_makeDict_8 rfl hl (by decide) rfl (fun ls hl => ?_)
  refine lv_iload_n hx hb d_Memory_makeDict_9 rfl (lv_at hl 0 rfl) ?_
  refine lv_iconst (v := 1) hx hb d_Memory_makeDict_10 (by decide) ?_
  refine lv_icmp_lt (tgt := 20) hx hb d_Memory_makeDict_11 (by decide) (fun c11_1 => ?_) (fun c11_1 => ?_)
  · have fc11_1 : rv1.toInt < 1 := zt_lt (show rv1.toInt = _ from rfl) tI_1 c11_1
    refine lv_iconst (v := 4) hx hb d_Memory_makeDict_20 (by decide) ?_
    exact j_iret F hr hlocks hK hS S ⟨⟨i_vst, i_vc0, i_vc1, i_vc2, i_vc3, i_vv0, i_vv1, i_vv2, i_vv3, i_vg, i_wct, i_wln, i_sd0, i_sd1, i_sd2, i_sd3, i_rln, i_rtx, i_rpl, i_rtk, i_cnv, i_pts, i_cik, i_und⟩, (kcL_r S), (kcP_r S), (kcU_r S), (kcW_r S)⟩ hP hD d_Memory_makeDict_21
  · have fc11_1 : 1 ≤ rv1.toInt := Int.not_lt.mp (zt_nlt (show rv1.toInt = _ from rfl) tI_1 c11_1)
    refine lv_iload_n hx hb d_Memory_makeDict_14 rfl (lv_at hl 0 rfl) ?_
    refine lv_bipush (v := 10) hx hb d_Memory_makeDict_15 (by decide) ?_
    refine lv_icmp_le (tgt := 22) hx hb d_Memory_makeDict_17 (by decide) (fun c17_1 => ?_) (fun c17_1 => ?_)
    · have fc17_1 : rv1.toInt ≤ 10 := zt_le (show rv1.toInt = _ from rfl) tI_10 c17_1
      refine lv_aload_n hx hb d_Memory_makeDict_22 rfl (lv_at hl 1 rfl) ?_
      refine va_get (D := D) (ci := 2) (v := .ref (ad 12)) (C := "PageScribe$Memory") (T := F_Memory) (N := 8) hx hb hts i_Memory hown hK hP 8 (ce_8 _ _ _) cl_2 1 (by decide) (hts _ k_1_130) (fun _ h9 => h9) rfl d_Memory_makeDict_23 ?_
      refine lv_iload_n hx hb d_Memory_makeDict_26 rfl (lv_at hl 0 rfl) ?_
      refine jc_ci (w := (fun u => u)) hK hP hD hS hA (va_runV (As := [.int rv1]) (rest := []) F (c_Store_newDict l D T ad S rv1  H.size ⟨i_vst, i_vc0, i_vc1, i_vc2, i_vc3, i_vv0, i_vv1, i_vv2, i_vv3, i_vg, i_wct, i_wln, i_sd0, i_sd1, i_sd2, i_sd3, i_rln, i_rtx, i_rpl, i_rtk, i_cnv, i_pts, i_cik, i_und⟩ (show 1 ≤ rv1.toInt ∧ rv1.toInt ≤ 10 by omega)) (j_cV (k := 1) (C := "PageScribe$Store") hts k_5_62 k_1_6 k_5_59 k_5_60 k_5_61 (by decide +kernel) ⟨Nat.le_of_ble_eq_true rfl, Nat.le_of_ble_eq_true rfl⟩) (j_preV (q0 := 12) (ci := 3) hK hP hD csc csc_all csc_nd cl_3 (ce_12 _ _ _) (fun _ _ _ _ h => h) (fun _ _ _ => trivial)) rfl rfl hl.1 rfl (lv_room (Nat.le_of_ble_eq_true rfl)) d_Memory_makeDict_27 ⟨Nat.le_of_ble_eq_true rfl, Nat.le_of_ble_eq_true rfl⟩) (fun rv2 S1 H locs hw2 hP hD hS => ?_)
      have hP : va_P D classes (cW T ad S1) H := hP
      have hD : va_D A (cW T ad S1) := hD
      obtain ⟨⟨i_vst, i_vc0, i_vc1, i_vc2, i_vc3, i_vv0, i_vv1, i_vv2, i_vv3, i_vg, i_wct, i_wln, i_sd0, i_sd1, i_sd2, i_sd3, i_rln, i_rtx, i_rpl, i_rtk, i_cnv, i_pts, i_cik, i_und⟩, kpcL_S1, kpcP_S1, kpcU_S1, kpcW_S1⟩ := hw2
      have kScL_S1 : kcL S S1 := kcL_t (show kcL S S from (kcL_r S)) kpcL_S1
      have kScP_S1 : kcP S S1 := kcP_t (show kcP S S from (kcP_r S)) kpcP_S1
      have kScU_S1 : kcU S S1 := kcU_t (show kcU S S from (kcU_r S)) kpcU_S1
      have kScW_S1 : kcW S S1 := kcW_t (show kcW S S from (kcW_r S)) kpcW_S1
      have nxr_length_S1 : (f_xr_length S1).toInt = (f_xr_length S).toInt := congrArg Int32.toInt kpcL_S1
      have nxr_length_S1 : (f_xr_length S1).toInt = (f_xr_length S).toInt := congrArg Int32.toInt kpcP_S1.1
      have nxr_place_S1 : (f_xr_place S1).toInt = (f_xr_place S).toInt := congrArg Int32.toInt kpcP_S1.2.1
      have nxe_underWay_S1 : (f_xe_underWay S1).toInt = (f_xe_underWay S).toInt := congrArg Int32.toInt kpcU_S1
      have nxp_columns_S1 : (f_xp_columns S1).toInt = (f_xp_columns S).toInt := congrArg Int32.toInt kpcW_S1.1
      have nxp_rows_S1 : (f_xp_rows S1).toInt = (f_xp_rows S).toInt := congrArg Int32.toInt kpcW_S1.2
      have rrv2 := zt_rng rv2
      refine lv_istore_n (lv' := [(2, .int rv2), (1, .int rv1), (0, .ref (ad 8))]) hx hb d_Memory_makeDict_30 rfl hl (by decide) rfl (fun ls hl => ?_)
      refine lv_iload_n hx hb d_Memory_makeDict_31 rfl (lv_at hl 0 rfl) ?_
      refine lv_if_ge (tgt := 38) hx hb d_Memory_makeDict_32 (by decide) (fun c32_1 => ?_) (fun c32_1 => ?_)
      · have fc32_1 : 0 ≤ rv2.toInt := zt_le tI_0 (show rv2.toInt = _ from rfl) c32_1
        refine lv_aload_n hx hb d_Memory_makeDict_38 rfl (lv_at hl 2 rfl) ?_
        refine va_get (D := D) (ci := 2) (v := .ref (ad 1)) (C := "PageScribe$Memory") (T := F_Memory) (N := 8) hx hb hts i_Memory hown hK hP 8 (ce_8 _ _ _) cl_2 0 (by decide) (hts _ k_1_129) (fun _ h9 => h9) rfl d_Memory_makeDict_39 ?_
        refine lv_iconst (v := 1) hx hb d_Memory_makeDict_42 (by decide) ?_
        refine jc_cv (w := (fun u => u)) hK hP hD hS hA (va_runU (As := [.int 1]) (rest := []) F (c_Row_drop l D T ad S1 (1 : Int32)  H.size ⟨i_vst, i_vc0, i_vc1, i_vc2, i_vc3, i_vv0, i_vv1, i_vv2, i_vv3, i_vg, i_wct, i_wln, i_sd0, i_sd1, i_sd2, i_sd3, i_rln, i_rtx, i_rpl, i_rtk, i_cnv, i_pts, i_cik, i_und⟩) (j_cU (k := 1) (C := "PageScribe$Stack") (owner := "PageScribe$Row") (x := ⟨"PageScribe$Stack", "drop", "(I)V"⟩) hts k_4_47 k_4_231 k_4_43 k_4_45 k_4_46 k_1_2 rfl (by decide +kernel) ⟨Nat.le_of_ble_eq_true rfl, Nat.le_of_ble_eq_true rfl⟩) (j_preV (q0 := 1) (ci := 0) hK hP hD csc csc_all csc_nd cl_0 (ce_1 _ _ _) (fun _ _ _ _ h => h) (fun _ _ _ => trivial)) rfl rfl hl.1 rfl (lv_room (Nat.le_of_ble_eq_true rfl)) d_Memory_makeDict_43 ⟨Nat.le_of_ble_eq_true rfl, Nat.le_of_ble_eq_true rfl⟩) (fun S2 H locs hw3 hP hD hS => ?_)
        have hP : va_P D classes (cW T ad S2) H := hP
        have hD : va_D A (cW T ad S2) := hD
        obtain ⟨⟨i_vst, i_vc0, i_vc1, i_vc2, i_vc3, i_vv0, i_vv1, i_vv2, i_vv3, i_vg, i_wct, i_wln, i_sd0, i_sd1, i_sd2, i_sd3, i_rln, i_rtx, i_rpl, i_rtk, i_cnv, i_pts, i_cik, i_und⟩, kpcL_S2, kpcP_S2, kpcU_S2, kpcW_S2⟩ := hw3
        have kScL_S2 : kcL S S2 := kcL_t (show kcL S S1 from kScL_S1) kpcL_S2
        have kScP_S2 : kcP S S2 := kcP_t (show kcP S S1 from kScP_S1) kpcP_S2
        have kScU_S2 : kcU S S2 := kcU_t (show kcU S S1 from kScU_S1) kpcU_S2
        have kScW_S2 : kcW S S2 := kcW_t (show kcW S S1 from kScW_S1) kpcW_S2
        have nxr_length_S2 : (f_xr_length S2).toInt = (f_xr_length S1).toInt := congrArg Int32.toInt kpcL_S2
        have nxr_length_S2 : (f_xr_length S2).toInt = (f_xr_length S1).toInt := congrArg Int32.toInt kpcP_S2.1
        have nxr_place_S2 : (f_xr_place S2).toInt = (f_xr_place S1).toInt := congrArg Int32.toInt kpcP_S2.2.1
        have nxe_underWay_S2 : (f_xe_underWay S2).toInt = (f_xe_underWay S1).toInt := congrArg Int32.toInt kpcU_S2
        have nxp_columns_S2 : (f_xp_columns S2).toInt = (f_xp_columns S1).toInt := congrArg Int32.toInt kpcW_S2.1
        have nxp_rows_S2 : (f_xp_rows S2).toInt = (f_xp_rows S1).toInt := congrArg Int32.toInt kpcW_S2.2
        refine lv_aload_n hx hb d_Memory_makeDict_46 rfl (lv_at hl 2 rfl) ?_
        refine va_get (D := D) (ci := 2) (v := .ref (ad 1)) (C := "PageScribe$Memory") (T := F_Memory) (N := 8) hx hb hts i_Memory hown hK hP 8 (ce_8 _ _ _) cl_2 0 (by decide) (hts _ k_1_129) (fun _ h9 => h9) rfl d_Memory_makeDict_47 ?_
        refine lv_bipush (v := 6) hx hb d_Memory_makeDict_50 (by decide) ?_
        refine lv_iload_n hx hb d_Memory_makeDict_52 rfl (lv_at hl 0 rfl) ?_
        refine lv_dconst0 hx hb d_Memory_makeDict_53 ?_
        have := tD_0
        refine jc_ci (w := (fun u => u)) hK hP hD hS hA (va_runU (As := [.int 6, .int rv2, .double 0]) (rest := []) F (c_Row_push l D T ad S2 (6 : Int32) rv2 0  H.size ⟨i_vst, i_vc0, i_vc1, i_vc2, i_vc3, i_vv0, i_vv1, i_vv2, i_vv3, i_vg, i_wct, i_wln, i_sd0, i_sd1, i_sd2, i_sd3, i_rln, i_rtx, i_rpl, i_rtk, i_cnv, i_pts, i_cik, i_und⟩ (show dB 0 by have := tI_6; omega)) (j_cU (k := 3) (C := "PageScribe$Stack") (owner := "PageScribe$Row") (x := ⟨"PageScribe$Stack", "push", "(IID)I"⟩) hts k_2_104 k_4_232 k_2_100 k_2_102 k_2_103 k_1_2 rfl (by decide +kernel) ⟨Nat.le_of_ble_eq_true rfl, Nat.le_of_ble_eq_true rfl⟩) (j_preV (q0 := 1) (ci := 0) hK hP hD csc csc_all csc_nd cl_0 (ce_1 _ _ _) (fun _ _ _ _ h => h) (fun _ _ _ => trivial)) rfl rfl hl.1 rfl (lv_room (Nat.le_of_ble_eq_true rfl)) d_Memory_makeDict_54 ⟨Nat.le_of_ble_eq_true rfl, Nat.le_of_ble_eq_true rfl⟩) (fun rv4 S3 H locs hw4 hP hD hS => ?_)
        have hP : va_P D classes (cW T ad S3) H := hP
        have hD : va_D A (cW T ad S3) := hD
        obtain ⟨⟨i_vst, i_vc0, i_vc1, i_vc2, i_vc3, i_vv0, i_vv1, i_vv2, i_vv3, i_vg, i_wct, i_wln, i_sd0, i_sd1, i_sd2, i_sd3, i_rln, i_rtx, i_rpl, i_rtk, i_cnv, i_pts, i_cik, i_und⟩, kpcL_S3, kpcP_S3, kpcU_S3, kpcW_S3⟩ := hw4
        have kScL_S3 : kcL S S3 := kcL_t (show kcL S S2 from kScL_S2) kpcL_S3
        have kScP_S3 : kcP S S3 := kcP_t (show kcP S S2 from kScP_S2) kpcP_S3
        have kScU_S3 : kcU S S3 := kcU_t (show kcU S S2 from kScU_S2) kpcU_S3
        have kScW_S3 : kcW S S3 := kcW_t (show kcW S S2 from kScW_S2) kpcW_S3
        have nxr_length_S3 : (f_xr_length S3).toInt = (f_xr_length S2).toInt := congrArg Int32.toInt kpcL_S3
        have nxr_length_S3 : (f_xr_length S3).toInt = (f_xr_length S2).toInt := congrArg Int32.toInt kpcP_S3.1
        have nxr_place_S3 : (f_xr_place S3).toInt = (f_xr_place S2).toInt := congrArg Int32.toInt kpcP_S3.2.1
        have nxe_underWay_S3 : (f_xe_underWay S3).toInt = (f_xe_underWay S2).toInt := congrArg Int32.toInt kpcU_S3
        have nxp_columns_S3 : (f_xp_columns S3).toInt = (f_xp_columns S2).toInt := congrArg Int32.toInt kpcW_S3.1
        have nxp_rows_S3 : (f_xp_rows S3).toInt = (f_xp_rows S2).toInt := congrArg Int32.toInt kpcW_S3.2
        have rrv4 := zt_rng rv4
        exact j_iret F hr hlocks hK hS S3 ⟨⟨i_vst, i_vc0, i_vc1, i_vc2, i_vc3, i_vv0, i_vv1, i_vv2, i_vv3, i_vg, i_wct, i_wln, i_sd0, i_sd1, i_sd2, i_sd3, i_rln, i_rtx, i_rpl, i_rtk, i_cnv, i_pts, i_cik, i_und⟩, kScL_S3, kScP_S3, kScU_S3, kScW_S3⟩ hP hD d_Memory_makeDict_57
      · have fc32_1 : rv2.toInt < 0 := Int.not_le.mp (zt_nle tI_0 (show rv2.toInt = _ from rfl) c32_1)
        refine lv_bipush (v := 7) hx hb d_Memory_makeDict_35 (by decide) ?_
        exact j_iret F hr hlocks hK hS S1 ⟨⟨i_vst, i_vc0, i_vc1, i_vc2, i_vc3, i_vv0, i_vv1, i_vv2, i_vv3, i_vg, i_wct, i_wln, i_sd0, i_sd1, i_sd2, i_sd3, i_rln, i_rtx, i_rpl, i_rtk, i_cnv, i_pts, i_cik, i_und⟩, kScL_S1, kScP_S1, kScU_S1, kScW_S1⟩ hP hD d_Memory_makeDict_37
    · have fc17_1 : 10 < rv1.toInt := Int.not_le.mp (zt_nle (show rv1.toInt = _ from rfl) tI_10 c17_1)
      refine lv_iconst (v := 4) hx hb d_Memory_makeDict_20 (by decide) ?_
      exact j_iret F hr hlocks hK hS S ⟨⟨i_vst, i_vc0, i_vc1, i_vc2, i_vc3, i_vv0, i_vv1, i_vv2, i_vv3, i_vg, i_wct, i_wln, i_sd0, i_sd1, i_sd2, i_sd3, i_rln, i_rtx, i_rpl, i_rtk, i_cnv, i_pts, i_cik, i_und⟩, (kcL_r S), (kcP_r S), (kcU_r S), (kcW_r S)⟩ hP hD d_Memory_makeDict_21
theorem d_Memory_beginScope_0 : decode prog_5_method_14_code 0 = .ok (.aload_n 0, 1) := by decide +kernel
theorem d_Memory_beginScope_1 : decode prog_5_method_14_code 1 = .ok (.getfield 22, 3) := by decide +kernel
theorem d_Memory_beginScope_4 : decode prog_5_method_14_code 4 = .ok (.ifCond .lt 12, 3) := by decide +kernel
theorem d_Memory_beginScope_16 : decode prog_5_method_14_code 16 = .ok (.bipush 7, 2) := by decide +kernel
theorem d_Memory_beginScope_18 : decode prog_5_method_14_code 18 = .ok (.ireturn, 1) := by decide +kernel
theorem d_Memory_beginScope_7 : decode prog_5_method_14_code 7 = .ok (.aload_n 0, 1) := by decide +kernel
theorem d_Memory_beginScope_8 : decode prog_5_method_14_code 8 = .ok (.getfield 22, 3) := by decide +kernel
theorem d_Memory_beginScope_11 : decode prog_5_method_14_code 11 = .ok (.bipush 6, 2) := by decide +kernel
theorem d_Memory_beginScope_13 : decode prog_5_method_14_code 13 = .ok (.if_icmp .lt 6, 3) := by decide +kernel
theorem d_Memory_beginScope_19 : decode prog_5_method_14_code 19 = .ok (.aload_n 0, 1) := by decide +kernel
theorem d_Memory_beginScope_20 : decode prog_5_method_14_code 20 = .ok (.getfield 18, 3) := by decide +kernel
theorem d_Memory_beginScope_23 : decode prog_5_method_14_code 23 = .ok (.aload_n 0, 1) := by decide +kernel
theorem d_Memory_beginScope_24 : decode prog_5_method_14_code 24 = .ok (.getfield 22, 3) := by decide +kernel
theorem d_Memory_beginScope_27 : decode prog_5_method_14_code 27 = .ok (.aload_n 0, 1) := by decide +kernel
theorem d_Memory_beginScope_28 : decode prog_5_method_14_code 28 = .ok (.getfield 39, 3) := by decide +kernel
theorem d_Memory_beginScope_31 : decode prog_5_method_14_code 31 = .ok (.iconst 0, 1) := by decide +kernel
theorem d_Memory_beginScope_32 : decode prog_5_method_14_code 32 = .ok (.invokevirtual 105, 3) := by decide +kernel
theorem d_Memory_beginScope_35 : decode prog_5_method_14_code 35 = .ok (.iastore, 1) := by decide +kernel
theorem d_Memory_beginScope_36 : decode prog_5_method_14_code 36 = .ok (.aload_n 0, 1) := by decide +kernel
theorem d_Memory_beginScope_37 : decode prog_5_method_14_code 37 = .ok (.dup, 1) := by decide +kernel
theorem d_Memory_beginScope_38 : decode prog_5_method_14_code 38 = .ok (.getfield 22, 3) := by decide +kernel
theorem d_Memory_beginScope_41 : decode prog_5_method_14_code 41 = .ok (.iconst 1, 1) := by decide +kernel
theorem d_Memory_beginScope_42 : decode prog_5_method_14_code 42 = .ok (.iadd, 1) := by decide +kernel
theorem d_Memory_beginScope_43 : decode prog_5_method_14_code 43 = .ok (.putfield 22, 3) := by decide +kernel
theorem d_Memory_beginScope_46 : decode prog_5_method_14_code 46 = .ok (.aload_n 0, 1) := by decide +kernel
theorem d_Memory_beginScope_47 : decode prog_5_method_14_code 47 = .ok (.getfield 39, 3) := by decide +kernel
theorem d_Memory_beginScope_50 : decode prog_5_method_14_code 50 = .ok (.iconst 1, 1) := by decide +kernel
theorem d_Memory_beginScope_51 : decode prog_5_method_14_code 51 = .ok (.invokevirtual 97, 3) := by decide +kernel
theorem d_Memory_beginScope_54 : decode prog_5_method_14_code 54 = .ok (.iconst 0, 1) := by decide +kernel
theorem d_Memory_beginScope_55 : decode prog_5_method_14_code 55 = .ok (.ireturn, 1) := by decide +kernel
set_option maxHeartbeats 4000000 in
set_option maxRecDepth 100000 in
theorem c_Memory_beginScope (l : Launch) (D : va_G) (T : Nat → ClassId) (ad : Nat → Nat) (S : CS)  (sz : Nat)  (hI : CIv S) : Met l ⟨"PageScribe$Memory", "beginScope", "()I"⟩ (wy ⟨"PageScribe$Memory", "beginScope", "()I"⟩ prog_5_method_14_code 1 (some .int)) ({ frames := 2, cells := 0, slots := 0, locals := 140 }) (va_Pc [.ref (ad 8)] (Pw D T (cW T ad S) sz E0)) (va_Qi (fun (r : Int32) (u : CS) => CIv u ∧ kcL S u ∧ kcP S u ∧ kcU S u ∧ kcW S u) (fun u t => Bw D T (va_A (cW T ad S) sz) (cW T ad u) t) (va_A (cW T ad S) sz)) 0 0 (va_A (cW T ad S) sz) := by
  refine j_met (y := ⟨"PageScribe$Memory", "beginScope", "()I"⟩) (b := prog_5_method_14_code) (n := 1) (ret := (some .int)) (av := [.ref (ad 8)]) (Qc := fun A => va_Qi (fun (r : Int32) (u : CS) => CIv u ∧ kcL S u ∧ kcP S u ∧ kcU S u ∧ kcW S u) (fun u t => Bw D T A (cW T ad u) t) A) (by decide +kernel) (Nat.le_of_ble_eq_true rfl) (fun p e s m args below meth c A ls F hr hlocks hnm hK hP hD hS hA hN hE hl => ?_)
  obtain ⟨hx, hb, hml, hown, hts⟩ := id F
  have hl : lv_has ls 1 [(0, .ref (ad 8))] := hl
  obtain ⟨i_vst, i_vc0, i_vc1, i_vc2, i_vc3, i_vv0, i_vv1, i_vv2, i_vv3, i_vg, i_wct, i_wln, i_sd0, i_sd1, i_sd2, i_sd3, i_rln, i_rtx, i_rpl, i_rtk, i_cnv, i_pts, i_cik, i_und⟩ := id hI
  refine lv_aload_n hx hb d_Memory_beginScope_0 rfl (lv_at hl 0 rfl) ?_
  refine va_get (D := D) (ci := 2) (v := .int (f_xm_scopeCount S)) (C := "PageScribe$Memory") (T := F_Memory) (N := 8) hx hb hts i_Memory hown hK hP 8 (ce_8 _ _ _) cl_2 3 (by decide) (hts _ k_1_134) (fun _ h9 => h9) rfl d_Memory_beginScope_1 ?_
  refine lv_if_lt (tgt := 16) hx hb d_Memory_beginScope_4 (by decide) (fun c4_1 => ?_) (fun c4_1 => ?_)
  · have fc4_1 : (f_xm_scopeCount S).toInt < 0 := zt_lt (show (f_xm_scopeCount S).toInt = _ from rfl) tI_0 c4_1
    refine lv_bipush (v := 7) hx hb d_Memory_beginScope_16 (by decide) ?_
    exact j_iret F hr hlocks hK hS S ⟨⟨i_vst, i_vc0, i_vc1, i_vc2, i_vc3, i_vv0, i_vv1, i_vv2, i_vv3, i_vg, i_wct, i_wln, i_sd0, i_sd1, i_sd2, i_sd3, i_rln, i_rtx, i_rpl, i_rtk, i_cnv, i_pts, i_cik, i_und⟩, (kcL_r S), (kcP_r S), (kcU_r S), (kcW_r S)⟩ hP hD d_Memory_beginScope_18
  · have fc4_1 : 0 ≤ (f_xm_scopeCount S).toInt := Int.not_lt.mp (zt_nlt (show (f_xm_scopeCount S).toInt = _ from rfl) tI_0 c4_1)
    refine lv_aload_n hx hb d_Memory_beginScope_7 rfl (lv_at hl 0 rfl) ?_
    refine va_get (D := D) (ci := 2) (v := .int (f_xm_scopeCount S)) (C := "PageScribe$Memory") (T := F_Memory) (N := 8) hx hb hts i_Memory hown hK hP 8 (ce_8 _ _ _) cl_2 3 (by decide) (hts _ k_1_134) (fun _ h9 => h9) rfl d_Memory_beginScope_8 ?_
    refine lv_bipush (v := 6) hx hb d_Memory_beginScope_11 (by decide) ?_
    refine lv_icmp_lt (tgt := 19) hx hb d_Memory_beginScope_13 (by decide) (fun c13_1 => ?_) (fun c13_1 => ?_)
    · have fc13_1 : (f_xm_scopeCount S).toInt < 6 := zt_lt (show (f_xm_scopeCount S).toInt = _ from rfl) tI_6 c13_1
      refine lv_aload_n hx hb d_Memory_beginScope_19 rfl (lv_at hl 0 rfl) ?_
      refine va_get (D := D) (ci := 2) (v := .ref (ad 9)) (C := "PageScribe$Memory") (T := F_Memory) (N := 8) hx hb hts i_Memory hown hK hP 8 (ce_8 _ _ _) cl_2 2 (by decide) (hts _ k_1_133) (fun _ h9 => h9) rfl d_Memory_beginScope_20 ?_
      refine lv_aload_n hx hb d_Memory_beginScope_23 rfl (lv_at hl 0 rfl) ?_
      refine va_get (D := D) (ci := 2) (v := .int (f_xm_scopeCount S)) (C := "PageScribe$Memory") (T := F_Memory) (N := 8) hx hb hts i_Memory hown hK hP 8 (ce_8 _ _ _) cl_2 3 (by decide) (hts _ k_1_134) (fun _ h9 => h9) rfl d_Memory_beginScope_24 ?_
      refine lv_aload_n hx hb d_Memory_beginScope_27 rfl (lv_at hl 0 rfl) ?_
      refine va_get (D := D) (ci := 2) (v := .ref (ad 1)) (C := "PageScribe$Memory") (T := F_Memory) (N := 8) hx hb hts i_Memory hown hK hP 8 (ce_8 _ _ _) cl_2 0 (by decide) (hts _ k_1_129) (fun _ h9 => h9) rfl d_Memory_beginScope_28 ?_
      refine lv_iconst (v := 0) hx hb d_Memory_beginScope_31 (by decide) ?_
      refine jc_ci (w := (fun _ => S)) hK hP hD hS hA (va_runV (As := [.int 0]) (rest := [.int (f_xm_scopeCount S), .ref (ad 9)]) F (c_Stack_numberDown l D T ad S (0 : Int32)  s.heap.size) (j_cV (k := 1) (C := "PageScribe$Stack") hts k_2_130 k_1_3 k_4_237 k_2_128 k_2_129 (by decide +kernel) ⟨Nat.le_of_ble_eq_true rfl, Nat.le_of_ble_eq_true rfl⟩) (j_preV (q0 := 1) (ci := 0) hK hP hD csc csc_all csc_nd cl_0 (ce_1 _ _ _) (fun _ _ _ _ h => h) (fun _ _ _ => trivial)) rfl rfl hl.1 rfl (lv_room (Nat.le_of_ble_eq_true rfl)) d_Memory_beginScope_32 ⟨Nat.le_of_ble_eq_true rfl, Nat.le_of_ble_eq_true rfl⟩) (fun rv1 u1 H locs hw1 hP hD hS => ?_)
      have hP : va_P D classes (cW T ad S) H := hP
      have hD : va_D A (cW T ad S) := hD
      have rrv1 := zt_rng rv1
      refine va_iast hx hb hK hP hD hS 9 0 (ce_9 _ _ _) rfl (zt_in (show (f_xm_scopeCount S).toInt = _ from rfl) (by omega) (by omega)) d_Memory_beginScope_35 (fun H locs hP hD hS => ?_)
      rw [cs_xm_scopes] at hP hD
      rw [zt_ix (show (f_xm_scopeCount S).toInt = _ from rfl)] at hP hD
      have hP : va_P D classes (cW T ad ((S.1, ((upd (a_xm_scopes S) ((f_xm_scopeCount S).toInt.toNat) rv1), (f_xm_scopeCount S), (a_xm_keptNumbers S), (f_xm_openSaves S), (f_xm_savesMade S)), S.2.2.1, S.2.2.2.1, S.2.2.2.2.1, S.2.2.2.2.2.1, S.2.2.2.2.2.2.1, S.2.2.2.2.2.2.2.1, S.2.2.2.2.2.2.2.2) : CS)) H := hP
      have hD : va_D A (cW T ad ((S.1, ((upd (a_xm_scopes S) ((f_xm_scopeCount S).toInt.toNat) rv1), (f_xm_scopeCount S), (a_xm_keptNumbers S), (f_xm_openSaves S), (f_xm_savesMade S)), S.2.2.1, S.2.2.2.1, S.2.2.2.2.1, S.2.2.2.2.2.1, S.2.2.2.2.2.2.1, S.2.2.2.2.2.2.2.1, S.2.2.2.2.2.2.2.2) : CS)) := hD
      refine lv_aload_n hx hb d_Memory_beginScope_36 rfl (lv_at hl 0 rfl) ?_
      refine lv_dup hx hb d_Memory_beginScope_37 rfl ?_
      refine va_get (D := D) (ci := 2) (v := .int (f_xm_scopeCount S)) (C := "PageScribe$Memory") (T := F_Memory) (N := 8) hx hb hts i_Memory hown hK hP 8 (ce_8 _ _ _) cl_2 3 (by decide) (hts _ k_1_134) (fun _ h9 => h9) rfl d_Memory_beginScope_38 ?_
      refine lv_iconst (v := 1) hx hb d_Memory_beginScope_41 (by decide) ?_
      refine lv_iadd hx hb d_Memory_beginScope_42 ?_
      refine lv_topi (fun x1 ex1 => ?_)
      have rx1 := zt_rng x1
      refine va_put (D := D) (ci := 2) (v := .int x1) (ty := .int) (C := "PageScribe$Memory") (T := F_Memory) (N := 8) hx hb hts i_Memory t_Memory t_Memory_ok n_Memory hown hK hP hD hS 8 (ce_8 _ _ _) cl_2 3 (by decide) (hts _ k_1_134) (fun _ h9 => h9) rfl (by decide +kernel) rfl rfl (Nat.le_of_ble_eq_true rfl) d_Memory_beginScope_43 (fun H locs hP hD hS => ?_)
      rw [cp_xm_scopeCount] at hP hD
      have hP : va_P D classes (cW T ad ((S.1, ((upd (a_xm_scopes S) ((f_xm_scopeCount S).toInt.toNat) rv1), x1, (a_xm_keptNumbers S), (f_xm_openSaves S), (f_xm_savesMade S)), S.2.2.1, S.2.2.2.1, S.2.2.2.2.1, S.2.2.2.2.2.1, S.2.2.2.2.2.2.1, S.2.2.2.2.2.2.2.1, S.2.2.2.2.2.2.2.2) : CS)) H := hP
      have hD : va_D A (cW T ad ((S.1, ((upd (a_xm_scopes S) ((f_xm_scopeCount S).toInt.toNat) rv1), x1, (a_xm_keptNumbers S), (f_xm_openSaves S), (f_xm_savesMade S)), S.2.2.1, S.2.2.2.1, S.2.2.2.2.1, S.2.2.2.2.2.1, S.2.2.2.2.2.2.1, S.2.2.2.2.2.2.2.1, S.2.2.2.2.2.2.2.2) : CS)) := hD
      refine lv_aload_n hx hb d_Memory_beginScope_46 rfl (lv_at hl 0 rfl) ?_
      refine va_get (D := D) (ci := 2) (v := .ref (ad 1)) (C := "PageScribe$Memory") (T := F_Memory) (N := 8) hx hb hts i_Memory hown hK hP 8 (ce_8 _ _ _) cl_2 0 (by decide) (hts _ k_1_129) (fun _ h9 => h9) rfl d_Memory_beginScope_47 ?_
      refine lv_iconst (v := 1) hx hb d_Memory_beginScope_50 (by decide) ?_
      refine jc_cv (w := (fun u => u)) hK hP hD hS hA (va_runU (As := [.int 1]) (rest := []) F (c_Row_drop l D T ad ((S.1, ((upd (a_xm_scopes S) ((f_xm_scopeCount S).toInt.toNat) rv1), x1, (a_xm_keptNumbers S), (f_xm_openSaves S), (f_xm_savesMade S)), S.2.2.1, S.2.2.2.1, S.2.2.2.2.1, S.2.2.2.2.2.1, S.2.2.2.2.2.2.1, S.2.2.2.2.2.2.2.1, S.2.2.2.2.2.2.2.2) : CS) (1 : Int32)  H.size ⟨i_vst, i_vc0, i_vc1, i_vc2, i_vc3, i_vv0, i_vv1, i_vv2, i_vv3, i_vg, i_wct, i_wln, i_sd0, i_sd1, i_sd2, i_sd3, i_rln, i_rtx, i_rpl, i_rtk, i_cnv, i_pts, i_cik, i_und⟩) (j_cU (k := 1) (C := "PageScribe$Stack") (owner := "PageScribe$Row") (x := ⟨"PageScribe$Stack", "drop", "(I)V"⟩) hts k_4_47 k_4_231 k_4_43 k_4_45 k_4_46 k_1_2 rfl (by decide +kernel) ⟨Nat.le_of_ble_eq_true rfl, Nat.le_of_ble_eq_true rfl⟩) (j_preV (q0 := 1) (ci := 0) hK hP hD csc csc_all csc_nd cl_0 (ce_1 _ _ _) (fun _ _ _ _ h => h) (fun _ _ _ => trivial)) rfl rfl hl.1 rfl (lv_room (Nat.le_of_ble_eq_true rfl)) d_Memory_beginScope_51 ⟨Nat.le_of_ble_eq_true rfl, Nat.le_of_ble_eq_true rfl⟩) (fun S1 H locs hw2 hP hD hS => ?_)
      have hP : va_P D classes (cW T ad S1) H := hP
      have hD : va_D A (cW T ad S1) := hD
      obtain ⟨⟨i_vst, i_vc0, i_vc1, i_vc2, i_vc3, i_vv0, i_vv1, i_vv2, i_vv3, i_vg, i_wct, i_wln, i_sd0, i_sd1, i_sd2, i_sd3, i_rln, i_rtx, i_rpl, i_rtk, i_cnv, i_pts, i_cik, i_und⟩, kpcL_S1, kpcP_S1, kpcU_S1, kpcW_S1⟩ := hw2
      have kScL_S1 : kcL S S1 := kcL_t (show kcL S ((S.1, ((upd (a_xm_scopes S) ((f_xm_scopeCount S).toInt.toNat) rv1), x1, (a_xm_keptNumbers S), (f_xm_openSaves S), (f_xm_savesMade S)), S.2.2.1, S.2.2.2.1, S.2.2.2.2.1, S.2.2.2.2.2.1, S.2.2.2.2.2.2.1, S.2.2.2.2.2.2.2.1, S.2.2.2.2.2.2.2.2) : CS) from (kcL_r S)) kpcL_S1
      have kScP_S1 : kcP S S1 := kcP_t (show kcP S ((S.1, ((upd (a_xm_scopes S) ((f_xm_scopeCount S).toInt.toNat) rv1), x1, (a_xm_keptNumbers S), (f_xm_openSaves S), (f_xm_savesMade S)), S.2.2.1, S.2.2.2.1, S.2.2.2.2.1, S.2.2.2.2.2.1, S.2.2.2.2.2.2.1, S.2.2.2.2.2.2.2.1, S.2.2.2.2.2.2.2.2) : CS) from (kcP_r S)) kpcP_S1
      have kScU_S1 : kcU S S1 := kcU_t (show kcU S ((S.1, ((upd (a_xm_scopes S) ((f_xm_scopeCount S).toInt.toNat) rv1), x1, (a_xm_keptNumbers S), (f_xm_openSaves S), (f_xm_savesMade S)), S.2.2.1, S.2.2.2.1, S.2.2.2.2.1, S.2.2.2.2.2.1, S.2.2.2.2.2.2.1, S.2.2.2.2.2.2.2.1, S.2.2.2.2.2.2.2.2) : CS) from (kcU_r S)) kpcU_S1
      have kScW_S1 : kcW S S1 := kcW_t (show kcW S ((S.1, ((upd (a_xm_scopes S) ((f_xm_scopeCount S).toInt.toNat) rv1), x1, (a_xm_keptNumbers S), (f_xm_openSaves S), (f_xm_savesMade S)), S.2.2.1, S.2.2.2.1, S.2.2.2.2.1, S.2.2.2.2.2.1, S.2.2.2.2.2.2.1, S.2.2.2.2.2.2.2.1, S.2.2.2.2.2.2.2.2) : CS) from (kcW_r S)) kpcW_S1
      have nxr_length_S1 : (f_xr_length S1).toInt = (f_xr_length S).toInt := congrArg Int32.toInt kpcL_S1
      have nxr_length_S1 : (f_xr_length S1).toInt = (f_xr_length S).toInt := congrArg Int32.toInt kpcP_S1.1
      have nxr_place_S1 : (f_xr_place S1).toInt = (f_xr_place S).toInt := congrArg Int32.toInt kpcP_S1.2.1
      have nxe_underWay_S1 : (f_xe_underWay S1).toInt = (f_xe_underWay S).toInt := congrArg Int32.toInt kpcU_S1
      have nxp_columns_S1 : (f_xp_columns S1).toInt = (f_xp_columns S).toInt := congrArg Int32.toInt kpcW_S1.1
      have nxp_rows_S1 : (f_xp_rows S1).toInt = (f_xp_rows S).toInt := congrArg Int32.toInt kpcW_S1.2
      refine lv_iconst (v := 0) hx hb d_Memory_beginScope_54 (by decide) ?_
      exact j_iret F hr hlocks hK hS S1 ⟨⟨i_vst, i_vc0, i_vc1, i_vc2, i_vc3, i_vv0, i_vv1, i_vv2, i_vv3, i_vg, i_wct, i_wln, i_sd0, i_sd1, i_sd2, i_sd3, i_rln, i_rtx, i_rpl, i_rtk, i_cnv, i_pts, i_cik, i_und⟩, kScL_S1, kScP_S1, kScU_S1, kScW_S1⟩ hP hD d_Memory_beginScope_55
    · have fc13_1 : 6 ≤ (f_xm_scopeCount S).toInt := Int.not_lt.mp (zt_nlt (show (f_xm_scopeCount S).toInt = _ from rfl) tI_6 c13_1)
      refine lv_bipush (v := 7) hx hb d_Memory_beginScope_16 (by decide) ?_
      exact j_iret F hr hlocks hK hS S ⟨⟨i_vst, i_vc0, i_vc1, i_vc2, i_vc3, i_vv0, i_vv1, i_vv2, i_vv3, i_vg, i_wct, i_wln, i_sd0, i_sd1, i_sd2, i_sd3, i_rln, i_rtx, i_rpl, i_rtk, i_cnv, i_pts, i_cik, i_und⟩, (kcL_r S), (kcP_r S), (kcU_r S), (kcW_r S)⟩ hP hD d_Memory_beginScope_18
theorem d_Memory_endScope_0 : decode prog_5_method_15_code 0 = .ok (.aload_n 0, 1) := by decide +kernel
theorem d_Memory_endScope_1 : decode prog_5_method_15_code 1 = .ok (.getfield 22, 3) := by decide +kernel
theorem d_Memory_endScope_4 : decode prog_5_method_15_code 4 = .ok (.iconst 1, 1) := by decide +kernel
theorem d_Memory_endScope_5 : decode prog_5_method_15_code 5 = .ok (.if_icmp .gt 6, 3) := by decide +kernel
theorem d_Memory_endScope_11 : decode prog_5_method_15_code 11 = .ok (.aload_n 0, 1) := by decide +kernel
theorem d_Memory_endScope_12 : decode prog_5_method_15_code 12 = .ok (.dup, 1) := by decide +kernel
theorem d_Memory_endScope_13 : decode prog_5_method_15_code 13 = .ok (.getfield 22, 3) := by decide +kernel
theorem d_Memory_endScope_16 : decode prog_5_method_15_code 16 = .ok (.iconst 1, 1) := by decide +kernel
theorem d_Memory_endScope_17 : decode prog_5_method_15_code 17 = .ok (.isub, 1) := by decide +kernel
theorem d_Memory_endScope_18 : decode prog_5_method_15_code 18 = .ok (.putfield 22, 3) := by decide +kernel
theorem d_Memory_endScope_21 : decode prog_5_method_15_code 21 = .ok (.iconst 0, 1) := by decide +kernel
theorem d_Memory_endScope_22 : decode prog_5_method_15_code 22 = .ok (.ireturn, 1) := by decide +kernel
theorem d_Memory_endScope_8 : decode prog_5_method_15_code 8 = .ok (.bipush 9, 2) := by decide +kernel
theorem d_Memory_endScope_10 : decode prog_5_method_15_code 10 = .ok (.ireturn, 1) := by decide +kernel
set_option maxHeartbeats 4000000 in
set_option maxRecDepth 100000 in
theorem c_Memory_endScope (l : Launch) (D : va_G) (T : Nat → ClassId) (ad : Nat → Nat) (S : CS)  (sz : Nat)  (hI : CIv S) : Met l ⟨"PageScribe$Memory", "endScope", "()I"⟩ (wy ⟨"PageScribe$Memory", "endScope", "()I"⟩ prog_5_method_15_code 1 (some .int)) ({ frames := 0, cells := 0, slots := 0, locals := 0 }) (va_Pc [.ref (ad 8)] (Pw D T (cW T ad S) sz E0)) (va_Qi (fun (r : Int32) (u : CS) => CIv u ∧ kcL S u ∧ kcP S u ∧ kcU S u ∧ kcW S u) (fun u t => Bw D T (va_A (cW T ad S) sz) (cW T ad u) t) (va_A (cW T ad S) sz)) 0 0 (va_A (cW T ad S) sz) := by
  refine j_met (y := ⟨"PageScribe$Memory", "endScope", "()I"⟩) (b := prog_5_method_15_code) (n := 1) (ret := (some .int)) (av := [.ref (ad 8)]) (Qc := fun A => va_Qi (fun (r : Int32) (u : CS) => CIv u ∧ kcL S u ∧ kcP S u ∧ kcU S u ∧ kcW S u) (fun u t => Bw D T A (cW T ad u) t) A) (by decide +kernel) (Nat.le_of_ble_eq_true rfl) (fun p e s m args below meth c A ls F hr hlocks hnm hK hP hD hS hA hN hE hl => ?_)
  obtain ⟨hx, hb, hml, hown, hts⟩ := id F
  have hl : lv_has ls 1 [(0, .ref (ad 8))] := hl
  obtain ⟨i_vst, i_vc0, i_vc1, i_vc2, i_vc3, i_vv0, i_vv1, i_vv2, i_vv3, i_vg, i_wct, i_wln, i_sd0, i_sd1, i_sd2, i_sd3, i_rln, i_rtx, i_rpl, i_rtk, i_cnv, i_pts, i_cik, i_und⟩ := id hI
  refine lv_aload_n hx hb d_Memory_endScope_0 rfl (lv_at hl 0 rfl) ?_
  refine va_get (D := D) (ci := 2) (v := .int (f_xm_scopeCount S)) (C := "PageScribe$Memory") (T := F_Memory) (N := 8) hx hb hts i_Memory hown hK hP 8 (ce_8 _ _ _) cl_2 3 (by decide) (hts _ k_1_134) (fun _ h9 => h9) rfl d_Memory_endScope_1 ?_
  refine lv_iconst (v := 1) hx hb d_Memory_endScope_4 (by decide) ?_
  refine lv_icmp_gt (tgt := 11) hx hb d_Memory_endScope_5 (by decide) (fun c5_1 => ?_) (fun c5_1 => ?_)
  · have fc5_1 : 1 < (f_xm_scopeCount S).toInt := zt_lt tI_1 (show (f_xm_scopeCount S).toInt = _ from rfl) c5_1
    refine lv_aload_n hx hb d_Memory_endScope_11 rfl (lv_at hl 0 rfl) ?_
    refine lv_dup hx hb d_Memory_endScope_12 rfl ?_
    refine va_get (D := D) (ci := 2) (v := .int (f_xm_scopeCount S)) (C := "PageScribe$Memory") (T := F_Memory) (N := 8) hx hb hts i_Memory hown hK hP 8 (ce_8 _ _ _) cl_2 3 (by decide) (hts _ k_1_134) (fun _ h9 => h9) rfl d_Memory_endScope_13 ?_
    refine lv_iconst (v := 1) hx hb d_Memory_endScope_16 (by decide) ?_
    refine lv_isub hx hb d_Memory_endScope_17 ?_
    refine lv_topi (fun x1 ex1 => ?_)
    have rx1 := zt_rng x1
    refine va_put (D := D) (ci := 2) (v := .int x1) (ty := .int) (C := "PageScribe$Memory") (T := F_Memory) (N := 8) hx hb hts i_Memory t_Memory t_Memory_ok n_Memory hown hK hP hD hS 8 (ce_8 _ _ _) cl_2 3 (by decide) (hts _ k_1_134) (fun _ h9 => h9) rfl (by decide +kernel) rfl rfl (Nat.le_of_ble_eq_true rfl) d_Memory_endScope_18 (fun H locs hP hD hS => ?_)
    rw [cp_xm_scopeCount] at hP hD
    have hP : va_P D classes (cW T ad ((S.1, ((a_xm_scopes S), x1, (a_xm_keptNumbers S), (f_xm_openSaves S), (f_xm_savesMade S)), S.2.2.1, S.2.2.2.1, S.2.2.2.2.1, S.2.2.2.2.2.1, S.2.2.2.2.2.2.1, S.2.2.2.2.2.2.2.1, S.2.2.2.2.2.2.2.2) : CS)) H := hP
    have hD : va_D A (cW T ad ((S.1, ((a_xm_scopes S), x1, (a_xm_keptNumbers S), (f_xm_openSaves S), (f_xm_savesMade S)), S.2.2.1, S.2.2.2.1, S.2.2.2.2.1, S.2.2.2.2.2.1, S.2.2.2.2.2.2.1, S.2.2.2.2.2.2.2.1, S.2.2.2.2.2.2.2.2) : CS)) := hD
    refine lv_iconst (v := 0) hx hb d_Memory_endScope_21 (by decide) ?_
    exact j_iret F hr hlocks hK hS ((S.1, ((a_xm_scopes S), x1, (a_xm_keptNumbers S), (f_xm_openSaves S), (f_xm_savesMade S)), S.2.2.1, S.2.2.2.1, S.2.2.2.2.1, S.2.2.2.2.2.1, S.2.2.2.2.2.2.1, S.2.2.2.2.2.2.2.1, S.2.2.2.2.2.2.2.2) : CS) ⟨⟨i_vst, i_vc0, i_vc1, i_vc2, i_vc3, i_vv0, i_vv1, i_vv2, i_vv3, i_vg, i_wct, i_wln, i_sd0, i_sd1, i_sd2, i_sd3, i_rln, i_rtx, i_rpl, i_rtk, i_cnv, i_pts, i_cik, i_und⟩, (kcL_r S), (kcP_r S), (kcU_r S), (kcW_r S)⟩ hP hD d_Memory_endScope_22
  · have fc5_1 : (f_xm_scopeCount S).toInt ≤ 1 := Int.not_lt.mp (zt_nlt tI_1 (show (f_xm_scopeCount S).toInt = _ from rfl) c5_1)
    refine lv_bipush (v := 9) hx hb d_Memory_endScope_8 (by decide) ?_
    exact j_iret F hr hlocks hK hS S ⟨⟨i_vst, i_vc0, i_vc1, i_vc2, i_vc3, i_vv0, i_vv1, i_vv2, i_vv3, i_vg, i_wct, i_wln, i_sd0, i_sd1, i_sd2, i_sd3, i_rln, i_rtx, i_rpl, i_rtk, i_cnv, i_pts, i_cik, i_und⟩, (kcL_r S), (kcP_r S), (kcU_r S), (kcW_r S)⟩ hP hD d_Memory_endScope_10
theorem d_Memory_define_0 : decode prog_5_method_17_code 0 = .ok (.aload_n 0, 1) := by decide +kernel
theorem d_Memory_define_1 : decode prog_5_method_17_code 1 = .ok (.getfield 12, 3) := by decide +kernel
theorem d_Memory_define_4 : decode prog_5_method_17_code 4 = .ok (.aload_n 0, 1) := by decide +kernel
theorem d_Memory_define_5 : decode prog_5_method_17_code 5 = .ok (.aload_n 0, 1) := by decide +kernel
theorem d_Memory_define_6 : decode prog_5_method_17_code 6 = .ok (.getfield 22, 3) := by decide +kernel
theorem d_Memory_define_9 : decode prog_5_method_17_code 9 = .ok (.iconst 1, 1) := by decide +kernel
theorem d_Memory_define_10 : decode prog_5_method_17_code 10 = .ok (.isub, 1) := by decide +kernel
theorem d_Memory_define_11 : decode prog_5_method_17_code 11 = .ok (.invokevirtual 176, 3) := by decide +kernel
theorem d_Memory_define_14 : decode prog_5_method_17_code 14 = .ok (.aload_n 0, 1) := by decide +kernel
theorem d_Memory_define_15 : decode prog_5_method_17_code 15 = .ok (.getfield 39, 3) := by decide +kernel
theorem d_Memory_define_18 : decode prog_5_method_17_code 18 = .ok (.iconst 1, 1) := by decide +kernel
theorem d_Memory_define_19 : decode prog_5_method_17_code 19 = .ok (.invokevirtual 105, 3) := by decide +kernel
theorem d_Memory_define_22 : decode prog_5_method_17_code 22 = .ok (.aload_n 0, 1) := by decide +kernel
theorem d_Memory_define_23 : decode prog_5_method_17_code 23 = .ok (.getfield 39, 3) := by decide +kernel
theorem d_Memory_define_26 : decode prog_5_method_17_code 26 = .ok (.aload_n 0, 1) := by decide +kernel
theorem d_Memory_define_27 : decode prog_5_method_17_code 27 = .ok (.getfield 39, 3) := by decide +kernel
theorem d_Memory_define_30 : decode prog_5_method_17_code 30 = .ok (.getfield 90, 3) := by decide +kernel
theorem d_Memory_define_33 : decode prog_5_method_17_code 33 = .ok (.iconst 1, 1) := by decide +kernel
theorem d_Memory_define_34 : decode prog_5_method_17_code 34 = .ok (.isub, 1) := by decide +kernel
theorem d_Memory_define_35 : decode prog_5_method_17_code 35 = .ok (.invokevirtual 154, 3) := by decide +kernel
theorem d_Memory_define_38 : decode prog_5_method_17_code 38 = .ok (.istore_n 1, 1) := by decide +kernel
theorem d_Memory_define_39 : decode prog_5_method_17_code 39 = .ok (.iload_n 1, 1) := by decide +kernel
theorem d_Memory_define_40 : decode prog_5_method_17_code 40 = .ok (.ifCond .ne 11, 3) := by decide +kernel
theorem d_Memory_define_51 : decode prog_5_method_17_code 51 = .ok (.iload_n 1, 1) := by decide +kernel
theorem d_Memory_define_52 : decode prog_5_method_17_code 52 = .ok (.ireturn, 1) := by decide +kernel
theorem d_Memory_define_43 : decode prog_5_method_17_code 43 = .ok (.aload_n 0, 1) := by decide +kernel
theorem d_Memory_define_44 : decode prog_5_method_17_code 44 = .ok (.getfield 39, 3) := by decide +kernel
theorem d_Memory_define_47 : decode prog_5_method_17_code 47 = .ok (.iconst 2, 1) := by decide +kernel
theorem d_Memory_define_48 : decode prog_5_method_17_code 48 = .ok (.invokevirtual 97, 3) := by decide +kernel
set_option maxHeartbeats 4000000 in
set_option maxRecDepth 100000 in
theorem c_Memory_define (l : Launch) (D : va_G) (T : Nat → ClassId) (ad : Nat → Nat) (S : CS)  (sz : Nat)  (hI : CIv S) : Met l ⟨"PageScribe$Memory", "define", "()I"⟩ (wy ⟨"PageScribe$Memory", "define", "()I"⟩ prog_5_method_17_code 2 (some .int)) ({ frames := 3, cells := 0, slots := 0, locals := 210 }) (va_Pc [.ref (ad 8)] (Pw D T (cW T ad S) sz E0)) (va_Qi (fun (r : Int32) (u : CS) => CIv u ∧ kcL S u ∧ kcP S u ∧ kcU S u ∧ kcW S u) (fun u t => Bw D T (va_A (cW T ad S) sz) (cW T ad u) t) (va_A (cW T ad S) sz)) 0 0 (va_A (cW T ad S) sz) := by
  refine j_met (y := ⟨"PageScribe$Memory", "define", "()I"⟩) (b := prog_5_method_17_code) (n := 2) (ret := (some .int)) (av := [.ref (ad 8)]) (Qc := fun A => va_Qi (fun (r : Int32) (u : CS) => CIv u ∧ kcL S u ∧ kcP S u ∧ kcU S u ∧ kcW S u) (fun u t => Bw D T A (cW T ad u) t) A) (by decide +kernel) (Nat.le_of_ble_eq_true rfl) (fun p e s m args below meth c A ls F hr hlocks hnm hK hP hD hS hA hN hE hl => ?_)
  obtain ⟨hx, hb, hml, hown, hts⟩ := id F
  have hl : lv_has ls 2 [(0, .ref (ad 8))] := hl
  obtain ⟨i_vst, i_vc0, i_vc1, i_vc2, i_vc3, i_vv0, i_vv1, i_vv2, i_vv3, i_vg, i_wct, i_wln, i_sd0, i_sd1, i_sd2, i_sd3, i_rln, i_rtx, i_rpl, i_rtk, i_cnv, i_pts, i_cik, i_und⟩ := id hI
  refine lv_aload_n hx hb d_Memory_define_0 rfl (lv_at hl 0 rfl) ?_
  refine va_get (D := D) (ci := 2) (v := .ref (ad 12)) (C := "PageScribe$Memory") (T := F_Memory) (N := 8) hx hb hts i_Memory hown hK hP 8 (ce_8 _ _ _) cl_2 1 (by decide) (hts _ k_1_130) (fun _ h9 => h9) rfl d_Memory_define_1 ?_
  refine lv_aload_n hx hb d_Memory_define_4 rfl (lv_at hl 0 rfl) ?_
  refine lv_aload_n hx hb d_Memory_define_5 rfl (lv_at hl 0 rfl) ?_
  refine va_get (D := D) (ci := 2) (v := .int (f_xm_scopeCount S)) (C := "PageScribe$Memory") (T := F_Memory) (N := 8) hx hb hts i_Memory hown hK hP 8 (ce_8 _ _ _) cl_2 3 (by decide) (hts _ k_1_134) (fun _ h9 => h9) rfl d_Memory_define_6 ?_
  refine lv_iconst (v := 1) hx hb d_Memory_define_9 (by decide) ?_
  refine lv_isub hx hb d_Memory_define_10 ?_
  refine lv_topi (fun x1 ex1 => ?_)
  have rx1 := zt_rng x1
  refine jc_ci (w := (fun _ => S)) hK hP hD hS hA (va_runV (As := [.int x1]) (rest := [.ref (ad 12)]) F (c_Memory_scopeAt l D T ad S x1  s.heap.size) (j_cV (k := 1) (C := "PageScribe$Memory") hts k_3_180 k_1_5 k_3_177 k_3_179 k_0_15 (by decide +kernel) ⟨Nat.le_of_ble_eq_true rfl, Nat.le_of_ble_eq_true rfl⟩) (j_preV (q0 := 8) (ci := 2) hK hP hD csc csc_all csc_nd cl_2 (ce_8 _ _ _) (fun _ _ _ _ h => h) (fun _ _ _ => trivial)) rfl rfl hl.1 rfl (lv_room (Nat.le_of_ble_eq_true rfl)) d_Memory_define_11 ⟨Nat.le_of_ble_eq_true rfl, Nat.le_of_ble_eq_true rfl⟩) (fun rv1 u1 H locs hw1 hP hD hS => ?_)
  have hP : va_P D classes (cW T ad S) H := hP
  have hD : va_D A (cW T ad S) := hD
  have rrv1 := zt_rng rv1
  refine lv_aload_n hx hb d_Memory_define_14 rfl (lv_at hl 0 rfl) ?_
  refine va_get (D := D) (ci := 2) (v := .ref (ad 1)) (C := "PageScribe$Memory") (T := F_Memory) (N := 8) hx hb hts i_Memory hown hK hP 8 (ce_8 _ _ _) cl_2 0 (by decide) (hts _ k_1_129) (fun _ h9 => h9) rfl d_Memory_define_15 ?_
  refine lv_iconst (v := 1) hx hb d_Memory_define_18 (by decide) ?_
  refine jc_ci (w := (fun _ => S)) hK hP hD hS hA (va_runV (As := [.int 1]) (rest := [.int rv1, .ref (ad 12)]) F (c_Stack_numberDown l D T ad S (1 : Int32)  H.size) (j_cV (k := 1) (C := "PageScribe$Stack") hts k_2_130 k_1_3 k_4_237 k_2_128 k_2_129 (by decide +kernel) ⟨Nat.le_of_ble_eq_true rfl, Nat.le_of_ble_eq_true rfl⟩) (j_preV (q0 := 1) (ci := 0) hK hP hD csc csc_all csc_nd cl_0 (ce_1 _ _ _) (fun _ _ _ _ h => h) (fun _ _ _ => trivial)) rfl rfl hl.1 rfl (lv_room (Nat.le_of_ble_eq_true rfl)) d_Memory_define_19 ⟨Nat.le_of_ble_eq_true rfl, Nat.le_of_ble_eq_true rfl⟩) (fun rv2 u2 H locs hw2 hP hD hS => ?_)
  have hP : va_P D classes (cW T ad S) H := hP
  have hD : va_D A (cW T ad S) := hD
  have rrv2 := zt_rng rv2
  refine lv_aload_n hx hb d_Memory_define_22 rfl (lv_at hl 0 rfl) ?_
  refine va_get (D := D) (ci := 2) (v := .ref (ad 1)) (C := "PageScribe$Memory") (T := F_Memory) (N := 8) hx hb hts i_Memory hown hK hP 8 (ce_8 _ _ _) cl_2 0 (by decide) (hts _ k_1_129) (fun _ h9 => h9) rfl d_Memory_define_23 ?_
  refine lv_aload_n hx hb d_Memory_define_26 rfl (lv_at hl 0 rfl) ?_
  refine va_get (D := D) (ci := 2) (v := .ref (ad 1)) (C := "PageScribe$Memory") (T := F_Memory) (N := 8) hx hb hts i_Memory hown hK hP 8 (ce_8 _ _ _) cl_2 0 (by decide) (hts _ k_1_129) (fun _ h9 => h9) rfl d_Memory_define_27 ?_
  refine va_get (D := D) (ci := 0) (v := .int (f_xst_z S)) (C := "PageScribe$Stack") (T := F_Stack) (N := 4) hx hb hts i_Stack hown hK hP 1 (ce_1 _ _ _) cl_0 3 (by decide) (hts _ k_1_53) (fun x9 h9 => u_same (hts _ k_1_51) x9 h9) rfl d_Memory_define_30 ?_
  refine lv_iconst (v := 1) hx hb d_Memory_define_33 (by decide) ?_
  refine lv_isub hx hb d_Memory_define_34 ?_
  refine lv_topi (fun x2 ex2 => ?_)
  have rx2 := zt_rng x2
  refine jc_ci (w := (fun u => u)) hK hP hD hS hA (va_runV (As := [.int rv1, .int rv2, .ref (ad 1), .int x2]) (rest := []) F (c_Store_define l D T ad S rv1 rv2 x2  H.size ⟨i_vst, i_vc0, i_vc1, i_vc2, i_vc3, i_vv0, i_vv1, i_vv2, i_vv3, i_vg, i_wct, i_wln, i_sd0, i_sd1, i_sd2, i_sd3, i_rln, i_rtx, i_rpl, i_rtk, i_cnv, i_pts, i_cik, i_und⟩) (j_cV (k := 4) (C := "PageScribe$Store") hts k_5_31 k_1_6 k_5_28 k_5_29 k_5_30 (by decide +kernel) ⟨Nat.le_of_ble_eq_true rfl, Nat.le_of_ble_eq_true rfl⟩) (j_preV (q0 := 12) (ci := 3) hK hP hD csc csc_all csc_nd cl_3 (ce_12 _ _ _) (fun _ _ _ _ h => h) (fun _ _ _ => trivial)) rfl rfl hl.1 rfl (lv_room (Nat.le_of_ble_eq_true rfl)) d_Memory_define_35 ⟨Nat.le_of_ble_eq_true rfl, Nat.le_of_ble_eq_true rfl⟩) (fun rv3 S1 H locs hw3 hP hD hS => ?_)
  have hP : va_P D classes (cW T ad S1) H := hP
  have hD : va_D A (cW T ad S1) := hD
  obtain ⟨⟨i_vst, i_vc0, i_vc1, i_vc2, i_vc3, i_vv0, i_vv1, i_vv2, i_vv3, i_vg, i_wct, i_wln, i_sd0, i_sd1, i_sd2, i_sd3, i_rln, i_rtx, i_rpl, i_rtk, i_cnv, i_pts, i_cik, i_und⟩, kpcL_S1, kpcP_S1, kpcU_S1, kpcW_S1⟩ := hw3
  have kScL_S1 : kcL S S1 := kcL_t (show kcL S S from (kcL_r S)) kpcL_S1
  have kScP_S1 : kcP S S1 := kcP_t (show kcP S S from (kcP_r S)) kpcP_S1
  have kScU_S1 : kcU S S1 := kcU_t (show kcU S S from (kcU_r S)) kpcU_S1
  have kScW_S1 : kcW S S1 := kcW_t (show kcW S S from (kcW_r S)) kpcW_S1
  have nxr_length_S1 : (f_xr_length S1).toInt = (f_xr_length S).toInt := congrArg Int32.toInt kpcL_S1
  have nxr_length_S1 : (f_xr_length S1).toInt = (f_xr_length S).toInt := congrArg Int32.toInt kpcP_S1.1
  have nxr_place_S1 : (f_xr_place S1).toInt = (f_xr_place S).toInt := congrArg Int32.toInt kpcP_S1.2.1
  have nxe_underWay_S1 : (f_xe_underWay S1).toInt = (f_xe_underWay S).toInt := congrArg Int32.toInt kpcU_S1
  have nxp_columns_S1 : (f_xp_columns S1).toInt = (f_xp_columns S).toInt := congrArg Int32.toInt kpcW_S1.1
  have nxp_rows_S1 : (f_xp_rows S1).toInt = (f_xp_rows S).toInt := congrArg Int32.toInt kpcW_S1.2
  have rrv3 := zt_rng rv3
  refine lv_istore_n (lv' := [(1, .int rv3), (0, .ref (ad 8))]) hx hb d_Memory_define_38 rfl hl (by decide) rfl (fun ls hl => ?_)
  refine lv_iload_n hx hb d_Memory_define_39 rfl (lv_at hl 0 rfl) ?_
  refine lv_if_ne (tgt := 51) hx hb d_Memory_define_40 (by decide) (fun c40_1 => ?_) (fun c40_1 => ?_)
  · first | have fc40_1 : rv3.toInt < 0 := (by have := zt_ne (show rv3.toInt = _ from rfl) tI_0 c40_1; omega) | have fc40_1 : 0 < rv3.toInt := (by have := zt_ne (show rv3.toInt = _ from rfl) tI_0 c40_1; omega) | skip
    refine lv_iload_n hx hb d_Memory_define_51 rfl (lv_at hl 0 rfl) ?_
    exact j_iret F hr hlocks hK hS S1 ⟨⟨i_vst, i_vc0, i_vc1, i_vc2, i_vc3, i_vv0, i_vv1, i_vv2, i_vv3, i_vg, i_wct, i_wln, i_sd0, i_sd1, i_sd2, i_sd3, i_rln, i_rtx, i_rpl, i_rtk, i_cnv, i_pts, i_cik, i_und⟩, kScL_S1, kScP_S1, kScU_S1, kScW_S1⟩ hP hD d_Memory_define_52
  · have fc40_1 : rv3.toInt = 0 := zt_eq (show rv3.toInt = _ from rfl) tI_0 c40_1
    refine lv_aload_n hx hb d_Memory_define_43 rfl (lv_at hl 1 rfl) ?_
    refine va_get (D := D) (ci := 2) (v := .ref (ad 1)) (C := "PageScribe$Memory") (T := F_Memory) (N := 8) hx hb hts i_Memory hown hK hP 8 (ce_8 _ _ _) cl_2 0 (by decide) (hts _ k_1_129) (fun _ h9 => h9) rfl d_Memory_define_44 ?_
    refine lv_iconst (v := 2) hx hb d_Memory_define_47 (by decide) ?_
    refine jc_cv (w := (fun u => u)) hK hP hD hS hA (va_runU (As := [.int 2]) (rest := []) F (c_Row_drop l D T ad S1 (2 : Int32)  H.size ⟨i_vst, i_vc0, i_vc1, i_vc2, i_vc3, i_vv0, i_vv1, i_vv2, i_vv3, i_vg, i_wct, i_wln, i_sd0, i_sd1, i_sd2, i_sd3, i_rln, i_rtx, i_rpl, i_rtk, i_cnv, i_pts, i_cik, i_und⟩) (j_cU (k := 1) (C := "PageScribe$Stack") (owner := "PageScribe$Row") (x := ⟨"PageScribe$Stack", "drop", "(I)V"⟩) hts k_4_47 k_4_231 k_4_43 k_4_45 k_4_46 k_1_2 rfl (by decide +kernel) ⟨Nat.le_of_ble_eq_true rfl, Nat.le_of_ble_eq_true rfl⟩) (j_preV (q0 := 1) (ci := 0) hK hP hD csc csc_all csc_nd cl_0 (ce_1 _ _ _) (fun _ _ _ _ h => h) (fun _ _ _ => trivial)) rfl rfl hl.1 rfl (lv_room (Nat.le_of_ble_eq_true rfl)) d_Memory_define_48 ⟨Nat.le_of_ble_eq_true rfl, Nat.le_of_ble_eq_true rfl⟩) (fun S2 H locs hw4 hP hD hS => ?_)
    have hP : va_P D classes (cW T ad S2) H := hP
    have hD : va_D A (cW T ad S2) := hD
    obtain ⟨⟨i_vst, i_vc0, i_vc1, i_vc2, i_vc3, i_vv0, i_vv1, i_vv2, i_vv3, i_vg, i_wct, i_wln, i_sd0, i_sd1, i_sd2, i_sd3, i_rln, i_rtx, i_rpl, i_rtk, i_cnv, i_pts, i_cik, i_und⟩, kpcL_S2, kpcP_S2, kpcU_S2, kpcW_S2⟩ := hw4
    have kScL_S2 : kcL S S2 := kcL_t (show kcL S S1 from kScL_S1) kpcL_S2
    have kScP_S2 : kcP S S2 := kcP_t (show kcP S S1 from kScP_S1) kpcP_S2
    have kScU_S2 : kcU S S2 := kcU_t (show kcU S S1 from kScU_S1) kpcU_S2
    have kScW_S2 : kcW S S2 := kcW_t (show kcW S S1 from kScW_S1) kpcW_S2
    have nxr_length_S2 : (f_xr_length S2).toInt = (f_xr_length S1).toInt := congrArg Int32.toInt kpcL_S2
    have nxr_length_S2 : (f_xr_length S2).toInt = (f_xr_length S1).toInt := congrArg Int32.toInt kpcP_S2.1
    have nxr_place_S2 : (f_xr_place S2).toInt = (f_xr_place S1).toInt := congrArg Int32.toInt kpcP_S2.2.1
    have nxe_underWay_S2 : (f_xe_underWay S2).toInt = (f_xe_underWay S1).toInt := congrArg Int32.toInt kpcU_S2
    have nxp_columns_S2 : (f_xp_columns S2).toInt = (f_xp_columns S1).toInt := congrArg Int32.toInt kpcW_S2.1
    have nxp_rows_S2 : (f_xp_rows S2).toInt = (f_xp_rows S1).toInt := congrArg Int32.toInt kpcW_S2.2
    refine lv_iload_n hx hb d_Memory_define_51 rfl (lv_at hl 0 rfl) ?_
    exact j_iret F hr hlocks hK hS S2 ⟨⟨i_vst, i_vc0, i_vc1, i_vc2, i_vc3, i_vv0, i_vv1, i_vv2, i_vv3, i_vg, i_wct, i_wln, i_sd0, i_sd1, i_sd2, i_sd3, i_rln, i_rtx, i_rpl, i_rtk, i_cnv, i_pts, i_cik, i_und⟩, kScL_S2, kScP_S2, kScU_S2, kScW_S2⟩ hP hD d_Memory_define_52
theorem d_Memory_lookUp_0 : decode prog_5_method_19_code 0 = .ok (.aload_n 0, 1) := by decide +kernel
theorem d_Memory_lookUp_1 : decode prog_5_method_19_code 1 = .ok (.getfield 22, 3) := by decide +kernel
theorem d_Memory_lookUp_4 : decode prog_5_method_19_code 4 = .ok (.iconst 1, 1) := by decide +kernel
theorem d_Memory_lookUp_5 : decode prog_5_method_19_code 5 = .ok (.isub, 1) := by decide +kernel
theorem d_Memory_lookUp_6 : decode prog_5_method_19_code 6 = .ok (.istore_n 2, 1) := by decide +kernel
theorem d_Memory_lookUp_7 : decode prog_5_method_19_code 7 = .ok (.iload_n 2, 1) := by decide +kernel
theorem d_Memory_lookUp_8 : decode prog_5_method_19_code 8 = .ok (.ifCond .lt 29, 3) := by decide +kernel
theorem d_Memory_lookUp_37 : decode prog_5_method_19_code 37 = .ok (.iconst (-1), 1) := by decide +kernel
theorem d_Memory_lookUp_38 : decode prog_5_method_19_code 38 = .ok (.ireturn, 1) := by decide +kernel
theorem d_Memory_lookUp_11 : decode prog_5_method_19_code 11 = .ok (.aload_n 0, 1) := by decide +kernel
theorem d_Memory_lookUp_12 : decode prog_5_method_19_code 12 = .ok (.getfield 12, 3) := by decide +kernel
theorem d_Memory_lookUp_15 : decode prog_5_method_19_code 15 = .ok (.aload_n 0, 1) := by decide +kernel
theorem d_Memory_lookUp_16 : decode prog_5_method_19_code 16 = .ok (.iload_n 2, 1) := by decide +kernel
theorem d_Memory_lookUp_17 : decode prog_5_method_19_code 17 = .ok (.invokevirtual 176, 3) := by decide +kernel
theorem d_Memory_lookUp_20 : decode prog_5_method_19_code 20 = .ok (.iload_n 1, 1) := by decide +kernel
theorem d_Memory_lookUp_21 : decode prog_5_method_19_code 21 = .ok (.invokevirtual 140, 3) := by decide +kernel
theorem d_Memory_lookUp_24 : decode prog_5_method_19_code 24 = .ok (.istore_n 3, 1) := by decide +kernel
theorem d_Memory_lookUp_25 : decode prog_5_method_19_code 25 = .ok (.iload_n 3, 1) := by decide +kernel
theorem d_Memory_lookUp_26 : decode prog_5_method_19_code 26 = .ok (.ifCond .lt 5, 3) := by decide +kernel
theorem d_Memory_lookUp_31 : decode prog_5_method_19_code 31 = .ok (.iinc 2 (-1), 3) := by decide +kernel
theorem d_Memory_lookUp_34 : decode prog_5_method_19_code 34 = .ok (.goto (-27), 3) := by decide +kernel
theorem d_Memory_lookUp_29 : decode prog_5_method_19_code 29 = .ok (.iload_n 3, 1) := by decide +kernel
theorem d_Memory_lookUp_30 : decode prog_5_method_19_code 30 = .ok (.ireturn, 1) := by decide +kernel
set_option maxHeartbeats 4000000 in
set_option maxRecDepth 100000 in
theorem c_Memory_lookUp (l : Launch) (D : va_G) (T : Nat → ClassId) (ad : Nat → Nat) (S : CS) (p0 : Int32) (sz : Nat)  (hI : CIv S) : Met l ⟨"PageScribe$Memory", "lookUp", "(I)I"⟩ (wy ⟨"PageScribe$Memory", "lookUp", "(I)I"⟩ prog_5_method_19_code 4 (some .int)) ({ frames := 2, cells := 0, slots := 0, locals := 140 }) (va_Pc [.ref (ad 8), .int p0] (Pw D T (cW T ad S) sz E0)) (va_Qi (fun (r : Int32) (u : Unit) => True) (fun u t => Bw D T (va_A (cW T ad S) sz) (cW T ad S) t) (va_A (cW T ad S) sz)) 0 0 (va_A (cW T ad S) sz) := by
  refine j_met (y := ⟨"PageScribe$Memory", "lookUp", "(I)I"⟩) (b := prog_5_method_19_code) (n := 4) (ret := (some .int)) (av := [.ref (ad 8), .int p0]) (Qc := fun A => va_Qi (fun (r : Int32) (u : Unit) => True) (fun u t => Bw D T A (cW T ad S) t) A) (by decide +kernel) (Nat.le_of_ble_eq_true rfl) (fun p e s m args below meth c A ls F hr hlocks hnm hK hP hD hS hA hN hE hl => ?_)
  obtain ⟨hx, hb, hml, hown, hts⟩ := id F
  have hl : lv_has ls 4 [(0, .ref (ad 8)), (1, .int p0)] := hl
  obtain ⟨i_vst, i_vc0, i_vc1, i_vc2, i_vc3, i_vv0, i_vv1, i_vv2, i_vv3, i_vg, i_wct, i_wln, i_sd0, i_sd1, i_sd2, i_sd3, i_rln, i_rtx, i_rpl, i_rtk, i_cnv, i_pts, i_cik, i_und⟩ := id hI
  have rp0 := zt_rng p0
  refine lv_aload_n hx hb d_Memory_lookUp_0 rfl (lv_at hl 0 rfl) ?_
  refine va_get (D := D) (ci := 2) (v := .int (f_xm_scopeCount S)) (C := "PageScribe$Memory") (T := F_Memory) (N := 8) hx hb hts i_Memory hown hK hP 8 (ce_8 _ _ _) cl_2 3 (by decide) (hts _ k_1_134) (fun _ h9 => h9) rfl d_Memory_lookUp_1 ?_
  refine lv_iconst (v := 1) hx hb d_Memory_lookUp_4 (by decide) ?_
  refine lv_isub hx hb d_Memory_lookUp_5 ?_
  refine lv_topi (fun x1 ex1 => ?_)
  have rx1 := zt_rng x1
  refine lv_istore_n (lv' := [(2, .int x1), (0, .ref (ad 8)), (1, .int p0)]) hx hb d_Memory_lookUp_6 rfl hl (by decide) rfl (fun ls hl => ?_)
  refine j_loop (α := Int32) (fun k x H locs ls => (x.toInt + 1 ≤ ((k : Nat) : Int)) ∧ va_P D classes (cW T ad S) H ∧ va_D A (cW T ad S) ∧ va_S A s.heap H locs ∧ lv_has ls 4 [(2, .int x), (0, .ref (ad 8)), (1, .int p0)]) (fun _ _ ls => F0 m 7 ls []) (fun k x H locs ls hI9 ih => ?_) (x1.toInt + 1).toNat x1 _ _ _ ⟨(show x1.toInt + 1 ≤ (((x1.toInt + 1).toNat : Nat) : Int) by omega), hP, hD, hS, lv_sub hl [0, 1, 2] rfl⟩
  obtain ⟨i, rfl⟩ : ∃ z, z = x := ⟨_, rfl⟩
  obtain ⟨hf1, hP, hD, hS, hl⟩ := hI9
  have hf1 : i.toInt + 1 ≤ ((k : Nat) : Int) := hf1
  have hP : va_P D classes (cW T ad S) H := hP
  have hD : va_D A (cW T ad S) := hD
  have hl : lv_has ls 4 [(2, .int i), (0, .ref (ad 8)), (1, .int p0)] := hl
  have ri9 := zt_rng i
  refine lv_iload_n hx hb d_Memory_lookUp_7 rfl (lv_at hl 0 rfl) ?_
  refine lv_if_lt (tgt := 37) hx hb d_Memory_lookUp_8 (by decide) (fun c8_1 => ?_) (fun c8_1 => ?_)
  · have fc8_1 : i.toInt < 0 := zt_lt (show i.toInt = _ from rfl) tI_0 c8_1
    refine lv_iconst (v := (-1)) hx hb d_Memory_lookUp_37 (by decide) ?_
    exact j_iret F hr hlocks hK hS () trivial hP hD d_Memory_lookUp_38
  · have fc8_1 : 0 ≤ i.toInt := Int.not_lt.mp (zt_nlt (show i.toInt = _ from rfl) tI_0 c8_1)
    refine lv_aload_n hx hb d_Memory_lookUp_11 rfl (lv_at hl 1 rfl) ?_
    refine va_get (D := D) (ci := 2) (v := .ref (ad 12)) (C := "PageScribe$Memory") (T := F_Memory) (N := 8) hx hb hts i_Memory hown hK hP 8 (ce_8 _ _ _) cl_2 1 (by decide) (hts _ k_1_130) (fun _ h9 => h9) rfl d_Memory_lookUp_12 ?_
    refine lv_aload_n hx hb d_Memory_lookUp_15 rfl (lv_at hl 1 rfl) ?_
    refine lv_iload_n hx hb d_Memory_lookUp_16 rfl (lv_at hl 0 rfl) ?_
    refine jc_ci (w := (fun _ => S)) hK hP hD hS hA (va_runV (As := [.int i]) (rest := [.ref (ad 12)]) F (c_Memory_scopeAt l D T ad S i  H.size) (j_cV (k := 1) (C := "PageScribe$Memory") hts k_3_180 k_1_5 k_3_177 k_3_179 k_0_15 (by decide +kernel) ⟨Nat.le_of_ble_eq_true rfl, Nat.le_of_ble_eq_true rfl⟩) (j_preV (q0 := 8) (ci := 2) hK hP hD csc csc_all csc_nd cl_2 (ce_8 _ _ _) (fun _ _ _ _ h => h) (fun _ _ _ => trivial)) rfl rfl hl.1 rfl (lv_room (Nat.le_of_ble_eq_true rfl)) d_Memory_lookUp_17 ⟨Nat.le_of_ble_eq_true rfl, Nat.le_of_ble_eq_true rfl⟩) (fun rv1 u1 H locs hw1 hP hD hS => ?_)
    have hP : va_P D classes (cW T ad S) H := hP
    have hD : va_D A (cW T ad S) := hD
    have rrv1 := zt_rng rv1
    refine lv_iload_n hx hb d_Memory_lookUp_20 rfl (lv_at hl 2 rfl) ?_
    refine jc_ci (w := (fun _ => S)) hK hP hD hS hA (va_runV (As := [.int rv1, .int p0]) (rest := []) F (c_Store_find l D T ad S rv1 p0  H.size ⟨i_vst, i_vc0, i_vc1, i_vc2, i_vc3, i_vv0, i_vv1, i_vv2, i_vv3, i_vg, i_wct, i_wln, i_sd0, i_sd1, i_sd2, i_sd3, i_rln, i_rtx, i_rpl, i_rtk, i_cnv, i_pts, i_cik, i_und⟩) (j_cV (k := 2) (C := "PageScribe$Store") hts k_3_184 k_1_6 k_3_181 k_3_182 k_3_183 (by decide +kernel) ⟨Nat.le_of_ble_eq_true rfl, Nat.le_of_ble_eq_true rfl⟩) (j_preV (q0 := 12) (ci := 3) hK hP hD csc csc_all csc_nd cl_3 (ce_12 _ _ _) (fun _ _ _ _ h => h) (fun _ _ _ => trivial)) rfl rfl hl.1 rfl (lv_room (Nat.le_of_ble_eq_true rfl)) d_Memory_lookUp_21 ⟨Nat.le_of_ble_eq_true rfl, Nat.le_of_ble_eq_true rfl⟩) (fun rv2 u2 H locs hw2 hP hD hS => ?_)
    have hP : va_P D classes (cW T ad S) H := hP
    have hD : va_D A (cW T ad S) := hD
    have rrv2 := zt_rng rv2
    refine lv_istore_n (lv' := [(3, .int rv2), (2, .int i), (0, .ref (ad 8)), (1, .int p0)]) hx hb d_Memory_lookUp_24 rfl hl (by decide) rfl (fun ls hl => ?_)
    refine lv_iload_n hx hb d_Memory_lookUp_25 rfl (lv_at hl 0 rfl) ?_
    refine lv_if_lt (tgt := 31) hx hb d_Memory_lookUp_26 (by decide) (fun c26_1 => ?_) (fun c26_1 => ?_)
    · have fc26_1 : rv2.toInt < 0 := zt_lt (show rv2.toInt = _ from rfl) tI_0 c26_1
      refine lv_iinc (v := (i + (-1))) (lv' := [(2, .int (i + (-1))), (3, .int rv2), (0, .ref (ad 8)), (1, .int p0)]) hx hb d_Memory_lookUp_31 hl (k := 1) rfl (by first | rfl | decide) (by decide) rfl (fun ls hl => ?_)
      obtain ⟨x2, ex2⟩ : ∃ z, z = (i + (-1)) := ⟨_, rfl⟩
      rw [← ex2] at hl
      have fx2 : x2.toInt = (i.toInt - 1) := by rw [ex2]; exact (zt_add (show i.toInt = _ from rfl) tI_m1 (by omega) (by omega)).trans (by omega)
      have hl : lv_has ls 4 [(2, .int x2), (3, .int rv2), (0, .ref (ad 8)), (1, .int p0)] := hl
      refine lv_goto (tgt := 7) hx hb d_Memory_lookUp_34 (by decide) ?_
      exact ih (k - 1) x2 _ _ _ (by omega) ⟨(show x2.toInt + 1 ≤ (((k - 1) : Nat) : Int) by omega), hP, hD, hS, lv_sub hl [0, 2, 3] rfl⟩
    · have fc26_1 : 0 ≤ rv2.toInt := Int.not_lt.mp (zt_nlt (show rv2.toInt = _ from rfl) tI_0 c26_1)
      refine lv_iload_n hx hb d_Memory_lookUp_29 rfl (lv_at hl 0 rfl) ?_
      exact j_iret F hr hlocks hK hS () trivial hP hD d_Memory_lookUp_30
theorem d_Memory_load_0 : decode prog_5_method_18_code 0 = .ok (.aload_n 0, 1) := by decide +kernel
theorem d_Memory_load_1 : decode prog_5_method_18_code 1 = .ok (.aload_n 0, 1) := by decide +kernel
theorem d_Memory_load_2 : decode prog_5_method_18_code 2 = .ok (.getfield 39, 3) := by decide +kernel
theorem d_Memory_load_5 : decode prog_5_method_18_code 5 = .ok (.iconst 0, 1) := by decide +kernel
theorem d_Memory_load_6 : decode prog_5_method_18_code 6 = .ok (.invokevirtual 105, 3) := by decide +kernel
theorem d_Memory_load_9 : decode prog_5_method_18_code 9 = .ok (.invokevirtual 182, 3) := by decide +kernel
theorem k_3_176 : Cond.code ⟨"PageScribe$Memory", "lookUp", "(I)I"⟩ prog_5_method_19_code 4 (some .int) ∈ gw := gw_of (tb_3 (List.mem_of_getElem? (i := 176) (by decide +kernel))) (by decide +kernel)
theorem k_5_79 : Cond.methodLink "PageScribe$Memory" 182 ⟨"PageScribe$Memory", "lookUp", "(I)I"⟩ ∈ gw := gw_of (tb_5 (List.mem_of_getElem? (i := 79) (by decide +kernel))) (by decide +kernel)
theorem k_3_174 : Cond.instanceMethod ⟨"PageScribe$Memory", "lookUp", "(I)I"⟩ ∈ gw := gw_of (tb_3 (List.mem_of_getElem? (i := 174) (by decide +kernel))) (by decide +kernel)
theorem k_3_175 : Cond.selects "PageScribe$Memory" ⟨"PageScribe$Memory", "lookUp", "(I)I"⟩ ⟨"PageScribe$Memory", "lookUp", "(I)I"⟩ ∈ gw := gw_of (tb_3 (List.mem_of_getElem? (i := 175) (by decide +kernel))) (by decide +kernel)
theorem d_Memory_load_12 : decode prog_5_method_18_code 12 = .ok (.istore_n 1, 1) := by decide +kernel
theorem d_Memory_load_13 : decode prog_5_method_18_code 13 = .ok (.iload_n 1, 1) := by decide +kernel
theorem d_Memory_load_14 : decode prog_5_method_18_code 14 = .ok (.ifCond .ge 5, 3) := by decide +kernel
theorem d_Memory_load_19 : decode prog_5_method_18_code 19 = .ok (.aload_n 0, 1) := by decide +kernel
theorem d_Memory_load_20 : decode prog_5_method_18_code 20 = .ok (.getfield 39, 3) := by decide +kernel
theorem d_Memory_load_23 : decode prog_5_method_18_code 23 = .ok (.iconst 1, 1) := by decide +kernel
theorem d_Memory_load_24 : decode prog_5_method_18_code 24 = .ok (.invokevirtual 97, 3) := by decide +kernel
theorem d_Memory_load_27 : decode prog_5_method_18_code 27 = .ok (.aload_n 0, 1) := by decide +kernel
theorem d_Memory_load_28 : decode prog_5_method_18_code 28 = .ok (.getfield 39, 3) := by decide +kernel
theorem d_Memory_load_31 : decode prog_5_method_18_code 31 = .ok (.aload_n 0, 1) := by decide +kernel
theorem d_Memory_load_32 : decode prog_5_method_18_code 32 = .ok (.getfield 12, 3) := by decide +kernel
theorem d_Memory_load_35 : decode prog_5_method_18_code 35 = .ok (.getfield 143, 3) := by decide +kernel
theorem d_Memory_load_38 : decode prog_5_method_18_code 38 = .ok (.iload_n 1, 1) := by decide +kernel
theorem d_Memory_load_39 : decode prog_5_method_18_code 39 = .ok (.invokevirtual 136, 3) := by decide +kernel
theorem d_Memory_load_42 : decode prog_5_method_18_code 42 = .ok (.ireturn, 1) := by decide +kernel
theorem d_Memory_load_17 : decode prog_5_method_18_code 17 = .ok (.iconst 5, 1) := by decide +kernel
theorem d_Memory_load_18 : decode prog_5_method_18_code 18 = .ok (.ireturn, 1) := by decide +kernel
set_option maxHeartbeats 4000000 in
set_option maxRecDepth 100000 in
theorem c_Memory_load (l : Launch) (D : va_G) (T : Nat → ClassId) (ad : Nat → Nat) (S : CS)  (sz : Nat)  (hI : CIv S) : Met l ⟨"PageScribe$Memory", "load", "()I"⟩ (wy ⟨"PageScribe$Memory", "load", "()I"⟩ prog_5_method_18_code 2 (some .int)) ({ frames := 3, cells := 0, slots := 0, locals := 210 }) (va_Pc [.ref (ad 8)] (Pw D T (cW T ad S) sz E0)) (va_Qi (fun (r : Int32) (u : CS) => CIv u ∧ kcL S u ∧ kcP S u ∧ kcU S u ∧ kcW S u) (fun u t => Bw D T (va_A (cW T ad S) sz) (cW T ad u) t) (va_A (cW T ad S) sz)) 0 0 (va_A (cW T ad S) sz) := by
  refine j_met (y := ⟨"PageScribe$Memory", "load", "()I"⟩) (b := prog_5_method_18_code) (n := 2) (ret := (some .int)) (av := [.ref (ad 8)]) (Qc := fun A => va_Qi (fun (r : Int32) (u : CS) => CIv u ∧ kcL S u ∧ kcP S u ∧ kcU S u ∧ kcW S u) (fun u t => Bw D T A (cW T ad u) t) A) (by decide +kernel) (Nat.le_of_ble_eq_true rfl) (fun p e s m args below meth c A ls F hr hlocks hnm hK hP hD hS hA hN hE hl => ?_)
  obtain ⟨hx, hb, hml, hown, hts⟩ := id F
  have hl : lv_has ls 2 [(0, .ref (ad 8))] := hl
  obtain ⟨i_vst, i_vc0, i_vc1, i_vc2, i_vc3, i_vv0, i_vv1, i_vv2, i_vv3, i_vg, i_wct, i_wln, i_sd0, i_sd1, i_sd2, i_sd3, i_rln, i_rtx, i_rpl, i_rtk, i_cnv, i_pts, i_cik, i_und⟩ := id hI
  refine lv_aload_n hx hb d_Memory_load_0 rfl (lv_at hl 0 rfl) ?_
  refine lv_aload_n hx hb d_Memory_load_1 rfl (lv_at hl 0 rfl) ?_
  refine va_get (D := D) (ci := 2) (v := .ref (ad 1)) (C := "PageScribe$Memory") (T := F_Memory) (N := 8) hx hb hts i_Memory hown hK hP 8 (ce_8 _ _ _) cl_2 0 (by decide) (hts _ k_1_129) (fun _ h9 => h9) rfl d_Memory_load_2 ?_
  refine lv_iconst (v := 0) hx hb d_Memory_load_5 (by decide) ?_
  refine jc_ci (w := (fun _ => S)) hK hP hD hS hA (va_runV (As := [.int 0]) (rest := [.ref (ad 8)]) F (c_Stack_numberDown l D T ad S (0 : Int32)  s.heap.size) (j_cV (k := 1) (C := "PageScribe$Stack") hts k_2_130 k_1_3 k_4_237 k_2_128 k_2_129 (by decide +kernel) ⟨Nat.le_of_ble_eq_true rfl, Nat.le_of_ble_eq_true rfl⟩) (j_preV (q0 := 1) (ci := 0) hK hP hD csc csc_all csc_nd cl_0 (ce_1 _ _ _) (fun _ _ _ _ h => h) (fun _ _ _ => trivial)) rfl rfl hl.1 rfl (lv_room (Nat.le_of_ble_eq_true rfl)) d_Memory_load_6 ⟨Nat.le_of_ble_eq_true rfl, Nat.le_of_ble_eq_true rfl⟩) (fun rv1 u1 H locs hw1 hP hD hS => ?_)
  have hP : va_P D classes (cW T ad S) H := hP
  have hD : va_D A (cW T ad S) := hD
  have rrv1 := zt_rng rv1
  refine jc_ci (w := (fun _ => S)) hK hP hD hS hA (va_runV (As := [.int rv1]) (rest := []) F (c_Memory_lookUp l D T ad S rv1  H.size ⟨i_vst, i_vc0, i_vc1, i_vc2, i_vc3, i_vv0, i_vv1, i_vv2, i_vv3, i_vg, i_wct, i_wln, i_sd0, i_sd1, i_sd2, i_sd3, i_rln, i_rtx, i_rpl, i_rtk, i_cnv, i_pts, i_cik, i_und⟩) (j_cV (k := 1) (C := "PageScribe$Memory") hts k_3_176 k_1_5 k_5_79 k_3_174 k_3_175 (by decide +kernel) ⟨Nat.le_of_ble_eq_true rfl, Nat.le_of_ble_eq_true rfl⟩) (j_preV (q0 := 8) (ci := 2) hK hP hD csc csc_all csc_nd cl_2 (ce_8 _ _ _) (fun _ _ _ _ h => h) (fun _ _ _ => trivial)) rfl rfl hl.1 rfl (lv_room (Nat.le_of_ble_eq_true rfl)) d_Memory_load_9 ⟨Nat.le_of_ble_eq_true rfl, Nat.le_of_ble_eq_true rfl⟩) (fun rv2 u2 H locs hw2 hP hD hS => ?_)
  have hP : va_P D classes (cW T ad S) H := hP
  have hD : va_D A (cW T ad S) := hD
  have rrv2 := zt_rng rv2
  refine lv_istore_n (lv' := [(1, .int rv2), (0, .ref (ad 8))]) hx hb d_Memory_load_12 rfl hl (by decide) rfl (fun ls hl => ?_)
  refine lv_iload_n hx hb d_Memory_load_13 rfl (lv_at hl 0 rfl) ?_
  refine lv_if_ge (tgt := 19) hx hb d_Memory_load_14 (by decide) (fun c14_1 => ?_) (fun c14_1 => ?_)
  · have fc14_1 : 0 ≤ rv2.toInt := zt_le tI_0 (show rv2.toInt = _ from rfl) c14_1
    refine lv_aload_n hx hb d_Memory_load_19 rfl (lv_at hl 1 rfl) ?_
    refine va_get (D := D) (ci := 2) (v := .ref (ad 1)) (C := "PageScribe$Memory") (T := F_Memory) (N := 8) hx hb hts i_Memory hown hK hP 8 (ce_8 _ _ _) cl_2 0 (by decide) (hts _ k_1_129) (fun _ h9 => h9) rfl d_Memory_load_20 ?_
    refine lv_iconst (v := 1) hx hb d_Memory_load_23 (by decide) ?_
    refine jc_cv (w := (fun u => u)) hK hP hD hS hA (va_runU (As := [.int 1]) (rest := []) F (c_Row_drop l D T ad S (1 : Int32)  H.size ⟨i_vst, i_vc0, i_vc1, i_vc2, i_vc3, i_vv0, i_vv1, i_vv2, i_vv3, i_vg, i_wct, i_wln, i_sd0, i_sd1, i_sd2, i_sd3, i_rln, i_rtx, i_rpl, i_rtk, i_cnv, i_pts, i_cik, i_und⟩) (j_cU (k := 1) (C := "PageScribe$Stack") (owner := "PageScribe$Row") (x := ⟨"PageScribe$Stack", "drop", "(I)V"⟩) hts k_4_47 k_4_231 k_4_43 k_4_45 k_4_46 k_1_2 rfl (by decide +kernel) ⟨Nat.le_of_ble_eq_true rfl, Nat.le_of_ble_eq_true rfl⟩) (j_preV (q0 := 1) (ci := 0) hK hP hD csc csc_all csc_nd cl_0 (ce_1 _ _ _) (fun _ _ _ _ h => h) (fun _ _ _ => trivial)) rfl rfl hl.1 rfl (lv_room (Nat.le_of_ble_eq_true rfl)) d_Memory_load_24 ⟨Nat.le_of_ble_eq_true rfl, Nat.le_of_ble_eq_true rfl⟩) (fun S1 H locs hw3 hP hD hS => ?_)
    have hP : va_P D classes (cW T ad S1) H := hP
    have hD : va_D A (cW T ad S1) := hD
    obtain ⟨⟨i_vst, i_vc0, i_vc1, i_vc2, i_vc3, i_vv0, i_vv1, i_vv2, i_vv3, i_vg, i_wct, i_wln, i_sd0, i_sd1, i_sd2, i_sd3, i_rln, i_rtx, i_rpl, i_rtk, i_cnv, i_pts, i_cik, i_und⟩, kpcL_S1, kpcP_S1, kpcU_S1, kpcW_S1⟩ := hw3
    have kScL_S1 : kcL S S1 := kcL_t (show kcL S S from (kcL_r S)) kpcL_S1
    have kScP_S1 : kcP S S1 := kcP_t (show kcP S S from (kcP_r S)) kpcP_S1
    have kScU_S1 : kcU S S1 := kcU_t (show kcU S S from (kcU_r S)) kpcU_S1
    have kScW_S1 : kcW S S1 := kcW_t (show kcW S S from (kcW_r S)) kpcW_S1
    have nxr_length_S1 : (f_xr_length S1).toInt = (f_xr_length S).toInt := congrArg Int32.toInt kpcL_S1
    have nxr_length_S1 : (f_xr_length S1).toInt = (f_xr_length S).toInt := congrArg Int32.toInt kpcP_S1.1
    have nxr_place_S1 : (f_xr_place S1).toInt = (f_xr_place S).toInt := congrArg Int32.toInt kpcP_S1.2.1
    have nxe_underWay_S1 : (f_xe_underWay S1).toInt = (f_xe_underWay S).toInt := congrArg Int32.toInt kpcU_S1
    have nxp_columns_S1 : (f_xp_columns S1).toInt = (f_xp_columns S).toInt := congrArg Int32.toInt kpcW_S1.1
    have nxp_rows_S1 : (f_xp_rows S1).toInt = (f_xp_rows S).toInt := congrArg Int32.toInt kpcW_S1.2
    refine lv_aload_n hx hb d_Memory_load_27 rfl (lv_at hl 1 rfl) ?_
    refine va_get (D := D) (ci := 2) (v := .ref (ad 1)) (C := "PageScribe$Memory") (T := F_Memory) (N := 8) hx hb hts i_Memory hown hK hP 8 (ce_8 _ _ _) cl_2 0 (by decide) (hts _ k_1_129) (fun _ h9 => h9) rfl d_Memory_load_28 ?_
    refine lv_aload_n hx hb d_Memory_load_31 rfl (lv_at hl 1 rfl) ?_
    refine va_get (D := D) (ci := 2) (v := .ref (ad 12)) (C := "PageScribe$Memory") (T := F_Memory) (N := 8) hx hb hts i_Memory hown hK hP 8 (ce_8 _ _ _) cl_2 1 (by decide) (hts _ k_1_130) (fun _ h9 => h9) rfl d_Memory_load_32 ?_
    refine va_get (D := D) (ci := 3) (v := .ref (ad 20)) (C := "PageScribe$Store") (T := F_Store) (N := 5) hx hb hts i_Store hown hK hP 12 (ce_12 _ _ _) cl_3 4 (by decide) (hts _ k_1_116) (fun _ h9 => h9) rfl d_Memory_load_35 ?_
    refine lv_iload_n hx hb d_Memory_load_38 rfl (lv_at hl 0 rfl) ?_
    refine jc_ci (w := (fun u => u)) hK hP hD hS hA (va_runU (As := [.ref (ad 20), .int rv2]) (rest := []) F (c_Row_pushFrom_1_20 l D T ad S1 rv2  H.size ⟨i_vst, i_vc0, i_vc1, i_vc2, i_vc3, i_vv0, i_vv1, i_vv2, i_vv3, i_vg, i_wct, i_wln, i_sd0, i_sd1, i_sd2, i_sd3, i_rln, i_rtx, i_rpl, i_rtk, i_cnv, i_pts, i_cik, i_und⟩) (j_cU (k := 2) (C := "PageScribe$Stack") (owner := "PageScribe$Row") (x := ⟨"PageScribe$Stack", "pushFrom", "(LPageScribe$Row;I)I"⟩) hts k_3_96 k_5_16 k_4_64 k_4_66 k_3_92 k_1_2 rfl (by decide +kernel) ⟨Nat.le_of_ble_eq_true rfl, Nat.le_of_ble_eq_true rfl⟩) (j_preV (q0 := 1) (ci := 0) hK hP hD csc csc_all csc_nd cl_0 (ce_1 _ _ _) (fun _ _ _ _ h => h) (fun _ _ _ => trivial)) rfl rfl hl.1 rfl (lv_room (Nat.le_of_ble_eq_true rfl)) d_Memory_load_39 ⟨Nat.le_of_ble_eq_true rfl, Nat.le_of_ble_eq_true rfl⟩) (fun rv4 S2 H locs hw4 hP hD hS => ?_)
    have hP : va_P D classes (cW T ad S2) H := hP
    have hD : va_D A (cW T ad S2) := hD
    obtain ⟨⟨i_vst, i_vc0, i_vc1, i_vc2, i_vc3, i_vv0, i_vv1, i_vv2, i_vv3, i_vg, i_wct, i_wln, i_sd0, i_sd1, i_sd2, i_sd3, i_rln, i_rtx, i_rpl, i_rtk, i_cnv, i_pts, i_cik, i_und⟩, kpcL_S2, kpcP_S2, kpcU_S2, kpcW_S2⟩ := hw4
    have kScL_S2 : kcL S S2 := kcL_t (show kcL S S1 from kScL_S1) kpcL_S2
    have kScP_S2 : kcP S S2 := kcP_t (show kcP S S1 from kScP_S1) kpcP_S2
    have kScU_S2 : kcU S S2 := kcU_t (show kcU S S1 from kScU_S1) kpcU_S2
    have kScW_S2 : kcW S S2 := kcW_t (show kcW S S1 from kScW_S1) kpcW_S2
    have nxr_length_S2 : (f_xr_length S2).toInt = (f_xr_length S1).toInt := congrArg Int32.toInt kpcL_S2
    have nxr_length_S2 : (f_xr_length S2).toInt = (f_xr_length S1).toInt := congrArg Int32.toInt kpcP_S2.1
    have nxr_place_S2 : (f_xr_place S2).toInt = (f_xr_place S1).toInt := congrArg Int32.toInt kpcP_S2.2.1
    have nxe_underWay_S2 : (f_xe_underWay S2).toInt = (f_xe_underWay S1).toInt := congrArg Int32.toInt kpcU_S2
    have nxp_columns_S2 : (f_xp_columns S2).toInt = (f_xp_columns S1).toInt := congrArg Int32.toInt kpcW_S2.1
    have nxp_rows_S2 : (f_xp_rows S2).toInt = (f_xp_rows S1).toInt := congrArg Int32.toInt kpcW_S2.2
    have rrv4 := zt_rng rv4
    exact j_iret F hr hlocks hK hS S2 ⟨⟨i_vst, i_vc0, i_vc1, i_vc2, i_vc3, i_vv0, i_vv1, i_vv2, i_vv3, i_vg, i_wct, i_wln, i_sd0, i_sd1, i_sd2, i_sd3, i_rln, i_rtx, i_rpl, i_rtk, i_cnv, i_pts, i_cik, i_und⟩, kScL_S2, kScP_S2, kScU_S2, kScW_S2⟩ hP hD d_Memory_load_42
  · have fc14_1 : rv2.toInt < 0 := Int.not_le.mp (zt_nle tI_0 (show rv2.toInt = _ from rfl) c14_1)
    refine lv_iconst (v := 5) hx hb d_Memory_load_17 (by decide) ?_
    exact j_iret F hr hlocks hK hS S ⟨⟨i_vst, i_vc0, i_vc1, i_vc2, i_vc3, i_vv0, i_vv1, i_vv2, i_vv3, i_vg, i_wct, i_wln, i_sd0, i_sd1, i_sd2, i_sd3, i_rln, i_rtx, i_rpl, i_rtk, i_cnv, i_pts, i_cik, i_und⟩, (kcL_r S), (kcP_r S), (kcU_r S), (kcW_r S)⟩ hP hD d_Memory_load_18
theorem d_Memory_actOnDicts_0 : decode prog_5_method_12_code 0 = .ok (.getstatic 43, 3) := by decide +kernel
theorem d_Memory_actOnDicts_3 : decode prog_5_method_12_code 3 = .ok (.aload_n 1, 1) := by decide +kernel
theorem d_Memory_actOnDicts_4 : decode prog_5_method_12_code 4 = .ok (.invokevirtual 48, 3) := by decide +kernel
theorem d_Memory_actOnDicts_7 : decode prog_5_method_12_code 7 = .ok (.iaload, 1) := by decide +kernel
theorem d_Memory_actOnDicts_8 : decode prog_5_method_12_code 8 = .ok (.tableswitch 105 39 44 #[40, 45, 50, 55, 60, 65], 40) := by decide +kernel
theorem d_Memory_actOnDicts_48 : decode prog_5_method_12_code 48 = .ok (.aload_n 0, 1) := by decide +kernel
theorem d_Memory_actOnDicts_49 : decode prog_5_method_12_code 49 = .ok (.invokevirtual 158, 3) := by decide +kernel
theorem k_5_58 : Cond.code ⟨"PageScribe$Memory", "makeDict", "()I"⟩ prog_5_method_13_code 3 (some .int) ∈ gw := gw_of (tb_5 (List.mem_of_getElem? (i := 58) (by decide +kernel))) (by decide +kernel)
theorem k_5_55 : Cond.methodLink "PageScribe$Memory" 158 ⟨"PageScribe$Memory", "makeDict", "()I"⟩ ∈ gw := gw_of (tb_5 (List.mem_of_getElem? (i := 55) (by decide +kernel))) (by decide +kernel)
theorem k_5_57 : Cond.instanceMethod ⟨"PageScribe$Memory", "makeDict", "()I"⟩ ∈ gw := gw_of (tb_5 (List.mem_of_getElem? (i := 57) (by decide +kernel))) (by decide +kernel)
theorem k_0_47 : Cond.selects "PageScribe$Memory" ⟨"PageScribe$Memory", "makeDict", "()I"⟩ ⟨"PageScribe$Memory", "makeDict", "()I"⟩ ∈ gw := gw_of (tb_0 (List.mem_of_getElem? (i := 47) (by decide +kernel))) (by decide +kernel)
theorem d_Memory_actOnDicts_52 : decode prog_5_method_12_code 52 = .ok (.ireturn, 1) := by decide +kernel
theorem d_Memory_actOnDicts_53 : decode prog_5_method_12_code 53 = .ok (.aload_n 0, 1) := by decide +kernel
theorem d_Memory_actOnDicts_54 : decode prog_5_method_12_code 54 = .ok (.invokevirtual 161, 3) := by decide +kernel
theorem k_5_66 : Cond.code ⟨"PageScribe$Memory", "beginScope", "()I"⟩ prog_5_method_14_code 1 (some .int) ∈ gw := gw_of (tb_5 (List.mem_of_getElem? (i := 66) (by decide +kernel))) (by decide +kernel)
theorem k_5_63 : Cond.methodLink "PageScribe$Memory" 161 ⟨"PageScribe$Memory", "beginScope", "()I"⟩ ∈ gw := gw_of (tb_5 (List.mem_of_getElem? (i := 63) (by decide +kernel))) (by decide +kernel)
theorem k_5_65 : Cond.instanceMethod ⟨"PageScribe$Memory", "beginScope", "()I"⟩ ∈ gw := gw_of (tb_5 (List.mem_of_getElem? (i := 65) (by decide +kernel))) (by decide +kernel)
theorem k_0_48 : Cond.selects "PageScribe$Memory" ⟨"PageScribe$Memory", "beginScope", "()I"⟩ ⟨"PageScribe$Memory", "beginScope", "()I"⟩ ∈ gw := gw_of (tb_0 (List.mem_of_getElem? (i := 48) (by decide +kernel))) (by decide +kernel)
theorem d_Memory_actOnDicts_57 : decode prog_5_method_12_code 57 = .ok (.ireturn, 1) := by decide +kernel
theorem d_Memory_actOnDicts_58 : decode prog_5_method_12_code 58 = .ok (.aload_n 0, 1) := by decide +kernel
theorem d_Memory_actOnDicts_59 : decode prog_5_method_12_code 59 = .ok (.invokevirtual 164, 3) := by decide +kernel
theorem k_5_70 : Cond.code ⟨"PageScribe$Memory", "endScope", "()I"⟩ prog_5_method_15_code 1 (some .int) ∈ gw := gw_of (tb_5 (List.mem_of_getElem? (i := 70) (by decide +kernel))) (by decide +kernel)
theorem k_5_67 : Cond.methodLink "PageScribe$Memory" 164 ⟨"PageScribe$Memory", "endScope", "()I"⟩ ∈ gw := gw_of (tb_5 (List.mem_of_getElem? (i := 67) (by decide +kernel))) (by decide +kernel)
theorem k_5_69 : Cond.instanceMethod ⟨"PageScribe$Memory", "endScope", "()I"⟩ ∈ gw := gw_of (tb_5 (List.mem_of_getElem? (i := 69) (by decide +kernel))) (by decide +kernel)
theorem k_0_49 : Cond.selects "PageScribe$Memory" ⟨"PageScribe$Memory", "endScope", "()I"⟩ ⟨"PageScribe$Memory", "endScope", "()I"⟩ ∈ gw := gw_of (tb_0 (List.mem_of_getElem? (i := 49) (by decide +kernel))) (by decide +kernel)
theorem d_Memory_actOnDicts_62 : decode prog_5_method_12_code 62 = .ok (.ireturn, 1) := by decide +kernel
theorem d_Memory_actOnDicts_63 : decode prog_5_method_12_code 63 = .ok (.aload_n 0, 1) := by decide +kernel
theorem d_Memory_actOnDicts_64 : decode prog_5_method_12_code 64 = .ok (.invokevirtual 167, 3) := by decide +kernel
theorem k_5_74 : Cond.code ⟨"PageScribe$Memory", "define", "()I"⟩ prog_5_method_17_code 2 (some .int) ∈ gw := gw_of (tb_5 (List.mem_of_getElem? (i := 74) (by decide +kernel))) (by decide +kernel)
theorem k_5_71 : Cond.methodLink "PageScribe$Memory" 167 ⟨"PageScribe$Memory", "define", "()I"⟩ ∈ gw := gw_of (tb_5 (List.mem_of_getElem? (i := 71) (by decide +kernel))) (by decide +kernel)
theorem k_5_73 : Cond.instanceMethod ⟨"PageScribe$Memory", "define", "()I"⟩ ∈ gw := gw_of (tb_5 (List.mem_of_getElem? (i := 73) (by decide +kernel))) (by decide +kernel)
theorem k_0_50 : Cond.selects "PageScribe$Memory" ⟨"PageScribe$Memory", "define", "()I"⟩ ⟨"PageScribe$Memory", "define", "()I"⟩ ∈ gw := gw_of (tb_0 (List.mem_of_getElem? (i := 50) (by decide +kernel))) (by decide +kernel)
theorem d_Memory_actOnDicts_67 : decode prog_5_method_12_code 67 = .ok (.ireturn, 1) := by decide +kernel
theorem d_Memory_actOnDicts_68 : decode prog_5_method_12_code 68 = .ok (.aload_n 0, 1) := by decide +kernel
theorem d_Memory_actOnDicts_69 : decode prog_5_method_12_code 69 = .ok (.invokevirtual 169, 3) := by decide +kernel
theorem k_5_78 : Cond.code ⟨"PageScribe$Memory", "load", "()I"⟩ prog_5_method_18_code 2 (some .int) ∈ gw := gw_of (tb_5 (List.mem_of_getElem? (i := 78) (by decide +kernel))) (by decide +kernel)
theorem k_5_75 : Cond.methodLink "PageScribe$Memory" 169 ⟨"PageScribe$Memory", "load", "()I"⟩ ∈ gw := gw_of (tb_5 (List.mem_of_getElem? (i := 75) (by decide +kernel))) (by decide +kernel)
theorem k_5_77 : Cond.instanceMethod ⟨"PageScribe$Memory", "load", "()I"⟩ ∈ gw := gw_of (tb_5 (List.mem_of_getElem? (i := 77) (by decide +kernel))) (by decide +kernel)
theorem k_0_51 : Cond.selects "PageScribe$Memory" ⟨"PageScribe$Memory", "load", "()I"⟩ ⟨"PageScribe$Memory", "load", "()I"⟩ ∈ gw := gw_of (tb_0 (List.mem_of_getElem? (i := 51) (by decide +kernel))) (by decide +kernel)
theorem d_Memory_actOnDicts_72 : decode prog_5_method_12_code 72 = .ok (.ireturn, 1) := by decide +kernel
theorem d_Memory_actOnDicts_73 : decode prog_5_method_12_code 73 = .ok (.aload_n 0, 1) := by decide +kernel
theorem d_Memory_actOnDicts_74 : decode prog_5_method_12_code 74 = .ok (.getfield 39, 3) := by decide +kernel
theorem d_Memory_actOnDicts_77 : decode prog_5_method_12_code 77 = .ok (.iconst 2, 1) := by decide +kernel
theorem d_Memory_actOnDicts_78 : decode prog_5_method_12_code 78 = .ok (.aload_n 0, 1) := by decide +kernel
theorem d_Memory_actOnDicts_79 : decode prog_5_method_12_code 79 = .ok (.getfield 12, 3) := by decide +kernel
theorem d_Memory_actOnDicts_82 : decode prog_5_method_12_code 82 = .ok (.aload_n 0, 1) := by decide +kernel
theorem d_Memory_actOnDicts_83 : decode prog_5_method_12_code 83 = .ok (.getfield 39, 3) := by decide +kernel
theorem d_Memory_actOnDicts_86 : decode prog_5_method_12_code 86 = .ok (.iconst 1, 1) := by decide +kernel
theorem d_Memory_actOnDicts_87 : decode prog_5_method_12_code 87 = .ok (.invokevirtual 105, 3) := by decide +kernel
theorem d_Memory_actOnDicts_90 : decode prog_5_method_12_code 90 = .ok (.aload_n 0, 1) := by decide +kernel
theorem d_Memory_actOnDicts_91 : decode prog_5_method_12_code 91 = .ok (.getfield 39, 3) := by decide +kernel
theorem d_Memory_actOnDicts_94 : decode prog_5_method_12_code 94 = .ok (.iconst 0, 1) := by decide +kernel
theorem d_Memory_actOnDicts_95 : decode prog_5_method_12_code 95 = .ok (.invokevirtual 105, 3) := by decide +kernel
theorem d_Memory_actOnDicts_98 : decode prog_5_method_12_code 98 = .ok (.invokevirtual 140, 3) := by decide +kernel
theorem d_Memory_actOnDicts_101 : decode prog_5_method_12_code 101 = .ok (.ifCond .lt 7, 3) := by decide +kernel
theorem d_Memory_actOnDicts_108 : decode prog_5_method_12_code 108 = .ok (.iconst 0, 1) := by decide +kernel
theorem d_Memory_actOnDicts_109 : decode prog_5_method_12_code 109 = .ok (.invokevirtual 172, 3) := by decide +kernel
theorem k_4_195 : Cond.code ⟨"PageScribe$Stack", "giveFlag", "(IZ)I"⟩ prog_9_method_10_code 3 (some .int) ∈ gw := gw_of (tb_4 (List.mem_of_getElem? (i := 195) (by decide +kernel))) (by decide +kernel)
theorem k_5_80 : Cond.methodLink "PageScribe$Memory" 172 ⟨"PageScribe$Stack", "giveFlag", "(IZ)I"⟩ ∈ gw := gw_of (tb_5 (List.mem_of_getElem? (i := 80) (by decide +kernel))) (by decide +kernel)
theorem k_4_193 : Cond.instanceMethod ⟨"PageScribe$Stack", "giveFlag", "(IZ)I"⟩ ∈ gw := gw_of (tb_4 (List.mem_of_getElem? (i := 193) (by decide +kernel))) (by decide +kernel)
theorem k_4_194 : Cond.selects "PageScribe$Stack" ⟨"PageScribe$Stack", "giveFlag", "(IZ)I"⟩ ⟨"PageScribe$Stack", "giveFlag", "(IZ)I"⟩ ∈ gw := gw_of (tb_4 (List.mem_of_getElem? (i := 194) (by decide +kernel))) (by decide +kernel)
theorem d_Memory_actOnDicts_112 : decode prog_5_method_12_code 112 = .ok (.ireturn, 1) := by decide +kernel
theorem d_Memory_actOnDicts_104 : decode prog_5_method_12_code 104 = .ok (.iconst 1, 1) := by decide +kernel
theorem d_Memory_actOnDicts_105 : decode prog_5_method_12_code 105 = .ok (.goto 4, 3) := by decide +kernel
theorem d_Memory_actOnDicts_113 : decode prog_5_method_12_code 113 = .ok (.aload_n 0, 1) := by decide +kernel
theorem d_Memory_actOnDicts_114 : decode prog_5_method_12_code 114 = .ok (.getfield 39, 3) := by decide +kernel
theorem d_Memory_actOnDicts_117 : decode prog_5_method_12_code 117 = .ok (.bipush 6, 2) := by decide +kernel
theorem d_Memory_actOnDicts_119 : decode prog_5_method_12_code 119 = .ok (.aload_n 0, 1) := by decide +kernel
theorem d_Memory_actOnDicts_120 : decode prog_5_method_12_code 120 = .ok (.aload_n 0, 1) := by decide +kernel
theorem d_Memory_actOnDicts_121 : decode prog_5_method_12_code 121 = .ok (.getfield 22, 3) := by decide +kernel
theorem d_Memory_actOnDicts_124 : decode prog_5_method_12_code 124 = .ok (.iconst 1, 1) := by decide +kernel
theorem d_Memory_actOnDicts_125 : decode prog_5_method_12_code 125 = .ok (.isub, 1) := by decide +kernel
theorem d_Memory_actOnDicts_126 : decode prog_5_method_12_code 126 = .ok (.invokevirtual 176, 3) := by decide +kernel
theorem d_Memory_actOnDicts_129 : decode prog_5_method_12_code 129 = .ok (.dconst 0, 1) := by decide +kernel
theorem d_Memory_actOnDicts_130 : decode prog_5_method_12_code 130 = .ok (.invokevirtual 101, 3) := by decide +kernel
theorem d_Memory_actOnDicts_133 : decode prog_5_method_12_code 133 = .ok (.ireturn, 1) := by decide +kernel
set_option maxHeartbeats 4000000 in
set_option maxRecDepth 100000 in
theorem c_Memory_actOnDicts (l : Launch) (D : va_G) (T : Nat → ClassId) (ad : Nat → Nat) (g : GE) (Bq : Nat → Prop) (S : CS) (op : Nat) (sz : Nat) (hi_op : op < 72) (hI : CIv S) : Met l ⟨"PageScribe$Memory", "actOnDicts", "(LPageScribe$Op;)I"⟩ (wy ⟨"PageScribe$Memory", "actOnDicts", "(LPageScribe$Op;)I"⟩ prog_5_method_12_code 2 (some .int)) ({ frames := 4, cells := 0, slots := 0, locals := 280 }) (va_Pc [.ref (ad 8), .ref (g_en g op)] (Pw D T (cW T ad S) sz (EC g Bq ad))) (va_Qi (fun (r : Int32) (u : CS) => CIv u ∧ kcL S u ∧ kcP S u ∧ kcU S u ∧ kcW S u) (fun u t => Bw D T (va_A (cW T ad S) sz) (cW T ad u) t) (va_A (cW T ad S) sz)) 0 0 (va_A (cW T ad S) sz) := by
  refine j_met (y := ⟨"PageScribe$Memory", "actOnDicts", "(LPageScribe$Op;)I"⟩) (b := prog_5_method_12_code) (n := 2) (ret := (some .int)) (av := [.ref (ad 8), .ref (g_en g op)]) (Qc := fun A => va_Qi (fun (r : Int32) (u : CS) => CIv u ∧ kcL S u ∧ kcP S u ∧ kcU S u ∧ kcW S u) (fun u t => Bw D T A (cW T ad u) t) A) (by decide +kernel) (Nat.le_of_ble_eq_true rfl) (fun p e s m args below meth c A ls F hr hlocks hnm hK hP hD hS hA hN hE hl => ?_)
  obtain ⟨hx, hb, hml, hown, hts⟩ := id F
  have hl : lv_has ls 2 [(0, .ref (ad 8)), (1, .ref (g_en g op))] := hl
  obtain ⟨i_vst, i_vc0, i_vc1, i_vc2, i_vc3, i_vv0, i_vv1, i_vv2, i_vv3, i_vg, i_wct, i_wln, i_sd0, i_sd1, i_sd2, i_sd3, i_rln, i_rtx, i_rpl, i_rtk, i_cnv, i_pts, i_cik, i_und⟩ := id hI
  have hAB : ∀ q, A q → Bq q := EC.ab hE hN
  have hEV := hE.1.narrow hAB
  refine va_gets hx hb hEV.2.2.1.1 hS hown (hts _ k_4_223) (fun _ h9 => h9) d_Memory_actOnDicts_0 ?_
  refine lv_aload_n hx hb d_Memory_actOnDicts_3 rfl (lv_at hl 1 rfl) ?_
  refine jc_ci (w := (fun _ => S)) hK hP hD hS hA (va_runU (As := []) (rest := [.ref (g_tS g)]) F (c_Enum_ordinal l D T ad g Bq S op  s.heap.size hi_op) (j_cU (k := 0) (C := "PageScribe$Op") (owner := "java/lang/Enum") (x := ⟨"PageScribe$Op", "ordinal", "()I"⟩) hts k_4_41 k_4_224 k_4_37 k_4_39 k_4_40 k_1_24 rfl (by decide +kernel) ⟨Nat.le_of_ble_eq_true rfl, Nat.le_of_ble_eq_true rfl⟩) (jc_preO (j_preS hK hP hD csc csc_all csc_nd (fun _ _ _ _ h => EC.calling h) (fun U hU hW => EC.at hS hAB hU hW hE)) (hEV.1 _ hi_op).1.1 hS) rfl rfl hl.1 rfl (lv_room (Nat.le_of_ble_eq_true rfl)) d_Memory_actOnDicts_4 ⟨Nat.le_of_ble_eq_true rfl, Nat.le_of_ble_eq_true rfl⟩) (fun rv1 u1 H locs hw1 hP hD hS => ?_)
  have hP : va_P D classes (cW T ad S) H := hP
  have hD : va_D A (cW T ad S) := hD
  have qhw1 : rv1.toInt = (op : Int) := hw1
  have rrv1 := zt_rng rv1
  refine va_ti hx hb hEV.2.2.1.2 hS (zt_in (show rv1.toInt = _ from rfl) (by omega) (by omega)) rfl d_Memory_actOnDicts_7 ?_
  refine lv_topi (fun x1 ex1 => ?_)
  have rx1 := zt_rng x1
  by_cases h_39_1 : x1.toInt = 39
  · refine lv_tableIn (off := 40) (tgt := 48) hx hb d_Memory_actOnDicts_8 (by omega) (by omega) (by rw [show x1.toInt = 39 from h_39_1]; decide +kernel) (by decide) ?_
    refine lv_aload_n hx hb d_Memory_actOnDicts_48 rfl (lv_at hl 0 rfl) ?_
    refine jc_ci (w := (fun u => u)) hK hP hD hS hA (va_runV (As := []) (rest := []) F (c_Memory_makeDict l D T ad S  H.size ⟨i_vst, i_vc0, i_vc1, i_vc2, i_vc3, i_vv0, i_vv1, i_vv2, i_vv3, i_vg, i_wct, i_wln, i_sd0, i_sd1, i_sd2, i_sd3, i_rln, i_rtx, i_rpl, i_rtk, i_cnv, i_pts, i_cik, i_und⟩) (j_cV (k := 0) (C := "PageScribe$Memory") hts k_5_58 k_1_5 k_5_55 k_5_57 k_0_47 (by decide +kernel) ⟨Nat.le_of_ble_eq_true rfl, Nat.le_of_ble_eq_true rfl⟩) (j_preV (q0 := 8) (ci := 2) hK hP hD csc csc_all csc_nd cl_2 (ce_8 _ _ _) (fun _ _ _ _ h => h) (fun _ _ _ => trivial)) rfl rfl hl.1 rfl (lv_room (Nat.le_of_ble_eq_true rfl)) d_Memory_actOnDicts_49 ⟨Nat.le_of_ble_eq_true rfl, Nat.le_of_ble_eq_true rfl⟩) (fun rv2 S1 H locs hw2 hP hD hS => ?_)
    have hP : va_P D classes (cW T ad S1) H := hP
    have hD : va_D A (cW T ad S1) := hD
    obtain ⟨⟨i_vst, i_vc0, i_vc1, i_vc2, i_vc3, i_vv0, i_vv1, i_vv2, i_vv3, i_vg, i_wct, i_wln, i_sd0, i_sd1, i_sd2, i_sd3, i_rln, i_rtx, i_rpl, i_rtk, i_cnv, i_pts, i_cik, i_und⟩, kpcL_S1, kpcP_S1, kpcU_S1, kpcW_S1⟩ := hw2
    have kScL_S1 : kcL S S1 := kcL_t (show kcL S S from (kcL_r S)) kpcL_S1
    have kScP_S1 : kcP S S1 := kcP_t (show kcP S S from (kcP_r S)) kpcP_S1
    have kScU_S1 : kcU S S1 := kcU_t (show kcU S S from (kcU_r S)) kpcU_S1
    have kScW_S1 : kcW S S1 := kcW_t (show kcW S S from (kcW_r S)) kpcW_S1
    have nxr_length_S1 : (f_xr_length S1).toInt = (f_xr_length S).toInt := congrArg Int32.toInt kpcL_S1
    have nxr_length_S1 : (f_xr_length S1).toInt = (f_xr_length S).toInt := congrArg Int32.toInt kpcP_S1.1
    have nxr_place_S1 : (f_xr_place S1).toInt = (f_xr_place S).toInt := congrArg Int32.toInt kpcP_S1.2.1
    have nxe_underWay_S1 : (f_xe_underWay S1).toInt = (f_xe_underWay S).toInt := congrArg Int32.toInt kpcU_S1
    have nxp_columns_S1 : (f_xp_columns S1).toInt = (f_xp_columns S).toInt := congrArg Int32.toInt kpcW_S1.1
    have nxp_rows_S1 : (f_xp_rows S1).toInt = (f_xp_rows S).toInt := congrArg Int32.toInt kpcW_S1.2
    have rrv2 := zt_rng rv2
    exact j_iret F hr hlocks hK hS S1 ⟨⟨i_vst, i_vc0, i_vc1, i_vc2, i_vc3, i_vv0, i_vv1, i_vv2, i_vv3, i_vg, i_wct, i_wln, i_sd0, i_sd1, i_sd2, i_sd3, i_rln, i_rtx, i_rpl, i_rtk, i_cnv, i_pts, i_cik, i_und⟩, kScL_S1, kScP_S1, kScU_S1, kScW_S1⟩ hP hD d_Memory_actOnDicts_52
  by_cases h_40_1 : x1.toInt = 40
  · refine lv_tableIn (off := 45) (tgt := 53) hx hb d_Memory_actOnDicts_8 (by omega) (by omega) (by rw [show x1.toInt = 40 from h_40_1]; decide +kernel) (by decide) ?_
    refine lv_aload_n hx hb d_Memory_actOnDicts_53 rfl (lv_at hl 0 rfl) ?_
    refine jc_ci (w := (fun u => u)) hK hP hD hS hA (va_runV (As := []) (rest := []) F (c_Memory_beginScope l D T ad S  H.size ⟨i_vst, i_vc0, i_vc1, i_vc2, i_vc3, i_vv0, i_vv1, i_vv2, i_vv3, i_vg, i_wct, i_wln, i_sd0, i_sd1, i_sd2, i_sd3, i_rln, i_rtx, i_rpl, i_rtk, i_cnv, i_pts, i_cik, i_und⟩) (j_cV (k := 0) (C := "PageScribe$Memory") hts k_5_66 k_1_5 k_5_63 k_5_65 k_0_48 (by decide +kernel) ⟨Nat.le_of_ble_eq_true rfl, Nat.le_of_ble_eq_true rfl⟩) (j_preV (q0 := 8) (ci := 2) hK hP hD csc csc_all csc_nd cl_2 (ce_8 _ _ _) (fun _ _ _ _ h => h) (fun _ _ _ => trivial)) rfl rfl hl.1 rfl (lv_room (Nat.le_of_ble_eq_true rfl)) d_Memory_actOnDicts_54 ⟨Nat.le_of_ble_eq_true rfl, Nat.le_of_ble_eq_true rfl⟩) (fun rv3 S2 H locs hw3 hP hD hS => ?_)
    have hP : va_P D classes (cW T ad S2) H := hP
    have hD : va_D A (cW T ad S2) := hD
    obtain ⟨⟨i_vst, i_vc0, i_vc1, i_vc2, i_vc3, i_vv0, i_vv1, i_vv2, i_vv3, i_vg, i_wct, i_wln, i_sd0, i_sd1, i_sd2, i_sd3, i_rln, i_rtx, i_rpl, i_rtk, i_cnv, i_pts, i_cik, i_und⟩, kpcL_S2, kpcP_S2, kpcU_S2, kpcW_S2⟩ := hw3
    have kScL_S2 : kcL S S2 := kcL_t (show kcL S S from (kcL_r S)) kpcL_S2
    have kScP_S2 : kcP S S2 := kcP_t (show kcP S S from (kcP_r S)) kpcP_S2
    have kScU_S2 : kcU S S2 := kcU_t (show kcU S S from (kcU_r S)) kpcU_S2
    have kScW_S2 : kcW S S2 := kcW_t (show kcW S S from (kcW_r S)) kpcW_S2
    have nxr_length_S2 : (f_xr_length S2).toInt = (f_xr_length S).toInt := congrArg Int32.toInt kpcL_S2
    have nxr_length_S2 : (f_xr_length S2).toInt = (f_xr_length S).toInt := congrArg Int32.toInt kpcP_S2.1
    have nxr_place_S2 : (f_xr_place S2).toInt = (f_xr_place S).toInt := congrArg Int32.toInt kpcP_S2.2.1
    have nxe_underWay_S2 : (f_xe_underWay S2).toInt = (f_xe_underWay S).toInt := congrArg Int32.toInt kpcU_S2
    have nxp_columns_S2 : (f_xp_columns S2).toInt = (f_xp_columns S).toInt := congrArg Int32.toInt kpcW_S2.1
    have nxp_rows_S2 : (f_xp_rows S2).toInt = (f_xp_rows S).toInt := congrArg Int32.toInt kpcW_S2.2
    have rrv3 := zt_rng rv3
    exact j_iret F hr hlocks hK hS S2 ⟨⟨i_vst, i_vc0, i_vc1, i_vc2, i_vc3, i_vv0, i_vv1, i_vv2, i_vv3, i_vg, i_wct, i_wln, i_sd0, i_sd1, i_sd2, i_sd3, i_rln, i_rtx, i_rpl, i_rtk, i_cnv, i_pts, i_cik, i_und⟩, kScL_S2, kScP_S2, kScU_S2, kScW_S2⟩ hP hD d_Memory_actOnDicts_57
  by_cases h_41_1 : x1.toInt = 41
  · refine lv_tableIn (off := 50) (tgt := 58) hx hb d_Memory_actOnDicts_8 (by omega) (by omega) (by rw [show x1.toInt = 41 from h_41_1]; decide +kernel) (by decide) ?_
    refine lv_aload_n hx hb d_Memory_actOnDicts_58 rfl (lv_at hl 0 rfl) ?_
    refine jc_ci (w := (fun u => u)) hK hP hD hS hA (va_runV (As := []) (rest := []) F (c_Memory_endScope l D T ad S  H.size ⟨i_vst, i_vc0, i_vc1, i_vc2, i_vc3, i_vv0, i_vv1, i_vv2, i_vv3, i_vg, i_wct, i_wln, i_sd0, i_sd1, i_sd2, i_sd3, i_rln, i_rtx, i_rpl, i_rtk, i_cnv, i_pts, i_cik, i_und⟩) (j_cV (k := 0) (C := "PageScribe$Memory") hts k_5_70 k_1_5 k_5_67 k_5_69 k_0_49 (by decide +kernel) ⟨Nat.le_of_ble_eq_true rfl, Nat.le_of_ble_eq_true rfl⟩) (j_preV (q0 := 8) (ci := 2) hK hP hD csc csc_all csc_nd cl_2 (ce_8 _ _ _) (fun _ _ _ _ h => h) (fun _ _ _ => trivial)) rfl rfl hl.1 rfl (lv_room (Nat.le_of_ble_eq_true rfl)) d_Memory_actOnDicts_59 ⟨Nat.le_of_ble_eq_true rfl, Nat.le_of_ble_eq_true rfl⟩) (fun rv4 S3 H locs hw4 hP hD hS => ?_)
    have hP : va_P D classes (cW T ad S3) H := hP
    have hD : va_D A (cW T ad S3) := hD
    obtain ⟨⟨i_vst, i_vc0, i_vc1, i_vc2, i_vc3, i_vv0, i_vv1, i_vv2, i_vv3, i_vg, i_wct, i_wln, i_sd0, i_sd1, i_sd2, i_sd3, i_rln, i_rtx, i_rpl, i_rtk, i_cnv, i_pts, i_cik, i_und⟩, kpcL_S3, kpcP_S3, kpcU_S3, kpcW_S3⟩ := hw4
    have kScL_S3 : kcL S S3 := kcL_t (show kcL S S from (kcL_r S)) kpcL_S3
    have kScP_S3 : kcP S S3 := kcP_t (show kcP S S from (kcP_r S)) kpcP_S3
    have kScU_S3 : kcU S S3 := kcU_t (show kcU S S from (kcU_r S)) kpcU_S3
    have kScW_S3 : kcW S S3 := kcW_t (show kcW S S from (kcW_r S)) kpcW_S3
    have nxr_length_S3 : (f_xr_length S3).toInt = (f_xr_length S).toInt := congrArg Int32.toInt kpcL_S3
    have nxr_length_S3 : (f_xr_length S3).toInt = (f_xr_length S).toInt := congrArg Int32.toInt kpcP_S3.1
    have nxr_place_S3 : (f_xr_place S3).toInt = (f_xr_place S).toInt := congrArg Int32.toInt kpcP_S3.2.1
    have nxe_underWay_S3 : (f_xe_underWay S3).toInt = (f_xe_underWay S).toInt := congrArg Int32.toInt kpcU_S3
    have nxp_columns_S3 : (f_xp_columns S3).toInt = (f_xp_columns S).toInt := congrArg Int32.toInt kpcW_S3.1
    have nxp_rows_S3 : (f_xp_rows S3).toInt = (f_xp_rows S).toInt := congrArg Int32.toInt kpcW_S3.2
    have rrv4 := zt_rng rv4
    exact j_iret F hr hlocks hK hS S3 ⟨⟨i_vst, i_vc0, i_vc1, i_vc2, i_vc3, i_vv0, i_vv1, i_vv2, i_vv3, i_vg, i_wct, i_wln, i_sd0, i_sd1, i_sd2, i_sd3, i_rln, i_rtx, i_rpl, i_rtk, i_cnv, i_pts, i_cik, i_und⟩, kScL_S3, kScP_S3, kScU_S3, kScW_S3⟩ hP hD d_Memory_actOnDicts_62
  by_cases h_42_1 : x1.toInt = 42
  · refine lv_tableIn (off := 55) (tgt := 63) hx hb d_Memory_actOnDicts_8 (by omega) (by omega) (by rw [show x1.toInt = 42 from h_42_1]; decide +kernel) (by decide) ?_
    refine lv_aload_n hx hb d_Memory_actOnDicts_63 rfl (lv_at hl 0 rfl) ?_
    refine jc_ci (w := (fun u => u)) hK hP hD hS hA (va_runV (As := []) (rest := []) F (c_Memory_define l D T ad S  H.size ⟨i_vst, i_vc0, i_vc1, i_vc2, i_vc3, i_vv0, i_vv1, i_vv2, i_vv3, i_vg, i_wct, i_wln, i_sd0, i_sd1, i_sd2, i_sd3, i_rln, i_rtx, i_rpl, i_rtk, i_cnv, i_pts, i_cik, i_und⟩) (j_cV (k := 0) (C := "PageScribe$Memory") hts k_5_74 k_1_5 k_5_71 k_5_73 k_0_50 (by decide +kernel) ⟨Nat.le_of_ble_eq_true rfl, Nat.le_of_ble_eq_true rfl⟩) (j_preV (q0 := 8) (ci := 2) hK hP hD csc csc_all csc_nd cl_2 (ce_8 _ _ _) (fun _ _ _ _ h => h) (fun _ _ _ => trivial)) rfl rfl hl.1 rfl (lv_room (Nat.le_of_ble_eq_true rfl)) d_Memory_actOnDicts_64 ⟨Nat.le_of_ble_eq_true rfl, Nat.le_of_ble_eq_true rfl⟩) (fun rv5 S4 H locs hw5 hP hD hS => ?_)
    have hP : va_P D classes (cW T ad S4) H := hP
    have hD : va_D A (cW T ad S4) := hD
    obtain ⟨⟨i_vst, i_vc0, i_vc1, i_vc2, i_vc3, i_vv0, i_vv1, i_vv2, i_vv3, i_vg, i_wct, i_wln, i_sd0, i_sd1, i_sd2, i_sd3, i_rln, i_rtx, i_rpl, i_rtk, i_cnv, i_pts, i_cik, i_und⟩, kpcL_S4, kpcP_S4, kpcU_S4, kpcW_S4⟩ := hw5
    have kScL_S4 : kcL S S4 := kcL_t (show kcL S S from (kcL_r S)) kpcL_S4
    have kScP_S4 : kcP S S4 := kcP_t (show kcP S S from (kcP_r S)) kpcP_S4
    have kScU_S4 : kcU S S4 := kcU_t (show kcU S S from (kcU_r S)) kpcU_S4
    have kScW_S4 : kcW S S4 := kcW_t (show kcW S S from (kcW_r S)) kpcW_S4
    have nxr_length_S4 : (f_xr_length S4).toInt = (f_xr_length S).toInt := congrArg Int32.toInt kpcL_S4
    have nxr_length_S4 : (f_xr_length S4).toInt = (f_xr_length S).toInt := congrArg Int32.toInt kpcP_S4.1
    have nxr_place_S4 : (f_xr_place S4).toInt = (f_xr_place S).toInt := congrArg Int32.toInt kpcP_S4.2.1
    have nxe_underWay_S4 : (f_xe_underWay S4).toInt = (f_xe_underWay S).toInt := congrArg Int32.toInt kpcU_S4
    have nxp_columns_S4 : (f_xp_columns S4).toInt = (f_xp_columns S).toInt := congrArg Int32.toInt kpcW_S4.1
    have nxp_rows_S4 : (f_xp_rows S4).toInt = (f_xp_rows S).toInt := congrArg Int32.toInt kpcW_S4.2
    have rrv5 := zt_rng rv5
    exact j_iret F hr hlocks hK hS S4 ⟨⟨i_vst, i_vc0, i_vc1, i_vc2, i_vc3, i_vv0, i_vv1, i_vv2, i_vv3, i_vg, i_wct, i_wln, i_sd0, i_sd1, i_sd2, i_sd3, i_rln, i_rtx, i_rpl, i_rtk, i_cnv, i_pts, i_cik, i_und⟩, kScL_S4, kScP_S4, kScU_S4, kScW_S4⟩ hP hD d_Memory_actOnDicts_67
  by_cases h_43_1 : x1.toInt = 43
  · refine lv_tableIn (off := 60) (tgt := 68) hx hb d_Memory_actOnDicts_8 (by omega) (by omega) (by rw [show x1.toInt = 43 from h_43_1]; decide +kernel) (by decide) ?_
    refine lv_aload_n hx hb d_Memory_actOnDicts_68 rfl (lv_at hl 0 rfl) ?_
    refine jc_ci (w := (fun u => u)) hK hP hD hS hA (va_runV (As := []) (rest := []) F (c_Memory_load l D T ad S  H.size ⟨i_vst, i_vc0, i_vc1, i_vc2, i_vc3, i_vv0, i_vv1, i_vv2, i_vv3, i_vg, i_wct, i_wln, i_sd0, i_sd1, i_sd2, i_sd3, i_rln, i_rtx, i_rpl, i_rtk, i_cnv, i_pts, i_cik, i_und⟩) (j_cV (k := 0) (C := "PageScribe$Memory") hts k_5_78 k_1_5 k_5_75 k_5_77 k_0_51 (by decide +kernel) ⟨Nat.le_of_ble_eq_true rfl, Nat.le_of_ble_eq_true rfl⟩) (j_preV (q0 := 8) (ci := 2) hK hP hD csc csc_all csc_nd cl_2 (ce_8 _ _ _) (fun _ _ _ _ h => h) (fun _ _ _ => trivial)) rfl rfl hl.1 rfl (lv_room (Nat.le_of_ble_eq_true rfl)) d_Memory_actOnDicts_69 ⟨Nat.le_of_ble_eq_true rfl, Nat.le_of_ble_eq_true rfl⟩) (fun rv6 S5 H locs hw6 hP hD hS => ?_)
    have hP : va_P D classes (cW T ad S5) H := hP
    have hD : va_D A (cW T ad S5) := hD
    obtain ⟨⟨i_vst, i_vc0, i_vc1, i_vc2, i_vc3, i_vv0, i_vv1, i_vv2, i_vv3, i_vg, i_wct, i_wln, i_sd0, i_sd1, i_sd2, i_sd3, i_rln, i_rtx, i_rpl, i_rtk, i_cnv, i_pts, i_cik, i_und⟩, kpcL_S5, kpcP_S5, kpcU_S5, kpcW_S5⟩ := hw6
    have kScL_S5 : kcL S S5 := kcL_t (show kcL S S from (kcL_r S)) kpcL_S5
    have kScP_S5 : kcP S S5 := kcP_t (show kcP S S from (kcP_r S)) kpcP_S5
    have kScU_S5 : kcU S S5 := kcU_t (show kcU S S from (kcU_r S)) kpcU_S5
    have kScW_S5 : kcW S S5 := kcW_t (show kcW S S from (kcW_r S)) kpcW_S5
    have nxr_length_S5 : (f_xr_length S5).toInt = (f_xr_length S).toInt := congrArg Int32.toInt kpcL_S5
    have nxr_length_S5 : (f_xr_length S5).toInt = (f_xr_length S).toInt := congrArg Int32.toInt kpcP_S5.1
    have nxr_place_S5 : (f_xr_place S5).toInt = (f_xr_place S).toInt := congrArg Int32.toInt kpcP_S5.2.1
    have nxe_underWay_S5 : (f_xe_underWay S5).toInt = (f_xe_underWay S).toInt := congrArg Int32.toInt kpcU_S5
    have nxp_columns_S5 : (f_xp_columns S5).toInt = (f_xp_columns S).toInt := congrArg Int32.toInt kpcW_S5.1
    have nxp_rows_S5 : (f_xp_rows S5).toInt = (f_xp_rows S).toInt := congrArg Int32.toInt kpcW_S5.2
    have rrv6 := zt_rng rv6
    exact j_iret F hr hlocks hK hS S5 ⟨⟨i_vst, i_vc0, i_vc1, i_vc2, i_vc3, i_vv0, i_vv1, i_vv2, i_vv3, i_vg, i_wct, i_wln, i_sd0, i_sd1, i_sd2, i_sd3, i_rln, i_rtx, i_rpl, i_rtk, i_cnv, i_pts, i_cik, i_und⟩, kScL_S5, kScP_S5, kScU_S5, kScW_S5⟩ hP hD d_Memory_actOnDicts_72
  by_cases h_44_1 : x1.toInt = 44
  · refine lv_tableIn (off := 65) (tgt := 73) hx hb d_Memory_actOnDicts_8 (by omega) (by omega) (by rw [show x1.toInt = 44 from h_44_1]; decide +kernel) (by decide) ?_
    refine lv_aload_n hx hb d_Memory_actOnDicts_73 rfl (lv_at hl 0 rfl) ?_
    refine va_get (D := D) (ci := 2) (v := .ref (ad 1)) (C := "PageScribe$Memory") (T := F_Memory) (N := 8) hx hb hts i_Memory hown hK hP 8 (ce_8 _ _ _) cl_2 0 (by decide) (hts _ k_1_129) (fun _ h9 => h9) rfl d_Memory_actOnDicts_74 ?_
    refine lv_iconst (v := 2) hx hb d_Memory_actOnDicts_77 (by decide) ?_
    refine lv_aload_n hx hb d_Memory_actOnDicts_78 rfl (lv_at hl 0 rfl) ?_
    refine va_get (D := D) (ci := 2) (v := .ref (ad 12)) (C := "PageScribe$Memory") (T := F_Memory) (N := 8) hx hb hts i_Memory hown hK hP 8 (ce_8 _ _ _) cl_2 1 (by decide) (hts _ k_1_130) (fun _ h9 => h9) rfl d_Memory_actOnDicts_79 ?_
    refine lv_aload_n hx hb d_Memory_actOnDicts_82 rfl (lv_at hl 0 rfl) ?_
    refine va_get (D := D) (ci := 2) (v := .ref (ad 1)) (C := "PageScribe$Memory") (T := F_Memory) (N := 8) hx hb hts i_Memory hown hK hP 8 (ce_8 _ _ _) cl_2 0 (by decide) (hts _ k_1_129) (fun _ h9 => h9) rfl d_Memory_actOnDicts_83 ?_
    refine lv_iconst (v := 1) hx hb d_Memory_actOnDicts_86 (by decide) ?_
    refine jc_ci (w := (fun _ => S)) hK hP hD hS hA (va_runV (As := [.int 1]) (rest := [.ref (ad 12), .int 2, .ref (ad 1)]) F (c_Stack_numberDown l D T ad S (1 : Int32)  H.size) (j_cV (k := 1) (C := "PageScribe$Stack") hts k_2_130 k_1_3 k_4_237 k_2_128 k_2_129 (by decide +kernel) ⟨Nat.le_of_ble_eq_true rfl, Nat.le_of_ble_eq_true rfl⟩) (j_preV (q0 := 1) (ci := 0) hK hP hD csc csc_all csc_nd cl_0 (ce_1 _ _ _) (fun _ _ _ _ h => h) (fun _ _ _ => trivial)) rfl rfl hl.1 rfl (lv_room (Nat.le_of_ble_eq_true rfl)) d_Memory_actOnDicts_87 ⟨Nat.le_of_ble_eq_true rfl, Nat.le_of_ble_eq_true rfl⟩) (fun rv7 u2 H locs hw7 hP hD hS => ?_)
    have hP : va_P D classes (cW T ad S) H := hP
    have hD : va_D A (cW T ad S) := hD
    have rrv7 := zt_rng rv7
    refine lv_aload_n hx hb d_Memory_actOnDicts_90 rfl (lv_at hl 0 rfl) ?_
    refine va_get (D := D) (ci := 2) (v := .ref (ad 1)) (C := "PageScribe$Memory") (T := F_Memory) (N := 8) hx hb hts i_Memory hown hK hP 8 (ce_8 _ _ _) cl_2 0 (by decide) (hts _ k_1_129) (fun _ h9 => h9) rfl d_Memory_actOnDicts_91 ?_
    refine lv_iconst (v := 0) hx hb d_Memory_actOnDicts_94 (by decide) ?_
    refine jc_ci (w := (fun _ => S)) hK hP hD hS hA (va_runV (As := [.int 0]) (rest := [.int rv7, .ref (ad 12), .int 2, .ref (ad 1)]) F (c_Stack_numberDown l D T ad S (0 : Int32)  H.size) (j_cV (k := 1) (C := "PageScribe$Stack") hts k_2_130 k_1_3 k_4_237 k_2_128 k_2_129 (by decide +kernel) ⟨Nat.le_of_ble_eq_true rfl, Nat.le_of_ble_eq_true rfl⟩) (j_preV (q0 := 1) (ci := 0) hK hP hD csc csc_all csc_nd cl_0 (ce_1 _ _ _) (fun _ _ _ _ h => h) (fun _ _ _ => trivial)) rfl rfl hl.1 rfl (lv_room (Nat.le_of_ble_eq_true rfl)) d_Memory_actOnDicts_95 ⟨Nat.le_of_ble_eq_true rfl, Nat.le_of_ble_eq_true rfl⟩) (fun rv8 u3 H locs hw8 hP hD hS => ?_)
    have hP : va_P D classes (cW T ad S) H := hP
    have hD : va_D A (cW T ad S) := hD
    have rrv8 := zt_rng rv8
    refine jc_ci (w := (fun _ => S)) hK hP hD hS hA (va_runV (As := [.int rv7, .int rv8]) (rest := [.int 2, .ref (ad 1)]) F (c_Store_find l D T ad S rv7 rv8  H.size ⟨i_vst, i_vc0, i_vc1, i_vc2, i_vc3, i_vv0, i_vv1, i_vv2, i_vv3, i_vg, i_wct, i_wln, i_sd0, i_sd1, i_sd2, i_sd3, i_rln, i_rtx, i_rpl, i_rtk, i_cnv, i_pts, i_cik, i_und⟩) (j_cV (k := 2) (C := "PageScribe$Store") hts k_3_184 k_1_6 k_3_181 k_3_182 k_3_183 (by decide +kernel) ⟨Nat.le_of_ble_eq_true rfl, Nat.le_of_ble_eq_true rfl⟩) (j_preV (q0 := 12) (ci := 3) hK hP hD csc csc_all csc_nd cl_3 (ce_12 _ _ _) (fun _ _ _ _ h => h) (fun _ _ _ => trivial)) rfl rfl hl.1 rfl (lv_room (Nat.le_of_ble_eq_true rfl)) d_Memory_actOnDicts_98 ⟨Nat.le_of_ble_eq_true rfl, Nat.le_of_ble_eq_true rfl⟩) (fun rv9 u4 H locs hw9 hP hD hS => ?_)
    have hP : va_P D classes (cW T ad S) H := hP
    have hD : va_D A (cW T ad S) := hD
    have rrv9 := zt_rng rv9
    refine lv_if_lt (tgt := 108) hx hb d_Memory_actOnDicts_101 (by decide) (fun c101_1 => ?_) (fun c101_1 => ?_)
    · have fc101_1 : rv9.toInt < 0 := zt_lt (show rv9.toInt = _ from rfl) tI_0 c101_1
      refine lv_iconst (v := 0) hx hb d_Memory_actOnDicts_108 (by decide) ?_
      refine jc_ci (w := (fun u => u)) hK hP hD hS hA (va_runV (As := [.int 2, .int 0]) (rest := []) F (c_Stack_giveFlag l D T ad S (2 : Int32) (0 : Int32)  H.size ⟨i_vst, i_vc0, i_vc1, i_vc2, i_vc3, i_vv0, i_vv1, i_vv2, i_vv3, i_vg, i_wct, i_wln, i_sd0, i_sd1, i_sd2, i_sd3, i_rln, i_rtx, i_rpl, i_rtk, i_cnv, i_pts, i_cik, i_und⟩) (j_cV (k := 2) (C := "PageScribe$Stack") hts k_4_195 k_1_3 k_5_80 k_4_193 k_4_194 (by decide +kernel) ⟨Nat.le_of_ble_eq_true rfl, Nat.le_of_ble_eq_true rfl⟩) (j_preV (q0 := 1) (ci := 0) hK hP hD csc csc_all csc_nd cl_0 (ce_1 _ _ _) (fun _ _ _ _ h => h) (fun _ _ _ => trivial)) rfl rfl hl.1 rfl (lv_room (Nat.le_of_ble_eq_true rfl)) d_Memory_actOnDicts_109 ⟨Nat.le_of_ble_eq_true rfl, Nat.le_of_ble_eq_true rfl⟩) (fun rv10 S6 H locs hw10 hP hD hS => ?_)
      have hP : va_P D classes (cW T ad S6) H := hP
      have hD : va_D A (cW T ad S6) := hD
      obtain ⟨⟨i_vst, i_vc0, i_vc1, i_vc2, i_vc3, i_vv0, i_vv1, i_vv2, i_vv3, i_vg, i_wct, i_wln, i_sd0, i_sd1, i_sd2, i_sd3, i_rln, i_rtx, i_rpl, i_rtk, i_cnv, i_pts, i_cik, i_und⟩, kpcL_S6, kpcP_S6, kpcU_S6, kpcW_S6⟩ := hw10
      have kScL_S6 : kcL S S6 := kcL_t (show kcL S S from (kcL_r S)) kpcL_S6
      have kScP_S6 : kcP S S6 := kcP_t (show kcP S S from (kcP_r S)) kpcP_S6
      have kScU_S6 : kcU S S6 := kcU_t (show kcU S S from (kcU_r S)) kpcU_S6
      have kScW_S6 : kcW S S6 := kcW_t (show kcW S S from (kcW_r S)) kpcW_S6
      have nxr_length_S6 : (f_xr_length S6).toInt = (f_xr_length S).toInt := congrArg Int32.toInt kpcL_S6
      have nxr_length_S6 : (f_xr_length S6).toInt = (f_xr_length S).toInt := congrArg Int32.toInt kpcP_S6.1
      have nxr_place_S6 : (f_xr_place S6).toInt = (f_xr_place S).toInt := congrArg Int32.toInt kpcP_S6.2.1
      have nxe_underWay_S6 : (f_xe_underWay S6).toInt = (f_xe_underWay S).toInt := congrArg Int32.toInt kpcU_S6
      have nxp_columns_S6 : (f_xp_columns S6).toInt = (f_xp_columns S).toInt := congrArg Int32.toInt kpcW_S6.1
      have nxp_rows_S6 : (f_xp_rows S6).toInt = (f_xp_rows S).toInt := congrArg Int32.toInt kpcW_S6.2
      have rrv10 := zt_rng rv10
      exact j_iret F hr hlocks hK hS S6 ⟨⟨i_vst, i_vc0, i_vc1, i_vc2, i_vc3, i_vv0, i_vv1, i_vv2, i_vv3, i_vg, i_wct, i_wln, i_sd0, i_sd1, i_sd2, i_sd3, i_rln, i_rtx, i_rpl, i_rtk, i_cnv, i_pts, i_cik, i_und⟩, kScL_S6, kScP_S6, kScU_S6, kScW_S6⟩ hP hD d_Memory_actOnDicts_112
    · have fc101_1 : 0 ≤ rv9.toInt := Int.not_lt.mp (zt_nlt (show rv9.toInt = _ from rfl) tI_0 c101_1)
      refine lv_iconst (v := 1) hx hb d_Memory_actOnDicts_104 (by decide) ?_
      refine lv_goto (tgt := 109) hx hb d_Memory_actOnDicts_105 (by decide) ?_
      refine jc_ci (w := (fun u => u)) hK hP hD hS hA (va_runV (As := [.int 2, .int 1]) (rest := []) F (c_Stack_giveFlag l D T ad S (2 : Int32) (1 : Int32)  H.size ⟨i_vst, i_vc0, i_vc1, i_vc2, i_vc3, i_vv0, i_vv1, i_vv2, i_vv3, i_vg, i_wct, i_wln, i_sd0, i_sd1, i_sd2, i_sd3, i_rln, i_rtx, i_rpl, i_rtk, i_cnv, i_pts, i_cik, i_und⟩) (j_cV (k := 2) (C := "PageScribe$Stack") hts k_4_195 k_1_3 k_5_80 k_4_193 k_4_194 (by decide +kernel) ⟨Nat.le_of_ble_eq_true rfl, Nat.le_of_ble_eq_true rfl⟩) (j_preV (q0 := 1) (ci := 0) hK hP hD csc csc_all csc_nd cl_0 (ce_1 _ _ _) (fun _ _ _ _ h => h) (fun _ _ _ => trivial)) rfl rfl hl.1 rfl (lv_room (Nat.le_of_ble_eq_true rfl)) d_Memory_actOnDicts_109 ⟨Nat.le_of_ble_eq_true rfl, Nat.le_of_ble_eq_true rfl⟩) (fun rv11 S7 H locs hw11 hP hD hS => ?_)
      have hP : va_P D classes (cW T ad S7) H := hP
      have hD : va_D A (cW T ad S7) := hD
      obtain ⟨⟨i_vst, i_vc0, i_vc1, i_vc2, i_vc3, i_vv0, i_vv1, i_vv2, i_vv3, i_vg, i_wct, i_wln, i_sd0, i_sd1, i_sd2, i_sd3, i_rln, i_rtx, i_rpl, i_rtk, i_cnv, i_pts, i_cik, i_und⟩, kpcL_S7, kpcP_S7, kpcU_S7, kpcW_S7⟩ := hw11
      have kScL_S7 : kcL S S7 := kcL_t (show kcL S S from (kcL_r S)) kpcL_S7
      have kScP_S7 : kcP S S7 := kcP_t (show kcP S S from (kcP_r S)) kpcP_S7
      have kScU_S7 : kcU S S7 := kcU_t (show kcU S S from (kcU_r S)) kpcU_S7
      have kScW_S7 : kcW S S7 := kcW_t (show kcW S S from (kcW_r S)) kpcW_S7
      have nxr_length_S7 : (f_xr_length S7).toInt = (f_xr_length S).toInt := congrArg Int32.toInt kpcL_S7
      have nxr_length_S7 : (f_xr_length S7).toInt = (f_xr_length S).toInt := congrArg Int32.toInt kpcP_S7.1
      have nxr_place_S7 : (f_xr_place S7).toInt = (f_xr_place S).toInt := congrArg Int32.toInt kpcP_S7.2.1
      have nxe_underWay_S7 : (f_xe_underWay S7).toInt = (f_xe_underWay S).toInt := congrArg Int32.toInt kpcU_S7
      have nxp_columns_S7 : (f_xp_columns S7).toInt = (f_xp_columns S).toInt := congrArg Int32.toInt kpcW_S7.1
      have nxp_rows_S7 : (f_xp_rows S7).toInt = (f_xp_rows S).toInt := congrArg Int32.toInt kpcW_S7.2
      have rrv11 := zt_rng rv11
      exact j_iret F hr hlocks hK hS S7 ⟨⟨i_vst, i_vc0, i_vc1, i_vc2, i_vc3, i_vv0, i_vv1, i_vv2, i_vv3, i_vg, i_wct, i_wln, i_sd0, i_sd1, i_sd2, i_sd3, i_rln, i_rtx, i_rpl, i_rtk, i_cnv, i_pts, i_cik, i_und⟩, kScL_S7, kScP_S7, kScU_S7, kScW_S7⟩ hP hD d_Memory_actOnDicts_112
  refine lv_tableOut (tgt := 113) hx hb d_Memory_actOnDicts_8 (by omega) (by decide) ?_
  refine lv_aload_n hx hb d_Memory_actOnDicts_113 rfl (lv_at hl 0 rfl) ?_
  refine va_get (D := D) (ci := 2) (v := .ref (ad 1)) (C := "PageScribe$Memory") (T := F_Memory) (N := 8) hx hb hts i_Memory hown hK hP 8 (ce_8 _ _ _) cl_2 0 (by decide) (hts _ k_1_129) (fun _ h9 => h9) rfl d_Memory_actOnDicts_114 ?_
  refine lv_bipush (v := 6) hx hb d_Memory_actOnDicts_117 (by decide) ?_
  refine lv_aload_n hx hb d_Memory_actOnDicts_119 rfl (lv_at hl 0 rfl) ?_
  refine lv_aload_n hx hb d_Memory_actOnDicts_120 rfl (lv_at hl 0 rfl) ?_
  refine va_get (D := D) (ci := 2) (v := .int (f_xm_scopeCount S)) (C := "PageScribe$Memory") (T := F_Memory) (N := 8) hx hb hts i_Memory hown hK hP 8 (ce_8 _ _ _) cl_2 3 (by decide) (hts _ k_1_134) (fun _ h9 => h9) rfl d_Memory_actOnDicts_121 ?_
  refine lv_iconst (v := 1) hx hb d_Memory_actOnDicts_124 (by decide) ?_
  refine lv_isub hx hb d_Memory_actOnDicts_125 ?_
  refine lv_topi (fun x2 ex2 => ?_)
  have rx2 := zt_rng x2
  refine jc_ci (w := (fun _ => S)) hK hP hD hS hA (va_runV (As := [.int x2]) (rest := [.int 6, .ref (ad 1)]) F (c_Memory_scopeAt l D T ad S x2  H.size) (j_cV (k := 1) (C := "PageScribe$Memory") hts k_3_180 k_1_5 k_3_177 k_3_179 k_0_15 (by decide +kernel) ⟨Nat.le_of_ble_eq_true rfl, Nat.le_of_ble_eq_true rfl⟩) (j_preV (q0 := 8) (ci := 2) hK hP hD csc csc_all csc_nd cl_2 (ce_8 _ _ _) (fun _ _ _ _ h => h) (fun _ _ _ => trivial)) rfl rfl hl.1 rfl (lv_room (Nat.le_of_ble_eq_true rfl)) d_Memory_actOnDicts_126 ⟨Nat.le_of_ble_eq_true rfl, Nat.le_of_ble_eq_true rfl⟩) (fun rv12 u5 H locs hw12 hP hD hS => ?_)
  have hP : va_P D classes (cW T ad S) H := hP
  have hD : va_D A (cW T ad S) := hD
  have rrv12 := zt_rng rv12
  refine lv_dconst0 hx hb d_Memory_actOnDicts_129 ?_
  have := tD_0
  refine jc_ci (w := (fun u => u)) hK hP hD hS hA (va_runU (As := [.int 6, .int rv12, .double 0]) (rest := []) F (c_Row_push l D T ad S (6 : Int32) rv12 0  H.size ⟨i_vst, i_vc0, i_vc1, i_vc2, i_vc3, i_vv0, i_vv1, i_vv2, i_vv3, i_vg, i_wct, i_wln, i_sd0, i_sd1, i_sd2, i_sd3, i_rln, i_rtx, i_rpl, i_rtk, i_cnv, i_pts, i_cik, i_und⟩ (show dB 0 by have := tI_6; omega)) (j_cU (k := 3) (C := "PageScribe$Stack") (owner := "PageScribe$Row") (x := ⟨"PageScribe$Stack", "push", "(IID)I"⟩) hts k_2_104 k_4_232 k_2_100 k_2_102 k_2_103 k_1_2 rfl (by decide +kernel) ⟨Nat.le_of_ble_eq_true rfl, Nat.le_of_ble_eq_true rfl⟩) (j_preV (q0 := 1) (ci := 0) hK hP hD csc csc_all csc_nd cl_0 (ce_1 _ _ _) (fun _ _ _ _ h => h) (fun _ _ _ => trivial)) rfl rfl hl.1 rfl (lv_room (Nat.le_of_ble_eq_true rfl)) d_Memory_actOnDicts_130 ⟨Nat.le_of_ble_eq_true rfl, Nat.le_of_ble_eq_true rfl⟩) (fun rv13 S8 H locs hw13 hP hD hS => ?_)
  have hP : va_P D classes (cW T ad S8) H := hP
  have hD : va_D A (cW T ad S8) := hD
  obtain ⟨⟨i_vst, i_vc0, i_vc1, i_vc2, i_vc3, i_vv0, i_vv1, i_vv2, i_vv3, i_vg, i_wct, i_wln, i_sd0, i_sd1, i_sd2, i_sd3, i_rln, i_rtx, i_rpl, i_rtk, i_cnv, i_pts, i_cik, i_und⟩, kpcL_S8, kpcP_S8, kpcU_S8, kpcW_S8⟩ := hw13
  have kScL_S8 : kcL S S8 := kcL_t (show kcL S S from (kcL_r S)) kpcL_S8
  have kScP_S8 : kcP S S8 := kcP_t (show kcP S S from (kcP_r S)) kpcP_S8
  have kScU_S8 : kcU S S8 := kcU_t (show kcU S S from (kcU_r S)) kpcU_S8
  have kScW_S8 : kcW S S8 := kcW_t (show kcW S S from (kcW_r S)) kpcW_S8
  have nxr_length_S8 : (f_xr_length S8).toInt = (f_xr_length S).toInt := congrArg Int32.toInt kpcL_S8
  have nxr_length_S8 : (f_xr_length S8).toInt = (f_xr_length S).toInt := congrArg Int32.toInt kpcP_S8.1
  have nxr_place_S8 : (f_xr_place S8).toInt = (f_xr_place S).toInt := congrArg Int32.toInt kpcP_S8.2.1
  have nxe_underWay_S8 : (f_xe_underWay S8).toInt = (f_xe_underWay S).toInt := congrArg Int32.toInt kpcU_S8
  have nxp_columns_S8 : (f_xp_columns S8).toInt = (f_xp_columns S).toInt := congrArg Int32.toInt kpcW_S8.1
  have nxp_rows_S8 : (f_xp_rows S8).toInt = (f_xp_rows S).toInt := congrArg Int32.toInt kpcW_S8.2
  have rrv13 := zt_rng rv13
  exact j_iret F hr hlocks hK hS S8 ⟨⟨i_vst, i_vc0, i_vc1, i_vc2, i_vc3, i_vv0, i_vv1, i_vv2, i_vv3, i_vg, i_wct, i_wln, i_sd0, i_sd1, i_sd2, i_sd3, i_rln, i_rtx, i_rpl, i_rtk, i_cnv, i_pts, i_cik, i_und⟩, kScL_S8, kScP_S8, kScU_S8, kScW_S8⟩ hP hD d_Memory_actOnDicts_133
set_option maxHeartbeats 4000000 in
set_option maxRecDepth 100000 in
theorem c_Row_push_s (l : Launch) (D : va_G) (T : Nat → ClassId) (ad : Nat → Nat) (S : CS) (p0 : Int32) (p1 : Int32) (d0 : UInt64) (sz : Nat)  (hI : CIv S) (h1 : dB d0) : Met l ⟨"PageScribe$Row", "push", "(IID)I"⟩ (wy ⟨"PageScribe$Row", "push", "(IID)I"⟩ prog_8_method_6_code 5 (some .int)) ({ frames := 0, cells := 0, slots := 0, locals := 0 }) (va_Pc [.ref (ad 1), .int p0, .int p1, .double d0] (Pw D T (cW T ad S) sz E0)) (va_Qi (fun (r : Int32) (u : CS) => CIv u ∧ kcL S u ∧ kcP S u ∧ kcU S u ∧ kcW S u ∧ ((f_xm_openSaves u).toInt = (f_xm_openSaves S).toInt)) (fun u t => Bw D T (va_A (cW T ad S) sz) (cW T ad u) t) (va_A (cW T ad S) sz)) 0 0 (va_A (cW T ad S) sz) := by
  refine j_met (y := ⟨"PageScribe$Row", "push", "(IID)I"⟩) (b := prog_8_method_6_code) (n := 5) (ret := (some .int)) (av := [.ref (ad 1), .int p0, .int p1, .double d0]) (Qc := fun A => va_Qi (fun (r : Int32) (u : CS) => CIv u ∧ kcL S u ∧ kcP S u ∧ kcU S u ∧ kcW S u ∧ ((f_xm_openSaves u).toInt = (f_xm_openSaves S).toInt)) (fun u t => Bw D T A (cW T ad u) t) A) (by decide +kernel) (Nat.le_of_ble_eq_true rfl) (fun p e s m args below meth c A ls F hr hlocks hnm hK hP hD hS hA hN hE hl => ?_)
  obtain ⟨hx, hb, hml, hown, hts⟩ := id F
  have hl : lv_has ls 5 [(0, .ref (ad 1)), (1, .int p0), (2, .int p1), (3, .double d0)] := hl
  obtain ⟨i_vst, i_vc0, i_vc1, i_vc2, i_vc3, i_vv0, i_vv1, i_vv2, i_vv3, i_vg, i_wct, i_wln, i_sd0, i_sd1, i_sd2, i_sd3, i_rln, i_rtx, i_rpl, i_rtk, i_cnv, i_pts, i_cik, i_und⟩ := id hI
  have rp0 := zt_rng p0
  have rp1 := zt_rng p1
  refine lv_aload_n hx hb d_Row_push_0 rfl (lv_at hl 0 rfl) ?_
  refine va_get (D := D) (ci := 0) (v := .int (f_xst_z S)) (C := "PageScribe$Stack") (T := F_Stack) (N := 4) hx hb hts i_Stack hown hK hP 1 (ce_1 _ _ _) cl_0 3 (by decide) (hts _ k_1_49) (fun _ h9 => h9) rfl d_Row_push_1 ?_
  refine lv_if_lt (tgt := 19) hx hb d_Row_push_4 (by decide) (fun c4_1 => ?_) (fun c4_1 => ?_)
  · have fc4_1 : (f_xst_z S).toInt < 0 := zt_lt (show (f_xst_z S).toInt = _ from rfl) tI_0 c4_1
    refine lv_iconst (v := 2) hx hb d_Row_push_19 (by decide) ?_
    exact j_iret F hr hlocks hK hS S ⟨⟨i_vst, i_vc0, i_vc1, i_vc2, i_vc3, i_vv0, i_vv1, i_vv2, i_vv3, i_vg, i_wct, i_wln, i_sd0, i_sd1, i_sd2, i_sd3, i_rln, i_rtx, i_rpl, i_rtk, i_cnv, i_pts, i_cik, i_und⟩, (kcL_r S), (kcP_r S), (kcU_r S), (kcW_r S), (show (f_xm_openSaves S).toInt = (f_xm_openSaves S).toInt by have := tI_2; rfl)⟩ hP hD d_Row_push_20
  · have fc4_1 : 0 ≤ (f_xst_z S).toInt := Int.not_lt.mp (zt_nlt (show (f_xst_z S).toInt = _ from rfl) tI_0 c4_1)
    refine lv_aload_n hx hb d_Row_push_7 rfl (lv_at hl 0 rfl) ?_
    refine va_get (D := D) (ci := 0) (v := .int (f_xst_z S)) (C := "PageScribe$Stack") (T := F_Stack) (N := 4) hx hb hts i_Stack hown hK hP 1 (ce_1 _ _ _) cl_0 3 (by decide) (hts _ k_1_49) (fun _ h9 => h9) rfl d_Row_push_8 ?_
    refine lv_aload_n hx hb d_Row_push_11 rfl (lv_at hl 0 rfl) ?_
    refine va_get (D := D) (ci := 0) (v := .ref (ad 2)) (C := "PageScribe$Stack") (T := F_Stack) (N := 4) hx hb hts i_Stack hown hK hP 1 (ce_1 _ _ _) cl_0 0 (by decide) (hts _ k_1_46) (fun _ h9 => h9) rfl d_Row_push_12 ?_
    refine va_alen (v := 40) hx hb hK hP 2 0 (ce_2 _ _ _) rfl (show Int32.ofNat 40 = 40 from by decide +kernel) d_Row_push_15 ?_
    refine lv_icmp_lt (tgt := 21) hx hb d_Row_push_16 (by decide) (fun c16_1 => ?_) (fun c16_1 => ?_)
    · have fc16_1 : (f_xst_z S).toInt < 40 := zt_lt (show (f_xst_z S).toInt = _ from rfl) tI_40 c16_1
      refine lv_aload_n hx hb d_Row_push_21 rfl (lv_at hl 0 rfl) ?_
      refine va_get (D := D) (ci := 0) (v := .ref (ad 2)) (C := "PageScribe$Stack") (T := F_Stack) (N := 4) hx hb hts i_Stack hown hK hP 1 (ce_1 _ _ _) cl_0 0 (by decide) (hts _ k_1_46) (fun _ h9 => h9) rfl d_Row_push_22 ?_
      refine lv_aload_n hx hb d_Row_push_25 rfl (lv_at hl 0 rfl) ?_
      refine va_get (D := D) (ci := 0) (v := .int (f_xst_z S)) (C := "PageScribe$Stack") (T := F_Stack) (N := 4) hx hb hts i_Stack hown hK hP 1 (ce_1 _ _ _) cl_0 3 (by decide) (hts _ k_1_49) (fun _ h9 => h9) rfl d_Row_push_26 ?_
      refine lv_iload_n hx hb d_Row_push_29 rfl (lv_at hl 1 rfl) ?_
      refine va_iast hx hb hK hP hD hS 2 0 (ce_2 _ _ _) rfl (zt_in (show (f_xst_z S).toInt = _ from rfl) (by omega) (by omega)) d_Row_push_30 (fun H locs hP hD hS => ?_)
      rw [cs_xst_k] at hP hD
      rw [zt_ix (show (f_xst_z S).toInt = _ from rfl)] at hP hD
      have hP : va_P D classes (cW T ad ((((upd (a_xst_k S) ((f_xst_z S).toInt.toNat) p0), (a_xst_n S), (a_xst_r S), (f_xst_z S), (a_xw_letters S), (a_xw_lengths S), (f_xw_count S)), S.2.1, S.2.2.1, S.2.2.2.1, S.2.2.2.2.1, S.2.2.2.2.2.1, S.2.2.2.2.2.2.1, S.2.2.2.2.2.2.2.1, S.2.2.2.2.2.2.2.2) : CS)) H := hP
      have hD : va_D A (cW T ad ((((upd (a_xst_k S) ((f_xst_z S).toInt.toNat) p0), (a_xst_n S), (a_xst_r S), (f_xst_z S), (a_xw_letters S), (a_xw_lengths S), (f_xw_count S)), S.2.1, S.2.2.1, S.2.2.2.1, S.2.2.2.2.1, S.2.2.2.2.2.1, S.2.2.2.2.2.2.1, S.2.2.2.2.2.2.2.1, S.2.2.2.2.2.2.2.2) : CS)) := hD
      refine lv_aload_n hx hb d_Row_push_31 rfl (lv_at hl 0 rfl) ?_
      refine va_get (D := D) (ci := 0) (v := .ref (ad 3)) (C := "PageScribe$Stack") (T := F_Stack) (N := 4) hx hb hts i_Stack hown hK hP 1 (ce_1 _ _ _) cl_0 1 (by decide) (hts _ k_1_47) (fun _ h9 => h9) rfl d_Row_push_32 ?_
      refine lv_aload_n hx hb d_Row_push_35 rfl (lv_at hl 0 rfl) ?_
      refine va_get (D := D) (ci := 0) (v := .int (f_xst_z S)) (C := "PageScribe$Stack") (T := F_Stack) (N := 4) hx hb hts i_Stack hown hK hP 1 (ce_1 _ _ _) cl_0 3 (by decide) (hts _ k_1_49) (fun _ h9 => h9) rfl d_Row_push_36 ?_
      refine lv_iload_n hx hb d_Row_push_39 rfl (lv_at hl 2 rfl) ?_
      refine va_iast hx hb hK hP hD hS 3 0 (ce_3 _ _ _) rfl (zt_in (show (f_xst_z S).toInt = _ from rfl) (by omega) (by omega)) d_Row_push_40 (fun H locs hP hD hS => ?_)
      rw [cs_xst_n] at hP hD
      rw [zt_ix (show (f_xst_z S).toInt = _ from rfl)] at hP hD
      have hP : va_P D classes (cW T ad ((((upd (a_xst_k S) ((f_xst_z S).toInt.toNat) p0), (upd (a_xst_n S) ((f_xst_z S).toInt.toNat) p1), (a_xst_r S), (f_xst_z S), (a_xw_letters S), (a_xw_lengths S), (f_xw_count S)), S.2.1, S.2.2.1, S.2.2.2.1, S.2.2.2.2.1, S.2.2.2.2.2.1, S.2.2.2.2.2.2.1, S.2.2.2.2.2.2.2.1, S.2.2.2.2.2.2.2.2) : CS)) H := hP
      have hD : va_D A (cW T ad ((((upd (a_xst_k S) ((f_xst_z S).toInt.toNat) p0), (upd (a_xst_n S) ((f_xst_z S).toInt.toNat) p1), (a_xst_r S), (f_xst_z S), (a_xw_letters S), (a_xw_lengths S), (f_xw_count S)), S.2.1, S.2.2.1, S.2.2.2.1, S.2.2.2.2.1, S.2.2.2.2.2.1, S.2.2.2.2.2.2.1, S.2.2.2.2.2.2.2.1, S.2.2.2.2.2.2.2.2) : CS)) := hD
      refine lv_aload_n hx hb d_Row_push_41 rfl (lv_at hl 0 rfl) ?_
      refine va_get (D := D) (ci := 0) (v := .ref (ad 4)) (C := "PageScribe$Stack") (T := F_Stack) (N := 4) hx hb hts i_Stack hown hK hP 1 (ce_1 _ _ _) cl_0 2 (by decide) (hts _ k_1_48) (fun _ h9 => h9) rfl d_Row_push_42 ?_
      refine lv_aload_n hx hb d_Row_push_45 rfl (lv_at hl 0 rfl) ?_
      refine va_get (D := D) (ci := 0) (v := .int (f_xst_z S)) (C := "PageScribe$Stack") (T := F_Stack) (N := 4) hx hb hts i_Stack hown hK hP 1 (ce_1 _ _ _) cl_0 3 (by decide) (hts _ k_1_49) (fun _ h9 => h9) rfl d_Row_push_46 ?_
      refine lv_dload_n hx hb d_Row_push_49 rfl (lv_at hl 3 rfl) ?_
      refine va_dast hx hb hK hP hD hS 4 3 (ce_4 _ _ _) rfl (zt_in (show (f_xst_z S).toInt = _ from rfl) (by omega) (by omega)) d_Row_push_50 (fun H locs hP hD hS => ?_)
      rw [cs_xst_r] at hP hD
      rw [zt_ix (show (f_xst_z S).toInt = _ from rfl)] at hP hD
      have hP : va_P D classes (cW T ad ((((upd (a_xst_k S) ((f_xst_z S).toInt.toNat) p0), (upd (a_xst_n S) ((f_xst_z S).toInt.toNat) p1), (vf_upd (a_xst_r S) ((f_xst_z S).toInt.toNat) d0), (f_xst_z S), (a_xw_letters S), (a_xw_lengths S), (f_xw_count S)), S.2.1, S.2.2.1, S.2.2.2.1, S.2.2.2.2.1, S.2.2.2.2.2.1, S.2.2.2.2.2.2.1, S.2.2.2.2.2.2.2.1, S.2.2.2.2.2.2.2.2) : CS)) H := hP
      have hD : va_D A (cW T ad ((((upd (a_xst_k S) ((f_xst_z S).toInt.toNat) p0), (upd (a_xst_n S) ((f_xst_z S).toInt.toNat) p1), (vf_upd (a_xst_r S) ((f_xst_z S).toInt.toNat) d0), (f_xst_z S), (a_xw_letters S), (a_xw_lengths S), (f_xw_count S)), S.2.1, S.2.2.1, S.2.2.2.1, S.2.2.2.2.1, S.2.2.2.2.2.1, S.2.2.2.2.2.2.1, S.2.2.2.2.2.2.2.1, S.2.2.2.2.2.2.2.2) : CS)) := hD
      have i_vst : ∀ k, k < 40 → dB ((vf_upd (a_xst_r S) ((f_xst_z S).toInt.toNat) d0) k) := dB_up i_vst (by omega)
      refine lv_aload_n hx hb d_Row_push_51 rfl (lv_at hl 0 rfl) ?_
      refine lv_dup hx hb d_Row_push_52 rfl ?_
      refine va_get (D := D) (ci := 0) (v := .int (f_xst_z S)) (C := "PageScribe$Stack") (T := F_Stack) (N := 4) hx hb hts i_Stack hown hK hP 1 (ce_1 _ _ _) cl_0 3 (by decide) (hts _ k_1_49) (fun _ h9 => h9) rfl d_Row_push_53 ?_
      refine lv_iconst (v := 1) hx hb d_Row_push_56 (by decide) ?_
      refine lv_iadd hx hb d_Row_push_57 ?_
      refine lv_topi (fun x1 ex1 => ?_)
      have rx1 := zt_rng x1
      refine va_put (D := D) (ci := 0) (v := .int x1) (ty := .int) (C := "PageScribe$Stack") (T := F_Stack) (N := 4) hx hb hts i_Stack t_Stack t_Stack_ok n_Stack hown hK hP hD hS 1 (ce_1 _ _ _) cl_0 3 (by decide) (hts _ k_1_49) (fun _ h9 => h9) rfl (by decide +kernel) rfl rfl (Nat.le_of_ble_eq_true rfl) d_Row_push_58 (fun H locs hP hD hS => ?_)
      rw [cp_xst_z] at hP hD
      have hP : va_P D classes (cW T ad ((((upd (a_xst_k S) ((f_xst_z S).toInt.toNat) p0), (upd (a_xst_n S) ((f_xst_z S).toInt.toNat) p1), (vf_upd (a_xst_r S) ((f_xst_z S).toInt.toNat) d0), x1, (a_xw_letters S), (a_xw_lengths S), (f_xw_count S)), S.2.1, S.2.2.1, S.2.2.2.1, S.2.2.2.2.1, S.2.2.2.2.2.1, S.2.2.2.2.2.2.1, S.2.2.2.2.2.2.2.1, S.2.2.2.2.2.2.2.2) : CS)) H := hP
      have hD : va_D A (cW T ad ((((upd (a_xst_k S) ((f_xst_z S).toInt.toNat) p0), (upd (a_xst_n S) ((f_xst_z S).toInt.toNat) p1), (vf_upd (a_xst_r S) ((f_xst_z S).toInt.toNat) d0), x1, (a_xw_letters S), (a_xw_lengths S), (f_xw_count S)), S.2.1, S.2.2.1, S.2.2.2.1, S.2.2.2.2.1, S.2.2.2.2.2.1, S.2.2.2.2.2.2.1, S.2.2.2.2.2.2.2.1, S.2.2.2.2.2.2.2.2) : CS)) := hD
      refine lv_iconst (v := 0) hx hb d_Row_push_61 (by decide) ?_
      exact j_iret F hr hlocks hK hS ((((upd (a_xst_k S) ((f_xst_z S).toInt.toNat) p0), (upd (a_xst_n S) ((f_xst_z S).toInt.toNat) p1), (vf_upd (a_xst_r S) ((f_xst_z S).toInt.toNat) d0), x1, (a_xw_letters S), (a_xw_lengths S), (f_xw_count S)), S.2.1, S.2.2.1, S.2.2.2.1, S.2.2.2.2.1, S.2.2.2.2.2.1, S.2.2.2.2.2.2.1, S.2.2.2.2.2.2.2.1, S.2.2.2.2.2.2.2.2) : CS) ⟨⟨i_vst, i_vc0, i_vc1, i_vc2, i_vc3, i_vv0, i_vv1, i_vv2, i_vv3, i_vg, i_wct, i_wln, i_sd0, i_sd1, i_sd2, i_sd3, i_rln, i_rtx, i_rpl, i_rtk, i_cnv, i_pts, i_cik, i_und⟩, (kcL_r S), (kcP_r S), (kcU_r S), (kcW_r S), (show (f_xm_openSaves S).toInt = (f_xm_openSaves S).toInt by have := tI_0; rfl)⟩ hP hD d_Row_push_62
    · have fc16_1 : 40 ≤ (f_xst_z S).toInt := Int.not_lt.mp (zt_nlt (show (f_xst_z S).toInt = _ from rfl) tI_40 c16_1)
      refine lv_iconst (v := 2) hx hb d_Row_push_19 (by decide) ?_
      exact j_iret F hr hlocks hK hS S ⟨⟨i_vst, i_vc0, i_vc1, i_vc2, i_vc3, i_vv0, i_vv1, i_vv2, i_vv3, i_vg, i_wct, i_wln, i_sd0, i_sd1, i_sd2, i_sd3, i_rln, i_rtx, i_rpl, i_rtk, i_cnv, i_pts, i_cik, i_und⟩, (kcL_r S), (kcP_r S), (kcU_r S), (kcW_r S), (show (f_xm_openSaves S).toInt = (f_xm_openSaves S).toInt by have := tI_2; rfl)⟩ hP hD d_Row_push_20
theorem d_Memory_save_0 : decode prog_5_method_20_code 0 = .ok (.aload_n 0, 1) := by decide +kernel
theorem d_Memory_save_1 : decode prog_5_method_20_code 1 = .ok (.aload_n 0, 1) := by decide +kernel
theorem d_Memory_save_2 : decode prog_5_method_20_code 2 = .ok (.getfield 33, 3) := by decide +kernel
theorem d_Memory_save_5 : decode prog_5_method_20_code 5 = .ok (.invokevirtual 185, 3) := by decide +kernel
theorem k_5_90 : Cond.code ⟨"PageScribe$Memory", "keptAt", "(I)LPageScribe$Store;"⟩ prog_5_method_22_code 2 (some (.object "PageScribe$Store")) ∈ gw := gw_of (tb_5 (List.mem_of_getElem? (i := 90) (by decide +kernel))) (by decide +kernel)
theorem k_5_87 : Cond.methodLink "PageScribe$Memory" 185 ⟨"PageScribe$Memory", "keptAt", "(I)LPageScribe$Store;"⟩ ∈ gw := gw_of (tb_5 (List.mem_of_getElem? (i := 87) (by decide +kernel))) (by decide +kernel)
theorem k_5_89 : Cond.instanceMethod ⟨"PageScribe$Memory", "keptAt", "(I)LPageScribe$Store;"⟩ ∈ gw := gw_of (tb_5 (List.mem_of_getElem? (i := 89) (by decide +kernel))) (by decide +kernel)
theorem k_0_52 : Cond.selects "PageScribe$Memory" ⟨"PageScribe$Memory", "keptAt", "(I)LPageScribe$Store;"⟩ ⟨"PageScribe$Memory", "keptAt", "(I)LPageScribe$Store;"⟩ ∈ gw := gw_of (tb_0 (List.mem_of_getElem? (i := 52) (by decide +kernel))) (by decide +kernel)
theorem d_Memory_save_8 : decode prog_5_method_20_code 8 = .ok (.astore_n 1, 1) := by decide +kernel
theorem d_Memory_save_9 : decode prog_5_method_20_code 9 = .ok (.aload_n 1, 1) := by decide +kernel
theorem d_Memory_save_10 : decode prog_5_method_20_code 10 = .ok (.ifnonnull 6, 3) := by decide +kernel
theorem d_Memory_save_13 : decode prog_5_method_20_code 13 = .ok (.bipush 7, 2) := by decide +kernel
theorem d_Memory_save_15 : decode prog_5_method_20_code 15 = .ok (.ireturn, 1) := by decide +kernel
theorem d_Memory_save_16 : decode prog_5_method_20_code 16 = .ok (.aload_n 0, 1) := by decide +kernel
theorem d_Memory_save_17 : decode prog_5_method_20_code 17 = .ok (.getfield 39, 3) := by decide +kernel
theorem d_Memory_save_20 : decode prog_5_method_20_code 20 = .ok (.bipush 7, 2) := by decide +kernel
theorem d_Memory_save_22 : decode prog_5_method_20_code 22 = .ok (.aload_n 0, 1) := by decide +kernel
theorem d_Memory_save_23 : decode prog_5_method_20_code 23 = .ok (.getfield 36, 3) := by decide +kernel
theorem k_1_140 : Cond.fieldLink "PageScribe$Memory" 36 "PageScribe$Memory" "savesMade" "I" ∈ gw := gw_of (tb_1 (List.mem_of_getElem? (i := 140) (by decide +kernel))) (by decide +kernel)
theorem d_Memory_save_26 : decode prog_5_method_20_code 26 = .ok (.iconst 1, 1) := by decide +kernel
theorem d_Memory_save_27 : decode prog_5_method_20_code 27 = .ok (.iadd, 1) := by decide +kernel
theorem d_Memory_save_28 : decode prog_5_method_20_code 28 = .ok (.dconst 0, 1) := by decide +kernel
theorem d_Memory_save_29 : decode prog_5_method_20_code 29 = .ok (.invokevirtual 101, 3) := by decide +kernel
theorem d_Memory_save_32 : decode prog_5_method_20_code 32 = .ok (.istore_n 2, 1) := by decide +kernel
theorem d_Memory_save_33 : decode prog_5_method_20_code 33 = .ok (.iload_n 2, 1) := by decide +kernel
theorem d_Memory_save_34 : decode prog_5_method_20_code 34 = .ok (.ifCond .eq 5, 3) := by decide +kernel
theorem d_Memory_save_39 : decode prog_5_method_20_code 39 = .ok (.aload_n 0, 1) := by decide +kernel
theorem d_Memory_save_40 : decode prog_5_method_20_code 40 = .ok (.dup, 1) := by decide +kernel
theorem d_Memory_save_41 : decode prog_5_method_20_code 41 = .ok (.getfield 36, 3) := by decide +kernel
theorem d_Memory_save_44 : decode prog_5_method_20_code 44 = .ok (.iconst 1, 1) := by decide +kernel
theorem d_Memory_save_45 : decode prog_5_method_20_code 45 = .ok (.iadd, 1) := by decide +kernel
theorem d_Memory_save_46 : decode prog_5_method_20_code 46 = .ok (.putfield 36, 3) := by decide +kernel
theorem d_Memory_save_49 : decode prog_5_method_20_code 49 = .ok (.aload_n 0, 1) := by decide +kernel
theorem d_Memory_save_50 : decode prog_5_method_20_code 50 = .ok (.getfield 30, 3) := by decide +kernel
theorem d_Memory_save_53 : decode prog_5_method_20_code 53 = .ok (.aload_n 0, 1) := by decide +kernel
theorem d_Memory_save_54 : decode prog_5_method_20_code 54 = .ok (.getfield 33, 3) := by decide +kernel
theorem d_Memory_save_57 : decode prog_5_method_20_code 57 = .ok (.aload_n 0, 1) := by decide +kernel
theorem d_Memory_save_58 : decode prog_5_method_20_code 58 = .ok (.getfield 36, 3) := by decide +kernel
theorem d_Memory_save_61 : decode prog_5_method_20_code 61 = .ok (.iastore, 1) := by decide +kernel
theorem d_Memory_save_62 : decode prog_5_method_20_code 62 = .ok (.aload_n 1, 1) := by decide +kernel
theorem d_Memory_save_63 : decode prog_5_method_20_code 63 = .ok (.aload_n 0, 1) := by decide +kernel
theorem d_Memory_save_64 : decode prog_5_method_20_code 64 = .ok (.getfield 12, 3) := by decide +kernel
theorem d_Memory_save_67 : decode prog_5_method_20_code 67 = .ok (.invokevirtual 189, 3) := by decide +kernel
theorem k_5_94 : Cond.code ⟨"PageScribe$Store", "become", "(LPageScribe$Store;)V"⟩ prog_10_method_2_code 2 none ∈ gw := gw_of (tb_5 (List.mem_of_getElem? (i := 94) (by decide +kernel))) (by decide +kernel)
theorem k_5_91 : Cond.methodLink "PageScribe$Memory" 189 ⟨"PageScribe$Store", "become", "(LPageScribe$Store;)V"⟩ ∈ gw := gw_of (tb_5 (List.mem_of_getElem? (i := 91) (by decide +kernel))) (by decide +kernel)
theorem k_5_92 : Cond.instanceMethod ⟨"PageScribe$Store", "become", "(LPageScribe$Store;)V"⟩ ∈ gw := gw_of (tb_5 (List.mem_of_getElem? (i := 92) (by decide +kernel))) (by decide +kernel)
theorem k_5_93 : Cond.selects "PageScribe$Store" ⟨"PageScribe$Store", "become", "(LPageScribe$Store;)V"⟩ ⟨"PageScribe$Store", "become", "(LPageScribe$Store;)V"⟩ ∈ gw := gw_of (tb_5 (List.mem_of_getElem? (i := 93) (by decide +kernel))) (by decide +kernel)
theorem d_Memory_save_70 : decode prog_5_method_20_code 70 = .ok (.aload_n 0, 1) := by decide +kernel
theorem d_Memory_save_71 : decode prog_5_method_20_code 71 = .ok (.dup, 1) := by decide +kernel
theorem d_Memory_save_72 : decode prog_5_method_20_code 72 = .ok (.getfield 33, 3) := by decide +kernel
theorem d_Memory_save_75 : decode prog_5_method_20_code 75 = .ok (.iconst 1, 1) := by decide +kernel
theorem d_Memory_save_76 : decode prog_5_method_20_code 76 = .ok (.iadd, 1) := by decide +kernel
theorem d_Memory_save_77 : decode prog_5_method_20_code 77 = .ok (.putfield 33, 3) := by decide +kernel
theorem d_Memory_save_80 : decode prog_5_method_20_code 80 = .ok (.iconst 0, 1) := by decide +kernel
theorem d_Memory_save_81 : decode prog_5_method_20_code 81 = .ok (.ireturn, 1) := by decide +kernel
theorem d_Memory_save_37 : decode prog_5_method_20_code 37 = .ok (.iload_n 2, 1) := by decide +kernel
theorem d_Memory_save_38 : decode prog_5_method_20_code 38 = .ok (.ireturn, 1) := by decide +kernel
set_option maxHeartbeats 4000000 in
set_option maxRecDepth 100000 in
theorem c_Memory_save (l : Launch) (D : va_G) (T : Nat → ClassId) (ad : Nat → Nat) (S : CS)  (sz : Nat)  (hI : CIv S) : Met l ⟨"PageScribe$Memory", "save", "()I"⟩ (wy ⟨"PageScribe$Memory", "save", "()I"⟩ prog_5_method_20_code 3 (some .int)) ({ frames := 3, cells := 0, slots := 0, locals := 210 }) (va_Pc [.ref (ad 8)] (Pw D T (cW T ad S) sz E0)) (va_Qi (fun (r : Int32) (u : CS) => CIv u ∧ kcL S u ∧ kcP S u ∧ kcU S u ∧ kcW S u) (fun u t => Bw D T (va_A (cW T ad S) sz) (cW T ad u) t) (va_A (cW T ad S) sz)) 0 0 (va_A (cW T ad S) sz) := by
  refine j_met (y := ⟨"PageScribe$Memory", "save", "()I"⟩) (b := prog_5_method_20_code) (n := 3) (ret := (some .int)) (av := [.ref (ad 8)]) (Qc := fun A => va_Qi (fun (r : Int32) (u : CS) => CIv u ∧ kcL S u ∧ kcP S u ∧ kcU S u ∧ kcW S u) (fun u t => Bw D T A (cW T ad u) t) A) (by decide +kernel) (Nat.le_of_ble_eq_true rfl) (fun p e s m args below meth c A ls F hr hlocks hnm hK hP hD hS hA hN hE hl => ?_)
  obtain ⟨hx, hb, hml, hown, hts⟩ := id F
  have hl : lv_has ls 3 [(0, .ref (ad 8))] := hl
  obtain ⟨i_vst, i_vc0, i_vc1, i_vc2, i_vc3, i_vv0, i_vv1, i_vv2, i_vv3, i_vg, i_wct, i_wln, i_sd0, i_sd1, i_sd2, i_sd3, i_rln, i_rtx, i_rpl, i_rtk, i_cnv, i_pts, i_cik, i_und⟩ := id hI
  refine lv_aload_n hx hb d_Memory_save_0 rfl (lv_at hl 0 rfl) ?_
  refine lv_aload_n hx hb d_Memory_save_1 rfl (lv_at hl 0 rfl) ?_
  refine va_get (D := D) (ci := 2) (v := .int (f_xm_openSaves S)) (C := "PageScribe$Memory") (T := F_Memory) (N := 8) hx hb hts i_Memory hown hK hP 8 (ce_8 _ _ _) cl_2 6 (by decide) (hts _ k_1_138) (fun _ h9 => h9) rfl d_Memory_save_2 ?_
  refine jc_cq (w := (fun _ => S)) hK hP hD hS hA (va_runV (As := [.int (f_xm_openSaves S)]) (rest := []) F (c_Memory_keptAt l D T ad S (f_xm_openSaves S)  s.heap.size) (j_cV (k := 1) (C := "PageScribe$Memory") hts k_5_90 k_1_5 k_5_87 k_5_89 k_0_52 (by decide +kernel) ⟨Nat.le_of_ble_eq_true rfl, Nat.le_of_ble_eq_true rfl⟩) (j_preV (q0 := 8) (ci := 2) hK hP hD csc csc_all csc_nd cl_2 (ce_8 _ _ _) (fun _ _ _ _ h => h) (fun _ _ _ => trivial)) rfl rfl hl.1 rfl (lv_room (Nat.le_of_ble_eq_true rfl)) d_Memory_save_5 ⟨Nat.le_of_ble_eq_true rfl, Nat.le_of_ble_eq_true rfl⟩) (fun rv1 u1 H locs hw1 hP hD hS => ?_)
  have hP : va_P D classes (cW T ad S) H := hP
  have hD : va_D A (cW T ad S) := hD
  rcases hw1 with rfl | ⟨hw1k, rfl⟩ | ⟨hw1k, rfl⟩ | ⟨hw1k, rfl⟩
  · refine lv_astore_nN (lv' := [(1, .null), (0, .ref (ad 8))]) hx hb d_Memory_save_8 rfl hl (by decide) rfl (fun ls hl => ?_)
    refine lv_aload_nN hx hb d_Memory_save_9 rfl (lv_at hl 0 rfl) ?_
    refine lv_ifnonnullN hx hb d_Memory_save_10 ?_
    refine lv_bipush (v := 7) hx hb d_Memory_save_13 (by decide) ?_
    exact j_iret F hr hlocks hK hS S ⟨⟨i_vst, i_vc0, i_vc1, i_vc2, i_vc3, i_vv0, i_vv1, i_vv2, i_vv3, i_vg, i_wct, i_wln, i_sd0, i_sd1, i_sd2, i_sd3, i_rln, i_rtx, i_rpl, i_rtk, i_cnv, i_pts, i_cik, i_und⟩, (kcL_r S), (kcP_r S), (kcU_r S), (kcW_r S)⟩ hP hD d_Memory_save_15
  · refine lv_astore_n (lv' := [(1, .ref (ad 24)), (0, .ref (ad 8))]) hx hb d_Memory_save_8 rfl hl (by decide) rfl (fun ls hl => ?_)
    refine lv_aload_n hx hb d_Memory_save_9 rfl (lv_at hl 0 rfl) ?_
    refine lv_ifnonnull (tgt := 16) hx hb d_Memory_save_10 (by decide) ?_
    refine lv_aload_n hx hb d_Memory_save_16 rfl (lv_at hl 1 rfl) ?_
    refine va_get (D := D) (ci := 2) (v := .ref (ad 1)) (C := "PageScribe$Memory") (T := F_Memory) (N := 8) hx hb hts i_Memory hown hK hP 8 (ce_8 _ _ _) cl_2 0 (by decide) (hts _ k_1_129) (fun _ h9 => h9) rfl d_Memory_save_17 ?_
    refine lv_bipush (v := 7) hx hb d_Memory_save_20 (by decide) ?_
    refine lv_aload_n hx hb d_Memory_save_22 rfl (lv_at hl 1 rfl) ?_
    refine va_get (D := D) (ci := 2) (v := .int (f_xm_savesMade S)) (C := "PageScribe$Memory") (T := F_Memory) (N := 8) hx hb hts i_Memory hown hK hP 8 (ce_8 _ _ _) cl_2 7 (by decide) (hts _ k_1_140) (fun _ h9 => h9) rfl d_Memory_save_23 ?_
    refine lv_iconst (v := 1) hx hb d_Memory_save_26 (by decide) ?_
    refine lv_iadd hx hb d_Memory_save_27 ?_
    refine lv_topi (fun x1 ex1 => ?_)
    have rx1 := zt_rng x1
    refine lv_dconst0 hx hb d_Memory_save_28 ?_
    have := tD_0
    refine jc_ci (w := (fun u => u)) hK hP hD hS hA (va_runU (As := [.int 7, .int x1, .double 0]) (rest := []) F (c_Row_push_s l D T ad S (7 : Int32) x1 0  H.size ⟨i_vst, i_vc0, i_vc1, i_vc2, i_vc3, i_vv0, i_vv1, i_vv2, i_vv3, i_vg, i_wct, i_wln, i_sd0, i_sd1, i_sd2, i_sd3, i_rln, i_rtx, i_rpl, i_rtk, i_cnv, i_pts, i_cik, i_und⟩ (show dB 0 by have := tI_7; omega)) (j_cU (k := 3) (C := "PageScribe$Stack") (owner := "PageScribe$Row") (x := ⟨"PageScribe$Stack", "push", "(IID)I"⟩) hts k_2_104 k_4_232 k_2_100 k_2_102 k_2_103 k_1_2 rfl (by decide +kernel) ⟨Nat.le_of_ble_eq_true rfl, Nat.le_of_ble_eq_true rfl⟩) (j_preV (q0 := 1) (ci := 0) hK hP hD csc csc_all csc_nd cl_0 (ce_1 _ _ _) (fun _ _ _ _ h => h) (fun _ _ _ => trivial)) rfl rfl hl.1 rfl (lv_room (Nat.le_of_ble_eq_true rfl)) d_Memory_save_29 ⟨Nat.le_of_ble_eq_true rfl, Nat.le_of_ble_eq_true rfl⟩) (fun rv2 S1 H locs hw2 hP hD hS => ?_)
    have hP : va_P D classes (cW T ad S1) H := hP
    have hD : va_D A (cW T ad S1) := hD
    obtain ⟨⟨i_vst, i_vc0, i_vc1, i_vc2, i_vc3, i_vv0, i_vv1, i_vv2, i_vv3, i_vg, i_wct, i_wln, i_sd0, i_sd1, i_sd2, i_sd3, i_rln, i_rtx, i_rpl, i_rtk, i_cnv, i_pts, i_cik, i_und⟩, kpcL_S1, kpcP_S1, kpcU_S1, kpcW_S1, qqhw2⟩ := hw2
    have kScL_S1 : kcL S S1 := kcL_t (show kcL S S from (kcL_r S)) kpcL_S1
    have kScP_S1 : kcP S S1 := kcP_t (show kcP S S from (kcP_r S)) kpcP_S1
    have kScU_S1 : kcU S S1 := kcU_t (show kcU S S from (kcU_r S)) kpcU_S1
    have kScW_S1 : kcW S S1 := kcW_t (show kcW S S from (kcW_r S)) kpcW_S1
    have nxr_length_S1 : (f_xr_length S1).toInt = (f_xr_length S).toInt := congrArg Int32.toInt kpcL_S1
    have nxr_length_S1 : (f_xr_length S1).toInt = (f_xr_length S).toInt := congrArg Int32.toInt kpcP_S1.1
    have nxr_place_S1 : (f_xr_place S1).toInt = (f_xr_place S).toInt := congrArg Int32.toInt kpcP_S1.2.1
    have nxe_underWay_S1 : (f_xe_underWay S1).toInt = (f_xe_underWay S).toInt := congrArg Int32.toInt kpcU_S1
    have nxp_columns_S1 : (f_xp_columns S1).toInt = (f_xp_columns S).toInt := congrArg Int32.toInt kpcW_S1.1
    have nxp_rows_S1 : (f_xp_rows S1).toInt = (f_xp_rows S).toInt := congrArg Int32.toInt kpcW_S1.2
    have qhw2 : (f_xm_openSaves S1).toInt = (f_xm_openSaves S).toInt := by simpa only [tI_7] using qqhw2
    have rrv2 := zt_rng rv2
    refine lv_istore_n (lv' := [(2, .int rv2), (1, .ref (ad 24)), (0, .ref (ad 8))]) hx hb d_Memory_save_32 rfl hl (by decide) rfl (fun ls hl => ?_)
    refine lv_iload_n hx hb d_Memory_save_33 rfl (lv_at hl 0 rfl) ?_
    refine lv_if_eq (tgt := 39) hx hb d_Memory_save_34 (by decide) (fun c34_1 => ?_) (fun c34_1 => ?_)
    · have fc34_1 : rv2.toInt = 0 := zt_eq (show rv2.toInt = _ from rfl) tI_0 c34_1
      refine lv_aload_n hx hb d_Memory_save_39 rfl (lv_at hl 2 rfl) ?_
      refine lv_dup hx hb d_Memory_save_40 rfl ?_
      refine va_get (D := D) (ci := 2) (v := .int (f_xm_savesMade S1)) (C := "PageScribe$Memory") (T := F_Memory) (N := 8) hx hb hts i_Memory hown hK hP 8 (ce_8 _ _ _) cl_2 7 (by decide) (hts _ k_1_140) (fun _ h9 => h9) rfl d_Memory_save_41 ?_
      refine lv_iconst (v := 1) hx hb d_Memory_save_44 (by decide) ?_
      refine lv_iadd hx hb d_Memory_save_45 ?_
      refine lv_topi (fun x2 ex2 => ?_)
      have rx2 := zt_rng x2
      refine va_put (D := D) (ci := 2) (v := .int x2) (ty := .int) (C := "PageScribe$Memory") (T := F_Memory) (N := 8) hx hb hts i_Memory t_Memory t_Memory_ok n_Memory hown hK hP hD hS 8 (ce_8 _ _ _) cl_2 7 (by decide) (hts _ k_1_140) (fun _ h9 => h9) rfl (by decide +kernel) rfl rfl (Nat.le_of_ble_eq_true rfl) d_Memory_save_46 (fun H locs hP hD hS => ?_)
      rw [cp_xm_savesMade] at hP hD
      have hP : va_P D classes (cW T ad ((S1.1, ((a_xm_scopes S1), (f_xm_scopeCount S1), (a_xm_keptNumbers S1), (f_xm_openSaves S1), x2), S1.2.2.1, S1.2.2.2.1, S1.2.2.2.2.1, S1.2.2.2.2.2.1, S1.2.2.2.2.2.2.1, S1.2.2.2.2.2.2.2.1, S1.2.2.2.2.2.2.2.2) : CS)) H := hP
      have hD : va_D A (cW T ad ((S1.1, ((a_xm_scopes S1), (f_xm_scopeCount S1), (a_xm_keptNumbers S1), (f_xm_openSaves S1), x2), S1.2.2.1, S1.2.2.2.1, S1.2.2.2.2.1, S1.2.2.2.2.2.1, S1.2.2.2.2.2.2.1, S1.2.2.2.2.2.2.2.1, S1.2.2.2.2.2.2.2.2) : CS)) := hD
      refine lv_aload_n hx hb d_Memory_save_49 rfl (lv_at hl 2 rfl) ?_
      refine va_get (D := D) (ci := 2) (v := .ref (ad 11)) (C := "PageScribe$Memory") (T := F_Memory) (N := 8) hx hb hts i_Memory hown hK hP 8 (ce_8 _ _ _) cl_2 5 (by decide) (hts _ k_1_137) (fun _ h9 => h9) rfl d_Memory_save_50 ?_
      refine lv_aload_n hx hb d_Memory_save_53 rfl (lv_at hl 2 rfl) ?_
      refine va_get (D := D) (ci := 2) (v := .int (f_xm_openSaves S1)) (C := "PageScribe$Memory") (T := F_Memory) (N := 8) hx hb hts i_Memory hown hK hP 8 (ce_8 _ _ _) cl_2 6 (by decide) (hts _ k_1_138) (fun _ h9 => h9) rfl d_Memory_save_54 ?_
      refine lv_aload_n hx hb d_Memory_save_57 rfl (lv_at hl 2 rfl) ?_
      refine va_get (D := D) (ci := 2) (v := .int x2) (C := "PageScribe$Memory") (T := F_Memory) (N := 8) hx hb hts i_Memory hown hK hP 8 (ce_8 _ _ _) cl_2 7 (by decide) (hts _ k_1_140) (fun _ h9 => h9) rfl d_Memory_save_58 ?_
      refine va_iast hx hb hK hP hD hS 11 0 (ce_11 _ _ _) rfl (zt_in (show (f_xm_openSaves S1).toInt = _ from rfl) (by omega) (by omega)) d_Memory_save_61 (fun H locs hP hD hS => ?_)
      rw [cs_xm_keptNumbers] at hP hD
      rw [zt_ix (show (f_xm_openSaves S1).toInt = _ from rfl)] at hP hD
      have hP : va_P D classes (cW T ad ((S1.1, ((a_xm_scopes S1), (f_xm_scopeCount S1), (upd (a_xm_keptNumbers S1) ((f_xm_openSaves S1).toInt.toNat) x2), (f_xm_openSaves S1), x2), S1.2.2.1, S1.2.2.2.1, S1.2.2.2.2.1, S1.2.2.2.2.2.1, S1.2.2.2.2.2.2.1, S1.2.2.2.2.2.2.2.1, S1.2.2.2.2.2.2.2.2) : CS)) H := hP
      have hD : va_D A (cW T ad ((S1.1, ((a_xm_scopes S1), (f_xm_scopeCount S1), (upd (a_xm_keptNumbers S1) ((f_xm_openSaves S1).toInt.toNat) x2), (f_xm_openSaves S1), x2), S1.2.2.1, S1.2.2.2.1, S1.2.2.2.2.1, S1.2.2.2.2.2.1, S1.2.2.2.2.2.2.1, S1.2.2.2.2.2.2.2.1, S1.2.2.2.2.2.2.2.2) : CS)) := hD
      refine lv_aload_n hx hb d_Memory_save_62 rfl (lv_at hl 1 rfl) ?_
      refine lv_aload_n hx hb d_Memory_save_63 rfl (lv_at hl 2 rfl) ?_
      refine va_get (D := D) (ci := 2) (v := .ref (ad 12)) (C := "PageScribe$Memory") (T := F_Memory) (N := 8) hx hb hts i_Memory hown hK hP 8 (ce_8 _ _ _) cl_2 1 (by decide) (hts _ k_1_130) (fun _ h9 => h9) rfl d_Memory_save_64 ?_
      refine jc_cv (w := (fun u => u)) hK hP hD hS hA (va_runV (As := [.ref (ad 12)]) (rest := []) F (c_Store_become_24_12 l D T ad ((S1.1, ((a_xm_scopes S1), (f_xm_scopeCount S1), (upd (a_xm_keptNumbers S1) ((f_xm_openSaves S1).toInt.toNat) x2), (f_xm_openSaves S1), x2), S1.2.2.1, S1.2.2.2.1, S1.2.2.2.2.1, S1.2.2.2.2.2.1, S1.2.2.2.2.2.2.1, S1.2.2.2.2.2.2.2.1, S1.2.2.2.2.2.2.2.2) : CS)  H.size ⟨i_vst, i_vc0, i_vc1, i_vc2, i_vc3, i_vv0, i_vv1, i_vv2, i_vv3, i_vg, i_wct, i_wln, i_sd0, i_sd1, i_sd2, i_sd3, i_rln, i_rtx, i_rpl, i_rtk, i_cnv, i_pts, i_cik, i_und⟩) (j_cV (k := 1) (C := "PageScribe$Store") hts k_5_94 k_1_6 k_5_91 k_5_92 k_5_93 (by decide +kernel) ⟨Nat.le_of_ble_eq_true rfl, Nat.le_of_ble_eq_true rfl⟩) (j_preV (q0 := 24) (ci := 3) hK hP hD csc csc_all csc_nd cl_3 (ce_24 _ _ _) (fun _ _ _ _ h => h) (fun _ _ _ => trivial)) rfl rfl hl.1 rfl (lv_room (Nat.le_of_ble_eq_true rfl)) d_Memory_save_67 ⟨Nat.le_of_ble_eq_true rfl, Nat.le_of_ble_eq_true rfl⟩) (fun S2 H locs hw3 hP hD hS => ?_)
      have hP : va_P D classes (cW T ad S2) H := hP
      have hD : va_D A (cW T ad S2) := hD
      obtain ⟨⟨i_vst, i_vc0, i_vc1, i_vc2, i_vc3, i_vv0, i_vv1, i_vv2, i_vv3, i_vg, i_wct, i_wln, i_sd0, i_sd1, i_sd2, i_sd3, i_rln, i_rtx, i_rpl, i_rtk, i_cnv, i_pts, i_cik, i_und⟩, kpcL_S2, kpcP_S2, kpcU_S2, kpcW_S2⟩ := hw3
      have kScL_S2 : kcL S S2 := kcL_t (show kcL S ((S1.1, ((a_xm_scopes S1), (f_xm_scopeCount S1), (upd (a_xm_keptNumbers S1) ((f_xm_openSaves S1).toInt.toNat) x2), (f_xm_openSaves S1), x2), S1.2.2.1, S1.2.2.2.1, S1.2.2.2.2.1, S1.2.2.2.2.2.1, S1.2.2.2.2.2.2.1, S1.2.2.2.2.2.2.2.1, S1.2.2.2.2.2.2.2.2) : CS) from kScL_S1) kpcL_S2
      have kScP_S2 : kcP S S2 := kcP_t (show kcP S ((S1.1, ((a_xm_scopes S1), (f_xm_scopeCount S1), (upd (a_xm_keptNumbers S1) ((f_xm_openSaves S1).toInt.toNat) x2), (f_xm_openSaves S1), x2), S1.2.2.1, S1.2.2.2.1, S1.2.2.2.2.1, S1.2.2.2.2.2.1, S1.2.2.2.2.2.2.1, S1.2.2.2.2.2.2.2.1, S1.2.2.2.2.2.2.2.2) : CS) from kScP_S1) kpcP_S2
      have kScU_S2 : kcU S S2 := kcU_t (show kcU S ((S1.1, ((a_xm_scopes S1), (f_xm_scopeCount S1), (upd (a_xm_keptNumbers S1) ((f_xm_openSaves S1).toInt.toNat) x2), (f_xm_openSaves S1), x2), S1.2.2.1, S1.2.2.2.1, S1.2.2.2.2.1, S1.2.2.2.2.2.1, S1.2.2.2.2.2.2.1, S1.2.2.2.2.2.2.2.1, S1.2.2.2.2.2.2.2.2) : CS) from kScU_S1) kpcU_S2
      have kScW_S2 : kcW S S2 := kcW_t (show kcW S ((S1.1, ((a_xm_scopes S1), (f_xm_scopeCount S1), (upd (a_xm_keptNumbers S1) ((f_xm_openSaves S1).toInt.toNat) x2), (f_xm_openSaves S1), x2), S1.2.2.1, S1.2.2.2.1, S1.2.2.2.2.1, S1.2.2.2.2.2.1, S1.2.2.2.2.2.2.1, S1.2.2.2.2.2.2.2.1, S1.2.2.2.2.2.2.2.2) : CS) from kScW_S1) kpcW_S2
      have nxr_length_S2 : (f_xr_length S2).toInt = (f_xr_length S1).toInt := congrArg Int32.toInt kpcL_S2
      have nxr_length_S2 : (f_xr_length S2).toInt = (f_xr_length S1).toInt := congrArg Int32.toInt kpcP_S2.1
      have nxr_place_S2 : (f_xr_place S2).toInt = (f_xr_place S1).toInt := congrArg Int32.toInt kpcP_S2.2.1
      have nxe_underWay_S2 : (f_xe_underWay S2).toInt = (f_xe_underWay S1).toInt := congrArg Int32.toInt kpcU_S2
      have nxp_columns_S2 : (f_xp_columns S2).toInt = (f_xp_columns S1).toInt := congrArg Int32.toInt kpcW_S2.1
      have nxp_rows_S2 : (f_xp_rows S2).toInt = (f_xp_rows S1).toInt := congrArg Int32.toInt kpcW_S2.2
      refine lv_aload_n hx hb d_Memory_save_70 rfl (lv_at hl 2 rfl) ?_
      refine lv_dup hx hb d_Memory_save_71 rfl ?_
      refine va_get (D := D) (ci := 2) (v := .int (f_xm_openSaves S2)) (C := "PageScribe$Memory") (T := F_Memory) (N := 8) hx hb hts i_Memory hown hK hP 8 (ce_8 _ _ _) cl_2 6 (by decide) (hts _ k_1_138) (fun _ h9 => h9) rfl d_Memory_save_72 ?_
      refine lv_iconst (v := 1) hx hb d_Memory_save_75 (by decide) ?_
      refine lv_iadd hx hb d_Memory_save_76 ?_
      refine lv_topi (fun x3 ex3 => ?_)
      have rx3 := zt_rng x3
      refine va_put (D := D) (ci := 2) (v := .int x3) (ty := .int) (C := "PageScribe$Memory") (T := F_Memory) (N := 8) hx hb hts i_Memory t_Memory t_Memory_ok n_Memory hown hK hP hD hS 8 (ce_8 _ _ _) cl_2 6 (by decide) (hts _ k_1_138) (fun _ h9 => h9) rfl (by decide +kernel) rfl rfl (Nat.le_of_ble_eq_true rfl) d_Memory_save_77 (fun H locs hP hD hS => ?_)
      rw [cp_xm_openSaves] at hP hD
      have hP : va_P D classes (cW T ad ((S2.1, ((a_xm_scopes S2), (f_xm_scopeCount S2), (a_xm_keptNumbers S2), x3, (f_xm_savesMade S2)), S2.2.2.1, S2.2.2.2.1, S2.2.2.2.2.1, S2.2.2.2.2.2.1, S2.2.2.2.2.2.2.1, S2.2.2.2.2.2.2.2.1, S2.2.2.2.2.2.2.2.2) : CS)) H := hP
      have hD : va_D A (cW T ad ((S2.1, ((a_xm_scopes S2), (f_xm_scopeCount S2), (a_xm_keptNumbers S2), x3, (f_xm_savesMade S2)), S2.2.2.1, S2.2.2.2.1, S2.2.2.2.2.1, S2.2.2.2.2.2.1, S2.2.2.2.2.2.2.1, S2.2.2.2.2.2.2.2.1, S2.2.2.2.2.2.2.2.2) : CS)) := hD
      refine lv_iconst (v := 0) hx hb d_Memory_save_80 (by decide) ?_
      exact j_iret F hr hlocks hK hS ((S2.1, ((a_xm_scopes S2), (f_xm_scopeCount S2), (a_xm_keptNumbers S2), x3, (f_xm_savesMade S2)), S2.2.2.1, S2.2.2.2.1, S2.2.2.2.2.1, S2.2.2.2.2.2.1, S2.2.2.2.2.2.2.1, S2.2.2.2.2.2.2.2.1, S2.2.2.2.2.2.2.2.2) : CS) ⟨⟨i_vst, i_vc0, i_vc1, i_vc2, i_vc3, i_vv0, i_vv1, i_vv2, i_vv3, i_vg, i_wct, i_wln, i_sd0, i_sd1, i_sd2, i_sd3, i_rln, i_rtx, i_rpl, i_rtk, i_cnv, i_pts, i_cik, i_und⟩, kScL_S2, kScP_S2, kScU_S2, kScW_S2⟩ hP hD d_Memory_save_81
    · first | have fc34_1 : rv2.toInt < 0 := (by have := zt_ne (show rv2.toInt = _ from rfl) tI_0 c34_1; omega) | have fc34_1 : 0 < rv2.toInt := (by have := zt_ne (show rv2.toInt = _ from rfl) tI_0 c34_1; omega) | skip
      refine lv_iload_n hx hb d_Memory_save_37 rfl (lv_at hl 0 rfl) ?_
      exact j_iret F hr hlocks hK hS S1 ⟨⟨i_vst, i_vc0, i_vc1, i_vc2, i_vc3, i_vv0, i_vv1, i_vv2, i_vv3, i_vg, i_wct, i_wln, i_sd0, i_sd1, i_sd2, i_sd3, i_rln, i_rtx, i_rpl, i_rtk, i_cnv, i_pts, i_cik, i_und⟩, kScL_S1, kScP_S1, kScU_S1, kScW_S1⟩ hP hD d_Memory_save_38
  · refine lv_astore_n (lv' := [(1, .ref (ad 36)), (0, .ref (ad 8))]) hx hb d_Memory_save_8 rfl hl (by decide) rfl (fun ls hl => ?_)
    refine lv_aload_n hx hb d_Memory_save_9 rfl (lv_at hl 0 rfl) ?_
    refine lv_ifnonnull (tgt := 16) hx hb d_Memory_save_10 (by decide) ?_
    refine lv_aload_n hx hb d_Memory_save_16 rfl (lv_at hl 1 rfl) ?_
    refine va_get (D := D) (ci := 2) (v := .ref (ad 1)) (C := "PageScribe$Memory") (T := F_Memory) (N := 8) hx hb hts i_Memory hown hK hP 8 (ce_8 _ _ _) cl_2 0 (by decide) (hts _ k_1_129) (fun _ h9 => h9) rfl d_Memory_save_17 ?_
    refine lv_bipush (v := 7) hx hb d_Memory_save_20 (by decide) ?_
    refine lv_aload_n hx hb d_Memory_save_22 rfl (lv_at hl 1 rfl) ?_
    refine va_get (D := D) (ci := 2) (v := .int (f_xm_savesMade S)) (C := "PageScribe$Memory") (T := F_Memory) (N := 8) hx hb hts i_Memory hown hK hP 8 (ce_8 _ _ _) cl_2 7 (by decide) (hts _ k_1_140) (fun _ h9 => h9) rfl d_Memory_save_23 ?_
    refine lv_iconst (v := 1) hx hb d_Memory_save_26 (by decide) ?_
    refine lv_iadd hx hb d_Memory_save_27 ?_
    refine lv_topi (fun x4 ex4 => ?_)
    have rx4 := zt_rng x4
    refine lv_dconst0 hx hb d_Memory_save_28 ?_
    have := tD_0
    refine jc_ci (w := (fun u => u)) hK hP hD hS hA (va_runU (As := [.int 7, .int x4, .double 0]) (rest := []) F (c_Row_push_s l D T ad S (7 : Int32) x4 0  H.size ⟨i_vst, i_vc0, i_vc1, i_vc2, i_vc3, i_vv0, i_vv1, i_vv2, i_vv3, i_vg, i_wct, i_wln, i_sd0, i_sd1, i_sd2, i_sd3, i_rln, i_rtx, i_rpl, i_rtk, i_cnv, i_pts, i_cik, i_und⟩ (show dB 0 by have := tI_7; omega)) (j_cU (k := 3) (C := "PageScribe$Stack") (owner := "PageScribe$Row") (x := ⟨"PageScribe$Stack", "push", "(IID)I"⟩) hts k_2_104 k_4_232 k_2_100 k_2_102 k_2_103 k_1_2 rfl (by decide +kernel) ⟨Nat.le_of_ble_eq_true rfl, Nat.le_of_ble_eq_true rfl⟩) (j_preV (q0 := 1) (ci := 0) hK hP hD csc csc_all csc_nd cl_0 (ce_1 _ _ _) (fun _ _ _ _ h => h) (fun _ _ _ => trivial)) rfl rfl hl.1 rfl (lv_room (Nat.le_of_ble_eq_true rfl)) d_Memory_save_29 ⟨Nat.le_of_ble_eq_true rfl, Nat.le_of_ble_eq_true rfl⟩) (fun rv4 S3 H locs hw4 hP hD hS => ?_)
    have hP : va_P D classes (cW T ad S3) H := hP
    have hD : va_D A (cW T ad S3) := hD
    obtain ⟨⟨i_vst, i_vc0, i_vc1, i_vc2, i_vc3, i_vv0, i_vv1, i_vv2, i_vv3, i_vg, i_wct, i_wln, i_sd0, i_sd1, i_sd2, i_sd3, i_rln, i_rtx, i_rpl, i_rtk, i_cnv, i_pts, i_cik, i_und⟩, kpcL_S3, kpcP_S3, kpcU_S3, kpcW_S3, qqhw4⟩ := hw4
    have kScL_S3 : kcL S S3 := kcL_t (show kcL S S from (kcL_r S)) kpcL_S3
    have kScP_S3 : kcP S S3 := kcP_t (show kcP S S from (kcP_r S)) kpcP_S3
    have kScU_S3 : kcU S S3 := kcU_t (show kcU S S from (kcU_r S)) kpcU_S3
    have kScW_S3 : kcW S S3 := kcW_t (show kcW S S from (kcW_r S)) kpcW_S3
    have nxr_length_S3 : (f_xr_length S3).toInt = (f_xr_length S).toInt := congrArg Int32.toInt kpcL_S3
    have nxr_length_S3 : (f_xr_length S3).toInt = (f_xr_length S).toInt := congrArg Int32.toInt kpcP_S3.1
    have nxr_place_S3 : (f_xr_place S3).toInt = (f_xr_place S).toInt := congrArg Int32.toInt kpcP_S3.2.1
    have nxe_underWay_S3 : (f_xe_underWay S3).toInt = (f_xe_underWay S).toInt := congrArg Int32.toInt kpcU_S3
    have nxp_columns_S3 : (f_xp_columns S3).toInt = (f_xp_columns S).toInt := congrArg Int32.toInt kpcW_S3.1
    have nxp_rows_S3 : (f_xp_rows S3).toInt = (f_xp_rows S).toInt := congrArg Int32.toInt kpcW_S3.2
    have qhw4 : (f_xm_openSaves S3).toInt = (f_xm_openSaves S).toInt := by simpa only [tI_7] using qqhw4
    have rrv4 := zt_rng rv4
    refine lv_istore_n (lv' := [(2, .int rv4), (1, .ref (ad 36)), (0, .ref (ad 8))]) hx hb d_Memory_save_32 rfl hl (by decide) rfl (fun ls hl => ?_)
    refine lv_iload_n hx hb d_Memory_save_33 rfl (lv_at hl 0 rfl) ?_
    refine lv_if_eq (tgt := 39) hx hb d_Memory_save_34 (by decide) (fun c34_2 => ?_) (fun c34_2 => ?_)
    · have fc34_2 : rv4.toInt = 0 := zt_eq (show rv4.toInt = _ from rfl) tI_0 c34_2
      refine lv_aload_n hx hb d_Memory_save_39 rfl (lv_at hl 2 rfl) ?_
      refine lv_dup hx hb d_Memory_save_40 rfl ?_
      refine va_get (D := D) (ci := 2) (v := .int (f_xm_savesMade S3)) (C := "PageScribe$Memory") (T := F_Memory) (N := 8) hx hb hts i_Memory hown hK hP 8 (ce_8 _ _ _) cl_2 7 (by decide) (hts _ k_1_140) (fun _ h9 => h9) rfl d_Memory_save_41 ?_
      refine lv_iconst (v := 1) hx hb d_Memory_save_44 (by decide) ?_
      refine lv_iadd hx hb d_Memory_save_45 ?_
      refine lv_topi (fun x5 ex5 => ?_)
      have rx5 := zt_rng x5
      refine va_put (D := D) (ci := 2) (v := .int x5) (ty := .int) (C := "PageScribe$Memory") (T := F_Memory) (N := 8) hx hb hts i_Memory t_Memory t_Memory_ok n_Memory hown hK hP hD hS 8 (ce_8 _ _ _) cl_2 7 (by decide) (hts _ k_1_140) (fun _ h9 => h9) rfl (by decide +kernel) rfl rfl (Nat.le_of_ble_eq_true rfl) d_Memory_save_46 (fun H locs hP hD hS => ?_)
      rw [cp_xm_savesMade] at hP hD
      have hP : va_P D classes (cW T ad ((S3.1, ((a_xm_scopes S3), (f_xm_scopeCount S3), (a_xm_keptNumbers S3), (f_xm_openSaves S3), x5), S3.2.2.1, S3.2.2.2.1, S3.2.2.2.2.1, S3.2.2.2.2.2.1, S3.2.2.2.2.2.2.1, S3.2.2.2.2.2.2.2.1, S3.2.2.2.2.2.2.2.2) : CS)) H := hP
      have hD : va_D A (cW T ad ((S3.1, ((a_xm_scopes S3), (f_xm_scopeCount S3), (a_xm_keptNumbers S3), (f_xm_openSaves S3), x5), S3.2.2.1, S3.2.2.2.1, S3.2.2.2.2.1, S3.2.2.2.2.2.1, S3.2.2.2.2.2.2.1, S3.2.2.2.2.2.2.2.1, S3.2.2.2.2.2.2.2.2) : CS)) := hD
      refine lv_aload_n hx hb d_Memory_save_49 rfl (lv_at hl 2 rfl) ?_
      refine va_get (D := D) (ci := 2) (v := .ref (ad 11)) (C := "PageScribe$Memory") (T := F_Memory) (N := 8) hx hb hts i_Memory hown hK hP 8 (ce_8 _ _ _) cl_2 5 (by decide) (hts _ k_1_137) (fun _ h9 => h9) rfl d_Memory_save_50 ?_
      refine lv_aload_n hx hb d_Memory_save_53 rfl (lv_at hl 2 rfl) ?_
      refine va_get (D := D) (ci := 2) (v := .int (f_xm_openSaves S3)) (C := "PageScribe$Memory") (T := F_Memory) (N := 8) hx hb hts i_Memory hown hK hP 8 (ce_8 _ _ _) cl_2 6 (by decide) (hts _ k_1_138) (fun _ h9 => h9) rfl d_Memory_save_54 ?_
      refine lv_aload_n hx hb d_Memory_save_57 rfl (lv_at hl 2 rfl) ?_
      refine va_get (D := D) (ci := 2) (v := .int x5) (C := "PageScribe$Memory") (T := F_Memory) (N := 8) hx hb hts i_Memory hown hK hP 8 (ce_8 _ _ _) cl_2 7 (by decide) (hts _ k_1_140) (fun _ h9 => h9) rfl d_Memory_save_58 ?_
      refine va_iast hx hb hK hP hD hS 11 0 (ce_11 _ _ _) rfl (zt_in (show (f_xm_openSaves S3).toInt = _ from rfl) (by omega) (by omega)) d_Memory_save_61 (fun H locs hP hD hS => ?_)
      rw [cs_xm_keptNumbers] at hP hD
      rw [zt_ix (show (f_xm_openSaves S3).toInt = _ from rfl)] at hP hD
      have hP : va_P D classes (cW T ad ((S3.1, ((a_xm_scopes S3), (f_xm_scopeCount S3), (upd (a_xm_keptNumbers S3) ((f_xm_openSaves S3).toInt.toNat) x5), (f_xm_openSaves S3), x5), S3.2.2.1, S3.2.2.2.1, S3.2.2.2.2.1, S3.2.2.2.2.2.1, S3.2.2.2.2.2.2.1, S3.2.2.2.2.2.2.2.1, S3.2.2.2.2.2.2.2.2) : CS)) H := hP
      have hD : va_D A (cW T ad ((S3.1, ((a_xm_scopes S3), (f_xm_scopeCount S3), (upd (a_xm_keptNumbers S3) ((f_xm_openSaves S3).toInt.toNat) x5), (f_xm_openSaves S3), x5), S3.2.2.1, S3.2.2.2.1, S3.2.2.2.2.1, S3.2.2.2.2.2.1, S3.2.2.2.2.2.2.1, S3.2.2.2.2.2.2.2.1, S3.2.2.2.2.2.2.2.2) : CS)) := hD
      refine lv_aload_n hx hb d_Memory_save_62 rfl (lv_at hl 1 rfl) ?_
      refine lv_aload_n hx hb d_Memory_save_63 rfl (lv_at hl 2 rfl) ?_
      refine va_get (D := D) (ci := 2) (v := .ref (ad 12)) (C := "PageScribe$Memory") (T := F_Memory) (N := 8) hx hb hts i_Memory hown hK hP 8 (ce_8 _ _ _) cl_2 1 (by decide) (hts _ k_1_130) (fun _ h9 => h9) rfl d_Memory_save_64 ?_
      refine jc_cv (w := (fun u => u)) hK hP hD hS hA (va_runV (As := [.ref (ad 12)]) (rest := []) F (c_Store_become_36_12 l D T ad ((S3.1, ((a_xm_scopes S3), (f_xm_scopeCount S3), (upd (a_xm_keptNumbers S3) ((f_xm_openSaves S3).toInt.toNat) x5), (f_xm_openSaves S3), x5), S3.2.2.1, S3.2.2.2.1, S3.2.2.2.2.1, S3.2.2.2.2.2.1, S3.2.2.2.2.2.2.1, S3.2.2.2.2.2.2.2.1, S3.2.2.2.2.2.2.2.2) : CS)  H.size ⟨i_vst, i_vc0, i_vc1, i_vc2, i_vc3, i_vv0, i_vv1, i_vv2, i_vv3, i_vg, i_wct, i_wln, i_sd0, i_sd1, i_sd2, i_sd3, i_rln, i_rtx, i_rpl, i_rtk, i_cnv, i_pts, i_cik, i_und⟩) (j_cV (k := 1) (C := "PageScribe$Store") hts k_5_94 k_1_6 k_5_91 k_5_92 k_5_93 (by decide +kernel) ⟨Nat.le_of_ble_eq_true rfl, Nat.le_of_ble_eq_true rfl⟩) (j_preV (q0 := 36) (ci := 3) hK hP hD csc csc_all csc_nd cl_3 (ce_36 _ _ _) (fun _ _ _ _ h => h) (fun _ _ _ => trivial)) rfl rfl hl.1 rfl (lv_room (Nat.le_of_ble_eq_true rfl)) d_Memory_save_67 ⟨Nat.le_of_ble_eq_true rfl, Nat.le_of_ble_eq_true rfl⟩) (fun S4 H locs hw5 hP hD hS => ?_)
      have hP : va_P D classes (cW T ad S4) H := hP
      have hD : va_D A (cW T ad S4) := hD
      obtain ⟨⟨i_vst, i_vc0, i_vc1, i_vc2, i_vc3, i_vv0, i_vv1, i_vv2, i_vv3, i_vg, i_wct, i_wln, i_sd0, i_sd1, i_sd2, i_sd3, i_rln, i_rtx, i_rpl, i_rtk, i_cnv, i_pts, i_cik, i_und⟩, kpcL_S4, kpcP_S4, kpcU_S4, kpcW_S4⟩ := hw5
      have kScL_S4 : kcL S S4 := kcL_t (show kcL S ((S3.1, ((a_xm_scopes S3), (f_xm_scopeCount S3), (upd (a_xm_keptNumbers S3) ((f_xm_openSaves S3).toInt.toNat) x5), (f_xm_openSaves S3), x5), S3.2.2.1, S3.2.2.2.1, S3.2.2.2.2.1, S3.2.2.2.2.2.1, S3.2.2.2.2.2.2.1, S3.2.2.2.2.2.2.2.1, S3.2.2.2.2.2.2.2.2) : CS) from kScL_S3) kpcL_S4
      have kScP_S4 : kcP S S4 := kcP_t (show kcP S ((S3.1, ((a_xm_scopes S3), (f_xm_scopeCount S3), (upd (a_xm_keptNumbers S3) ((f_xm_openSaves S3).toInt.toNat) x5), (f_xm_openSaves S3), x5), S3.2.2.1, S3.2.2.2.1, S3.2.2.2.2.1, S3.2.2.2.2.2.1, S3.2.2.2.2.2.2.1, S3.2.2.2.2.2.2.2.1, S3.2.2.2.2.2.2.2.2) : CS) from kScP_S3) kpcP_S4
      have kScU_S4 : kcU S S4 := kcU_t (show kcU S ((S3.1, ((a_xm_scopes S3), (f_xm_scopeCount S3), (upd (a_xm_keptNumbers S3) ((f_xm_openSaves S3).toInt.toNat) x5), (f_xm_openSaves S3), x5), S3.2.2.1, S3.2.2.2.1, S3.2.2.2.2.1, S3.2.2.2.2.2.1, S3.2.2.2.2.2.2.1, S3.2.2.2.2.2.2.2.1, S3.2.2.2.2.2.2.2.2) : CS) from kScU_S3) kpcU_S4
      have kScW_S4 : kcW S S4 := kcW_t (show kcW S ((S3.1, ((a_xm_scopes S3), (f_xm_scopeCount S3), (upd (a_xm_keptNumbers S3) ((f_xm_openSaves S3).toInt.toNat) x5), (f_xm_openSaves S3), x5), S3.2.2.1, S3.2.2.2.1, S3.2.2.2.2.1, S3.2.2.2.2.2.1, S3.2.2.2.2.2.2.1, S3.2.2.2.2.2.2.2.1, S3.2.2.2.2.2.2.2.2) : CS) from kScW_S3) kpcW_S4
      have nxr_length_S4 : (f_xr_length S4).toInt = (f_xr_length S3).toInt := congrArg Int32.toInt kpcL_S4
      have nxr_length_S4 : (f_xr_length S4).toInt = (f_xr_length S3).toInt := congrArg Int32.toInt kpcP_S4.1
      have nxr_place_S4 : (f_xr_place S4).toInt = (f_xr_place S3).toInt := congrArg Int32.toInt kpcP_S4.2.1
      have nxe_underWay_S4 : (f_xe_underWay S4).toInt = (f_xe_underWay S3).toInt := congrArg Int32.toInt kpcU_S4
      have nxp_columns_S4 : (f_xp_columns S4).toInt = (f_xp_columns S3).toInt := congrArg Int32.toInt kpcW_S4.1
      have nxp_rows_S4 : (f_xp_rows S4).toInt = (f_xp_rows S3).toInt := congrArg Int32.toInt kpcW_S4.2
      refine lv_aload_n hx hb d_Memory_save_70 rfl (lv_at hl 2 rfl) ?_
      refine lv_dup hx hb d_Memory_save_71 rfl ?_
      refine va_get (D := D) (ci := 2) (v := .int (f_xm_openSaves S4)) (C := "PageScribe$Memory") (T := F_Memory) (N := 8) hx hb hts i_Memory hown hK hP 8 (ce_8 _ _ _) cl_2 6 (by decide) (hts _ k_1_138) (fun _ h9 => h9) rfl d_Memory_save_72 ?_
      refine lv_iconst (v := 1) hx hb d_Memory_save_75 (by decide) ?_
      refine lv_iadd hx hb d_Memory_save_76 ?_
      refine lv_topi (fun x6 ex6 => ?_)
      have rx6 := zt_rng x6
      refine va_put (D := D) (ci := 2) (v := .int x6) (ty := .int) (C := "PageScribe$Memory") (T := F_Memory) (N := 8) hx hb hts i_Memory t_Memory t_Memory_ok n_Memory hown hK hP hD hS 8 (ce_8 _ _ _) cl_2 6 (by decide) (hts _ k_1_138) (fun _ h9 => h9) rfl (by decide +kernel) rfl rfl (Nat.le_of_ble_eq_true rfl) d_Memory_save_77 (fun H locs hP hD hS => ?_)
      rw [cp_xm_openSaves] at hP hD
      have hP : va_P D classes (cW T ad ((S4.1, ((a_xm_scopes S4), (f_xm_scopeCount S4), (a_xm_keptNumbers S4), x6, (f_xm_savesMade S4)), S4.2.2.1, S4.2.2.2.1, S4.2.2.2.2.1, S4.2.2.2.2.2.1, S4.2.2.2.2.2.2.1, S4.2.2.2.2.2.2.2.1, S4.2.2.2.2.2.2.2.2) : CS)) H := hP
      have hD : va_D A (cW T ad ((S4.1, ((a_xm_scopes S4), (f_xm_scopeCount S4), (a_xm_keptNumbers S4), x6, (f_xm_savesMade S4)), S4.2.2.1, S4.2.2.2.1, S4.2.2.2.2.1, S4.2.2.2.2.2.1, S4.2.2.2.2.2.2.1, S4.2.2.2.2.2.2.2.1, S4.2.2.2.2.2.2.2.2) : CS)) := hD
      refine lv_iconst (v := 0) hx hb d_Memory_save_80 (by decide) ?_
      exact j_iret F hr hlocks hK hS ((S4.1, ((a_xm_scopes S4), (f_xm_scopeCount S4), (a_xm_keptNumbers S4), x6, (f_xm_savesMade S4)), S4.2.2.1, S4.2.2.2.1, S4.2.2.2.2.1, S4.2.2.2.2.2.1, S4.2.2.2.2.2.2.1, S4.2.2.2.2.2.2.2.1, S4.2.2.2.2.2.2.2.2) : CS) ⟨⟨i_vst, i_vc0, i_vc1, i_vc2, i_vc3, i_vv0, i_vv1, i_vv2, i_vv3, i_vg, i_wct, i_wln, i_sd0, i_sd1, i_sd2, i_sd3, i_rln, i_rtx, i_rpl, i_rtk, i_cnv, i_pts, i_cik, i_und⟩, kScL_S4, kScP_S4, kScU_S4, kScW_S4⟩ hP hD d_Memory_save_81
    · first | have fc34_2 : rv4.toInt < 0 := (by have := zt_ne (show rv4.toInt = _ from rfl) tI_0 c34_2; omega) | have fc34_2 : 0 < rv4.toInt := (by have := zt_ne (show rv4.toInt = _ from rfl) tI_0 c34_2; omega) | skip
      refine lv_iload_n hx hb d_Memory_save_37 rfl (lv_at hl 0 rfl) ?_
      exact j_iret F hr hlocks hK hS S3 ⟨⟨i_vst, i_vc0, i_vc1, i_vc2, i_vc3, i_vv0, i_vv1, i_vv2, i_vv3, i_vg, i_wct, i_wln, i_sd0, i_sd1, i_sd2, i_sd3, i_rln, i_rtx, i_rpl, i_rtk, i_cnv, i_pts, i_cik, i_und⟩, kScL_S3, kScP_S3, kScU_S3, kScW_S3⟩ hP hD d_Memory_save_38
  · refine lv_astore_n (lv' := [(1, .ref (ad 48)), (0, .ref (ad 8))]) hx hb d_Memory_save_8 rfl hl (by decide) rfl (fun ls hl => ?_)
    refine lv_aload_n hx hb d_Memory_save_9 rfl (lv_at hl 0 rfl) ?_
    refine lv_ifnonnull (tgt := 16) hx hb d_Memory_save_10 (by decide) ?_
    refine lv_aload_n hx hb d_Memory_save_16 rfl (lv_at hl 1 rfl) ?_
    refine va_get (D := D) (ci := 2) (v := .ref (ad 1)) (C := "PageScribe$Memory") (T := F_Memory) (N := 8) hx hb hts i_Memory hown hK hP 8 (ce_8 _ _ _) cl_2 0 (by decide) (hts _ k_1_129) (fun _ h9 => h9) rfl d_Memory_save_17 ?_
    refine lv_bipush (v := 7) hx hb d_Memory_save_20 (by decide) ?_
    refine lv_aload_n hx hb d_Memory_save_22 rfl (lv_at hl 1 rfl) ?_
    refine va_get (D := D) (ci := 2) (v := .int (f_xm_savesMade S)) (C := "PageScribe$Memory") (T := F_Memory) (N := 8) hx hb hts i_Memory hown hK hP 8 (ce_8 _ _ _) cl_2 7 (by decide) (hts _ k_1_140) (fun _ h9 => h9) rfl d_Memory_save_23 ?_
    refine lv_iconst (v := 1) hx hb d_Memory_save_26 (by decide) ?_
    refine lv_iadd hx hb d_Memory_save_27 ?_
    refine lv_topi (fun x7 ex7 => ?_)
    have rx7 := zt_rng x7
    refine lv_dconst0 hx hb d_Memory_save_28 ?_
    have := tD_0
    refine jc_ci (w := (fun u => u)) hK hP hD hS hA (va_runU (As := [.int 7, .int x7, .double 0]) (rest := []) F (c_Row_push_s l D T ad S (7 : Int32) x7 0  H.size ⟨i_vst, i_vc0, i_vc1, i_vc2, i_vc3, i_vv0, i_vv1, i_vv2, i_vv3, i_vg, i_wct, i_wln, i_sd0, i_sd1, i_sd2, i_sd3, i_rln, i_rtx, i_rpl, i_rtk, i_cnv, i_pts, i_cik, i_und⟩ (show dB 0 by have := tI_7; omega)) (j_cU (k := 3) (C := "PageScribe$Stack") (owner := "PageScribe$Row") (x := ⟨"PageScribe$Stack", "push", "(IID)I"⟩) hts k_2_104 k_4_232 k_2_100 k_2_102 k_2_103 k_1_2 rfl (by decide +kernel) ⟨Nat.le_of_ble_eq_true rfl, Nat.le_of_ble_eq_true rfl⟩) (j_preV (q0 := 1) (ci := 0) hK hP hD csc csc_all csc_nd cl_0 (ce_1 _ _ _) (fun _ _ _ _ h => h) (fun _ _ _ => trivial)) rfl rfl hl.1 rfl (lv_room (Nat.le_of_ble_eq_true rfl)) d_Memory_save_29 ⟨Nat.le_of_ble_eq_true rfl, Nat.le_of_ble_eq_true rfl⟩) (fun rv6 S5 H locs hw6 hP hD hS => ?_)
    have hP : va_P D classes (cW T ad S5) H := hP
    have hD : va_D A (cW T ad S5) := hD
    obtain ⟨⟨i_vst, i_vc0, i_vc1, i_vc2, i_vc3, i_vv0, i_vv1, i_vv2, i_vv3, i_vg, i_wct, i_wln, i_sd0, i_sd1, i_sd2, i_sd3, i_rln, i_rtx, i_rpl, i_rtk, i_cnv, i_pts, i_cik, i_und⟩, kpcL_S5, kpcP_S5, kpcU_S5, kpcW_S5, qqhw6⟩ := hw6
    have kScL_S5 : kcL S S5 := kcL_t (show kcL S S from (kcL_r S)) kpcL_S5
    have kScP_S5 : kcP S S5 := kcP_t (show kcP S S from (kcP_r S)) kpcP_S5
    have kScU_S5 : kcU S S5 := kcU_t (show kcU S S from (kcU_r S)) kpcU_S5
    have kScW_S5 : kcW S S5 := kcW_t (show kcW S S from (kcW_r S)) kpcW_S5
    have nxr_length_S5 : (f_xr_length S5).toInt = (f_xr_length S).toInt := congrArg Int32.toInt kpcL_S5
    have nxr_length_S5 : (f_xr_length S5).toInt = (f_xr_length S).toInt := congrArg Int32.toInt kpcP_S5.1
    have nxr_place_S5 : (f_xr_place S5).toInt = (f_xr_place S).toInt := congrArg Int32.toInt kpcP_S5.2.1
    have nxe_underWay_S5 : (f_xe_underWay S5).toInt = (f_xe_underWay S).toInt := congrArg Int32.toInt kpcU_S5
    have nxp_columns_S5 : (f_xp_columns S5).toInt = (f_xp_columns S).toInt := congrArg Int32.toInt kpcW_S5.1
    have nxp_rows_S5 : (f_xp_rows S5).toInt = (f_xp_rows S).toInt := congrArg Int32.toInt kpcW_S5.2
    have qhw6 : (f_xm_openSaves S5).toInt = (f_xm_openSaves S).toInt := by simpa only [tI_7] using qqhw6
    have rrv6 := zt_rng rv6
    refine lv_istore_n (lv' := [(2, .int rv6), (1, .ref (ad 48)), (0, .ref (ad 8))]) hx hb d_Memory_save_32 rfl hl (by decide) rfl (fun ls hl => ?_)
    refine lv_iload_n hx hb d_Memory_save_33 rfl (lv_at hl 0 rfl) ?_
    refine lv_if_eq (tgt := 39) hx hb d_Memory_save_34 (by decide) (fun c34_3 => ?_) (fun c34_3 => ?_)
    · have fc34_3 : rv6.toInt = 0 := zt_eq (show rv6.toInt = _ from rfl) tI_0 c34_3
      refine lv_aload_n hx hb d_Memory_save_39 rfl (lv_at hl 2 rfl) ?_
      refine lv_dup hx hb d_Memory_save_40 rfl ?_
      refine va_get (D := D) (ci := 2) (v := .int (f_xm_savesMade S5)) (C := "PageScribe$Memory") (T := F_Memory) (N := 8) hx hb hts i_Memory hown hK hP 8 (ce_8 _ _ _) cl_2 7 (by decide) (hts _ k_1_140) (fun _ h9 => h9) rfl d_Memory_save_41 ?_
      refine lv_iconst (v := 1) hx hb d_Memory_save_44 (by decide) ?_
      refine lv_iadd hx hb d_Memory_save_45 ?_
      refine lv_topi (fun x8 ex8 => ?_)
      have rx8 := zt_rng x8
      refine va_put (D := D) (ci := 2) (v := .int x8) (ty := .int) (C := "PageScribe$Memory") (T := F_Memory) (N := 8) hx hb hts i_Memory t_Memory t_Memory_ok n_Memory hown hK hP hD hS 8 (ce_8 _ _ _) cl_2 7 (by decide) (hts _ k_1_140) (fun _ h9 => h9) rfl (by decide +kernel) rfl rfl (Nat.le_of_ble_eq_true rfl) d_Memory_save_46 (fun H locs hP hD hS => ?_)
      rw [cp_xm_savesMade] at hP hD
      have hP : va_P D classes (cW T ad ((S5.1, ((a_xm_scopes S5), (f_xm_scopeCount S5), (a_xm_keptNumbers S5), (f_xm_openSaves S5), x8), S5.2.2.1, S5.2.2.2.1, S5.2.2.2.2.1, S5.2.2.2.2.2.1, S5.2.2.2.2.2.2.1, S5.2.2.2.2.2.2.2.1, S5.2.2.2.2.2.2.2.2) : CS)) H := hP
      have hD : va_D A (cW T ad ((S5.1, ((a_xm_scopes S5), (f_xm_scopeCount S5), (a_xm_keptNumbers S5), (f_xm_openSaves S5), x8), S5.2.2.1, S5.2.2.2.1, S5.2.2.2.2.1, S5.2.2.2.2.2.1, S5.2.2.2.2.2.2.1, S5.2.2.2.2.2.2.2.1, S5.2.2.2.2.2.2.2.2) : CS)) := hD
      refine lv_aload_n hx hb d_Memory_save_49 rfl (lv_at hl 2 rfl) ?_
      refine va_get (D := D) (ci := 2) (v := .ref (ad 11)) (C := "PageScribe$Memory") (T := F_Memory) (N := 8) hx hb hts i_Memory hown hK hP 8 (ce_8 _ _ _) cl_2 5 (by decide) (hts _ k_1_137) (fun _ h9 => h9) rfl d_Memory_save_50 ?_
      refine lv_aload_n hx hb d_Memory_save_53 rfl (lv_at hl 2 rfl) ?_
      refine va_get (D := D) (ci := 2) (v := .int (f_xm_openSaves S5)) (C := "PageScribe$Memory") (T := F_Memory) (N := 8) hx hb hts i_Memory hown hK hP 8 (ce_8 _ _ _) cl_2 6 (by decide) (hts _ k_1_138) (fun _ h9 => h9) rfl d_Memory_save_54 ?_
      refine lv_aload_n hx hb d_Memory_save_57 rfl (lv_at hl 2 rfl) ?_
      refine va_get (D := D) (ci := 2) (v := .int x8) (C := "PageScribe$Memory") (T := F_Memory) (N := 8) hx hb hts i_Memory hown hK hP 8 (ce_8 _ _ _) cl_2 7 (by decide) (hts _ k_1_140) (fun _ h9 => h9) rfl d_Memory_save_58 ?_
      refine va_iast hx hb hK hP hD hS 11 0 (ce_11 _ _ _) rfl (zt_in (show (f_xm_openSaves S5).toInt = _ from rfl) (by omega) (by omega)) d_Memory_save_61 (fun H locs hP hD hS => ?_)
      rw [cs_xm_keptNumbers] at hP hD
      rw [zt_ix (show (f_xm_openSaves S5).toInt = _ from rfl)] at hP hD
      have hP : va_P D classes (cW T ad ((S5.1, ((a_xm_scopes S5), (f_xm_scopeCount S5), (upd (a_xm_keptNumbers S5) ((f_xm_openSaves S5).toInt.toNat) x8), (f_xm_openSaves S5), x8), S5.2.2.1, S5.2.2.2.1, S5.2.2.2.2.1, S5.2.2.2.2.2.1, S5.2.2.2.2.2.2.1, S5.2.2.2.2.2.2.2.1, S5.2.2.2.2.2.2.2.2) : CS)) H := hP
      have hD : va_D A (cW T ad ((S5.1, ((a_xm_scopes S5), (f_xm_scopeCount S5), (upd (a_xm_keptNumbers S5) ((f_xm_openSaves S5).toInt.toNat) x8), (f_xm_openSaves S5), x8), S5.2.2.1, S5.2.2.2.1, S5.2.2.2.2.1, S5.2.2.2.2.2.1, S5.2.2.2.2.2.2.1, S5.2.2.2.2.2.2.2.1, S5.2.2.2.2.2.2.2.2) : CS)) := hD
      refine lv_aload_n hx hb d_Memory_save_62 rfl (lv_at hl 1 rfl) ?_
      refine lv_aload_n hx hb d_Memory_save_63 rfl (lv_at hl 2 rfl) ?_
      refine va_get (D := D) (ci := 2) (v := .ref (ad 12)) (C := "PageScribe$Memory") (T := F_Memory) (N := 8) hx hb hts i_Memory hown hK hP 8 (ce_8 _ _ _) cl_2 1 (by decide) (hts _ k_1_130) (fun _ h9 => h9) rfl d_Memory_save_64 ?_
      refine jc_cv (w := (fun u => u)) hK hP hD hS hA (va_runV (As := [.ref (ad 12)]) (rest := []) F (c_Store_become_48_12 l D T ad ((S5.1, ((a_xm_scopes S5), (f_xm_scopeCount S5), (upd (a_xm_keptNumbers S5) ((f_xm_openSaves S5).toInt.toNat) x8), (f_xm_openSaves S5), x8), S5.2.2.1, S5.2.2.2.1, S5.2.2.2.2.1, S5.2.2.2.2.2.1, S5.2.2.2.2.2.2.1, S5.2.2.2.2.2.2.2.1, S5.2.2.2.2.2.2.2.2) : CS)  H.size ⟨i_vst, i_vc0, i_vc1, i_vc2, i_vc3, i_vv0, i_vv1, i_vv2, i_vv3, i_vg, i_wct, i_wln, i_sd0, i_sd1, i_sd2, i_sd3, i_rln, i_rtx, i_rpl, i_rtk, i_cnv, i_pts, i_cik, i_und⟩) (j_cV (k := 1) (C := "PageScribe$Store") hts k_5_94 k_1_6 k_5_91 k_5_92 k_5_93 (by decide +kernel) ⟨Nat.le_of_ble_eq_true rfl, Nat.le_of_ble_eq_true rfl⟩) (j_preV (q0 := 48) (ci := 3) hK hP hD csc csc_all csc_nd cl_3 (ce_48 _ _ _) (fun _ _ _ _ h => h) (fun _ _ _ => trivial)) rfl rfl hl.1 rfl (lv_room (Nat.le_of_ble_eq_true rfl)) d_Memory_save_67 ⟨Nat.le_of_ble_eq_true rfl, Nat.le_of_ble_eq_true rfl⟩) (fun S6 H locs hw7 hP hD hS => ?_)
      have hP : va_P D classes (cW T ad S6) H := hP
      have hD : va_D A (cW T ad S6) := hD
      obtain ⟨⟨i_vst, i_vc0, i_vc1, i_vc2, i_vc3, i_vv0, i_vv1, i_vv2, i_vv3, i_vg, i_wct, i_wln, i_sd0, i_sd1, i_sd2, i_sd3, i_rln, i_rtx, i_rpl, i_rtk, i_cnv, i_pts, i_cik, i_und⟩, kpcL_S6, kpcP_S6, kpcU_S6, kpcW_S6⟩ := hw7
      have kScL_S6 : kcL S S6 := kcL_t (show kcL S ((S5.1, ((a_xm_scopes S5), (f_xm_scopeCount S5), (upd (a_xm_keptNumbers S5) ((f_xm_openSaves S5).toInt.toNat) x8), (f_xm_openSaves S5), x8), S5.2.2.1, S5.2.2.2.1, S5.2.2.2.2.1, S5.2.2.2.2.2.1, S5.2.2.2.2.2.2.1, S5.2.2.2.2.2.2.2.1, S5.2.2.2.2.2.2.2.2) : CS) from kScL_S5) kpcL_S6
      have kScP_S6 : kcP S S6 := kcP_t (show kcP S ((S5.1, ((a_xm_scopes S5), (f_xm_scopeCount S5), (upd (a_xm_keptNumbers S5) ((f_xm_openSaves S5).toInt.toNat) x8), (f_xm_openSaves S5), x8), S5.2.2.1, S5.2.2.2.1, S5.2.2.2.2.1, S5.2.2.2.2.2.1, S5.2.2.2.2.2.2.1, S5.2.2.2.2.2.2.2.1, S5.2.2.2.2.2.2.2.2) : CS) from kScP_S5) kpcP_S6
      have kScU_S6 : kcU S S6 := kcU_t (show kcU S ((S5.1, ((a_xm_scopes S5), (f_xm_scopeCount S5), (upd (a_xm_keptNumbers S5) ((f_xm_openSaves S5).toInt.toNat) x8), (f_xm_openSaves S5), x8), S5.2.2.1, S5.2.2.2.1, S5.2.2.2.2.1, S5.2.2.2.2.2.1, S5.2.2.2.2.2.2.1, S5.2.2.2.2.2.2.2.1, S5.2.2.2.2.2.2.2.2) : CS) from kScU_S5) kpcU_S6
      have kScW_S6 : kcW S S6 := kcW_t (show kcW S ((S5.1, ((a_xm_scopes S5), (f_xm_scopeCount S5), (upd (a_xm_keptNumbers S5) ((f_xm_openSaves S5).toInt.toNat) x8), (f_xm_openSaves S5), x8), S5.2.2.1, S5.2.2.2.1, S5.2.2.2.2.1, S5.2.2.2.2.2.1, S5.2.2.2.2.2.2.1, S5.2.2.2.2.2.2.2.1, S5.2.2.2.2.2.2.2.2) : CS) from kScW_S5) kpcW_S6
      have nxr_length_S6 : (f_xr_length S6).toInt = (f_xr_length S5).toInt := congrArg Int32.toInt kpcL_S6
      have nxr_length_S6 : (f_xr_length S6).toInt = (f_xr_length S5).toInt := congrArg Int32.toInt kpcP_S6.1
      have nxr_place_S6 : (f_xr_place S6).toInt = (f_xr_place S5).toInt := congrArg Int32.toInt kpcP_S6.2.1
      have nxe_underWay_S6 : (f_xe_underWay S6).toInt = (f_xe_underWay S5).toInt := congrArg Int32.toInt kpcU_S6
      have nxp_columns_S6 : (f_xp_columns S6).toInt = (f_xp_columns S5).toInt := congrArg Int32.toInt kpcW_S6.1
      have nxp_rows_S6 : (f_xp_rows S6).toInt = (f_xp_rows S5).toInt := congrArg Int32.toInt kpcW_S6.2
      refine lv_aload_n hx hb d_Memory_save_70 rfl (lv_at hl 2 rfl) ?_
      refine lv_dup hx hb d_Memory_save_71 rfl ?_
      refine va_get (D := D) (ci := 2) (v := .int (f_xm_openSaves S6)) (C := "PageScribe$Memory") (T := F_Memory) (N := 8) hx hb hts i_Memory hown hK hP 8 (ce_8 _ _ _) cl_2 6 (by decide) (hts _ k_1_138) (fun _ h9 => h9) rfl d_Memory_save_72 ?_
      refine lv_iconst (v := 1) hx hb d_Memory_save_75 (by decide) ?_
      refine lv_iadd hx hb d_Memory_save_76 ?_
      refine lv_topi (fun x9 ex9 => ?_)
      have rx9 := zt_rng x9
      refine va_put (D := D) (ci := 2) (v := .int x9) (ty := .int) (C := "PageScribe$Memory") (T := F_Memory) (N := 8) hx hb hts i_Memory t_Memory t_Memory_ok n_Memory hown hK hP hD hS 8 (ce_8 _ _ _) cl_2 6 (by decide) (hts _ k_1_138) (fun _ h9 => h9) rfl (by decide +kernel) rfl rfl (Nat.le_of_ble_eq_true rfl) d_Memory_save_77 (fun H locs hP hD hS => ?_)
      rw [cp_xm_openSaves] at hP hD
      have hP : va_P D classes (cW T ad ((S6.1, ((a_xm_scopes S6), (f_xm_scopeCount S6), (a_xm_keptNumbers S6), x9, (f_xm_savesMade S6)), S6.2.2.1, S6.2.2.2.1, S6.2.2.2.2.1, S6.2.2.2.2.2.1, S6.2.2.2.2.2.2.1, S6.2.2.2.2.2.2.2.1, S6.2.2.2.2.2.2.2.2) : CS)) H := hP
      have hD : va_D A (cW T ad ((S6.1, ((a_xm_scopes S6), (f_xm_scopeCount S6), (a_xm_keptNumbers S6), x9, (f_xm_savesMade S6)), S6.2.2.1, S6.2.2.2.1, S6.2.2.2.2.1, S6.2.2.2.2.2.1, S6.2.2.2.2.2.2.1, S6.2.2.2.2.2.2.2.1, S6.2.2.2.2.2.2.2.2) : CS)) := hD
      refine lv_iconst (v := 0) hx hb d_Memory_save_80 (by decide) ?_
      exact j_iret F hr hlocks hK hS ((S6.1, ((a_xm_scopes S6), (f_xm_scopeCount S6), (a_xm_keptNumbers S6), x9, (f_xm_savesMade S6)), S6.2.2.1, S6.2.2.2.1, S6.2.2.2.2.1, S6.2.2.2.2.2.1, S6.2.2.2.2.2.2.1, S6.2.2.2.2.2.2.2.1, S6.2.2.2.2.2.2.2.2) : CS) ⟨⟨i_vst, i_vc0, i_vc1, i_vc2, i_vc3, i_vv0, i_vv1, i_vv2, i_vv3, i_vg, i_wct, i_wln, i_sd0, i_sd1, i_sd2, i_sd3, i_rln, i_rtx, i_rpl, i_rtk, i_cnv, i_pts, i_cik, i_und⟩, kScL_S6, kScP_S6, kScU_S6, kScW_S6⟩ hP hD d_Memory_save_81
    · first | have fc34_3 : rv6.toInt < 0 := (by have := zt_ne (show rv6.toInt = _ from rfl) tI_0 c34_3; omega) | have fc34_3 : 0 < rv6.toInt := (by have := zt_ne (show rv6.toInt = _ from rfl) tI_0 c34_3; omega) | skip
      refine lv_iload_n hx hb d_Memory_save_37 rfl (lv_at hl 0 rfl) ?_
      exact j_iret F hr hlocks hK hS S5 ⟨⟨i_vst, i_vc0, i_vc1, i_vc2, i_vc3, i_vv0, i_vv1, i_vv2, i_vv3, i_vg, i_wct, i_wln, i_sd0, i_sd1, i_sd2, i_sd3, i_rln, i_rtx, i_rpl, i_rtk, i_cnv, i_pts, i_cik, i_und⟩, kScL_S5, kScP_S5, kScU_S5, kScW_S5⟩ hP hD d_Memory_save_38
theorem d_Memory_restore_0 : decode prog_5_method_21_code 0 = .ok (.aload_n 0, 1) := by decide +kernel
theorem d_Memory_restore_1 : decode prog_5_method_21_code 1 = .ok (.getfield 39, 3) := by decide +kernel
theorem d_Memory_restore_4 : decode prog_5_method_21_code 4 = .ok (.iconst 0, 1) := by decide +kernel
theorem d_Memory_restore_5 : decode prog_5_method_21_code 5 = .ok (.invokevirtual 105, 3) := by decide +kernel
theorem d_Memory_restore_8 : decode prog_5_method_21_code 8 = .ok (.istore_n 2, 1) := by decide +kernel
theorem d_Memory_restore_9 : decode prog_5_method_21_code 9 = .ok (.aload_n 0, 1) := by decide +kernel
theorem d_Memory_restore_10 : decode prog_5_method_21_code 10 = .ok (.iload_n 2, 1) := by decide +kernel
theorem d_Memory_restore_11 : decode prog_5_method_21_code 11 = .ok (.invokevirtual 193, 3) := by decide +kernel
theorem k_5_113 : Cond.code ⟨"PageScribe$Memory", "slotOf", "(I)I"⟩ prog_5_method_23_code 3 (some .int) ∈ gw := gw_of (tb_5 (List.mem_of_getElem? (i := 113) (by decide +kernel))) (by decide +kernel)
theorem k_5_110 : Cond.methodLink "PageScribe$Memory" 193 ⟨"PageScribe$Memory", "slotOf", "(I)I"⟩ ∈ gw := gw_of (tb_5 (List.mem_of_getElem? (i := 110) (by decide +kernel))) (by decide +kernel)
theorem k_5_112 : Cond.instanceMethod ⟨"PageScribe$Memory", "slotOf", "(I)I"⟩ ∈ gw := gw_of (tb_5 (List.mem_of_getElem? (i := 112) (by decide +kernel))) (by decide +kernel)
theorem k_0_53 : Cond.selects "PageScribe$Memory" ⟨"PageScribe$Memory", "slotOf", "(I)I"⟩ ⟨"PageScribe$Memory", "slotOf", "(I)I"⟩ ∈ gw := gw_of (tb_0 (List.mem_of_getElem? (i := 53) (by decide +kernel))) (by decide +kernel)
theorem d_Memory_restore_14 : decode prog_5_method_21_code 14 = .ok (.istore_n 3, 1) := by decide +kernel
theorem d_Memory_restore_15 : decode prog_5_method_21_code 15 = .ok (.aload_n 0, 1) := by decide +kernel
theorem d_Memory_restore_16 : decode prog_5_method_21_code 16 = .ok (.iload_n 3, 1) := by decide +kernel
theorem d_Memory_restore_17 : decode prog_5_method_21_code 17 = .ok (.invokevirtual 185, 3) := by decide +kernel
theorem d_Memory_restore_20 : decode prog_5_method_21_code 20 = .ok (.astore 4, 2) := by decide +kernel
theorem d_Memory_restore_22 : decode prog_5_method_21_code 22 = .ok (.aload 4, 2) := by decide +kernel
theorem d_Memory_restore_24 : decode prog_5_method_21_code 24 = .ok (.ifnull 34, 3) := by decide +kernel
theorem d_Memory_restore_58 : decode prog_5_method_21_code 58 = .ok (.bipush 10, 2) := by decide +kernel
theorem d_Memory_restore_60 : decode prog_5_method_21_code 60 = .ok (.ireturn, 1) := by decide +kernel
theorem d_Memory_restore_27 : decode prog_5_method_21_code 27 = .ok (.iload_n 1, 1) := by decide +kernel
theorem d_Memory_restore_28 : decode prog_5_method_21_code 28 = .ok (.aload 4, 2) := by decide +kernel
theorem d_Memory_restore_30 : decode prog_5_method_21_code 30 = .ok (.getfield 112, 3) := by decide +kernel
theorem d_Memory_restore_33 : decode prog_5_method_21_code 33 = .ok (.getfield 116, 3) := by decide +kernel
theorem d_Memory_restore_36 : decode prog_5_method_21_code 36 = .ok (.if_icmp .gt 22, 3) := by decide +kernel
theorem d_Memory_restore_39 : decode prog_5_method_21_code 39 = .ok (.aload_n 0, 1) := by decide +kernel
theorem d_Memory_restore_40 : decode prog_5_method_21_code 40 = .ok (.aload 4, 2) := by decide +kernel
theorem d_Memory_restore_42 : decode prog_5_method_21_code 42 = .ok (.invokevirtual 196, 3) := by decide +kernel
theorem k_5_117 : Cond.code ⟨"PageScribe$Memory", "scopesMadeSince", "(LPageScribe$Store;)Z"⟩ prog_5_method_24_code 3 (some .boolean) ∈ gw := gw_of (tb_5 (List.mem_of_getElem? (i := 117) (by decide +kernel))) (by decide +kernel)
theorem k_5_114 : Cond.methodLink "PageScribe$Memory" 196 ⟨"PageScribe$Memory", "scopesMadeSince", "(LPageScribe$Store;)Z"⟩ ∈ gw := gw_of (tb_5 (List.mem_of_getElem? (i := 114) (by decide +kernel))) (by decide +kernel)
theorem k_5_116 : Cond.instanceMethod ⟨"PageScribe$Memory", "scopesMadeSince", "(LPageScribe$Store;)Z"⟩ ∈ gw := gw_of (tb_5 (List.mem_of_getElem? (i := 116) (by decide +kernel))) (by decide +kernel)
theorem k_0_54 : Cond.selects "PageScribe$Memory" ⟨"PageScribe$Memory", "scopesMadeSince", "(LPageScribe$Store;)Z"⟩ ⟨"PageScribe$Memory", "scopesMadeSince", "(LPageScribe$Store;)Z"⟩ ∈ gw := gw_of (tb_0 (List.mem_of_getElem? (i := 54) (by decide +kernel))) (by decide +kernel)
theorem d_Memory_restore_45 : decode prog_5_method_21_code 45 = .ok (.ifCond .ne 13, 3) := by decide +kernel
theorem d_Memory_restore_48 : decode prog_5_method_21_code 48 = .ok (.aload_n 0, 1) := by decide +kernel
theorem d_Memory_restore_49 : decode prog_5_method_21_code 49 = .ok (.aload 4, 2) := by decide +kernel
theorem d_Memory_restore_51 : decode prog_5_method_21_code 51 = .ok (.iload_n 2, 1) := by decide +kernel
theorem d_Memory_restore_52 : decode prog_5_method_21_code 52 = .ok (.invokevirtual 200, 3) := by decide +kernel
theorem k_5_122 : Cond.code ⟨"PageScribe$Memory", "stackMadeSince", "(LPageScribe$Store;I)Z"⟩ prog_5_method_25_code 5 (some .boolean) ∈ gw := gw_of (tb_5 (List.mem_of_getElem? (i := 122) (by decide +kernel))) (by decide +kernel)
theorem k_5_119 : Cond.methodLink "PageScribe$Memory" 200 ⟨"PageScribe$Memory", "stackMadeSince", "(LPageScribe$Store;I)Z"⟩ ∈ gw := gw_of (tb_5 (List.mem_of_getElem? (i := 119) (by decide +kernel))) (by decide +kernel)
theorem k_5_121 : Cond.instanceMethod ⟨"PageScribe$Memory", "stackMadeSince", "(LPageScribe$Store;I)Z"⟩ ∈ gw := gw_of (tb_5 (List.mem_of_getElem? (i := 121) (by decide +kernel))) (by decide +kernel)
theorem k_0_55 : Cond.selects "PageScribe$Memory" ⟨"PageScribe$Memory", "stackMadeSince", "(LPageScribe$Store;I)Z"⟩ ⟨"PageScribe$Memory", "stackMadeSince", "(LPageScribe$Store;I)Z"⟩ ∈ gw := gw_of (tb_0 (List.mem_of_getElem? (i := 55) (by decide +kernel))) (by decide +kernel)
theorem d_Memory_restore_55 : decode prog_5_method_21_code 55 = .ok (.ifCond .eq 6, 3) := by decide +kernel
theorem d_Memory_restore_61 : decode prog_5_method_21_code 61 = .ok (.aload_n 0, 1) := by decide +kernel
theorem d_Memory_restore_62 : decode prog_5_method_21_code 62 = .ok (.getfield 12, 3) := by decide +kernel
theorem d_Memory_restore_65 : decode prog_5_method_21_code 65 = .ok (.aload 4, 2) := by decide +kernel
theorem d_Memory_restore_67 : decode prog_5_method_21_code 67 = .ok (.invokevirtual 189, 3) := by decide +kernel
theorem d_Memory_restore_70 : decode prog_5_method_21_code 70 = .ok (.aload_n 0, 1) := by decide +kernel
theorem d_Memory_restore_71 : decode prog_5_method_21_code 71 = .ok (.iload_n 3, 1) := by decide +kernel
theorem d_Memory_restore_72 : decode prog_5_method_21_code 72 = .ok (.putfield 33, 3) := by decide +kernel
theorem d_Memory_restore_75 : decode prog_5_method_21_code 75 = .ok (.aload_n 0, 1) := by decide +kernel
theorem d_Memory_restore_76 : decode prog_5_method_21_code 76 = .ok (.getfield 39, 3) := by decide +kernel
theorem d_Memory_restore_79 : decode prog_5_method_21_code 79 = .ok (.iconst 1, 1) := by decide +kernel
theorem d_Memory_restore_80 : decode prog_5_method_21_code 80 = .ok (.invokevirtual 97, 3) := by decide +kernel
theorem d_Memory_restore_83 : decode prog_5_method_21_code 83 = .ok (.iconst 0, 1) := by decide +kernel
theorem d_Memory_restore_84 : decode prog_5_method_21_code 84 = .ok (.ireturn, 1) := by decide +kernel
set_option maxHeartbeats 4000000 in
set_option maxRecDepth 100000 in
theorem c_Memory_restore (l : Launch) (D : va_G) (T : Nat → ClassId) (ad : Nat → Nat) (g : GE) (Bq : Nat → Prop) (S : CS) (p0 : Int32) (sz : Nat)  (hI : CIv S) : Met l ⟨"PageScribe$Memory", "restore", "(I)I"⟩ (wy ⟨"PageScribe$Memory", "restore", "(I)I"⟩ prog_5_method_21_code 5 (some .int)) ({ frames := 3, cells := 0, slots := 0, locals := 210 }) (va_Pc [.ref (ad 8), .int p0] (Pw D T (cW T ad S) sz (EC g Bq ad))) (va_Qi (fun (r : Int32) (u : CS) => CIv u ∧ kcL S u ∧ kcP S u ∧ kcU S u ∧ kcW S u) (fun u t => Bw D T (va_A (cW T ad S) sz) (cW T ad u) t) (va_A (cW T ad S) sz)) 0 0 (va_A (cW T ad S) sz) := by
  refine j_met (y := ⟨"PageScribe$Memory", "restore", "(I)I"⟩) (b := prog_5_method_21_code) (n := 5) (ret := (some .int)) (av := [.ref (ad 8), .int p0]) (Qc := fun A => va_Qi (fun (r : Int32) (u : CS) => CIv u ∧ kcL S u ∧ kcP S u ∧ kcU S u ∧ kcW S u) (fun u t => Bw D T A (cW T ad u) t) A) (by decide +kernel) (Nat.le_of_ble_eq_true rfl) (fun p e s m args below meth c A ls F hr hlocks hnm hK hP hD hS hA hN hE hl => ?_)
  obtain ⟨hx, hb, hml, hown, hts⟩ := id F
  have hl : lv_has ls 5 [(0, .ref (ad 8)), (1, .int p0)] := hl
  obtain ⟨i_vst, i_vc0, i_vc1, i_vc2, i_vc3, i_vv0, i_vv1, i_vv2, i_vv3, i_vg, i_wct, i_wln, i_sd0, i_sd1, i_sd2, i_sd3, i_rln, i_rtx, i_rpl, i_rtk, i_cnv, i_pts, i_cik, i_und⟩ := id hI
  have hAB : ∀ q, A q → Bq q := EC.ab hE hN
  have hEV := hE.1.narrow hAB
  have rp0 := zt_rng p0
  refine lv_aload_n hx hb d_Memory_restore_0 rfl (lv_at hl 0 rfl) ?_
  refine va_get (D := D) (ci := 2) (v := .ref (ad 1)) (C := "PageScribe$Memory") (T := F_Memory) (N := 8) hx hb hts i_Memory hown hK hP 8 (ce_8 _ _ _) cl_2 0 (by decide) (hts _ k_1_129) (fun _ h9 => h9) rfl d_Memory_restore_1 ?_
  refine lv_iconst (v := 0) hx hb d_Memory_restore_4 (by decide) ?_
  refine jc_ci (w := (fun _ => S)) hK hP hD hS hA (va_runV (As := [.int 0]) (rest := []) F (c_Stack_numberDown l D T ad S (0 : Int32)  s.heap.size) (j_cV (k := 1) (C := "PageScribe$Stack") hts k_2_130 k_1_3 k_4_237 k_2_128 k_2_129 (by decide +kernel) ⟨Nat.le_of_ble_eq_true rfl, Nat.le_of_ble_eq_true rfl⟩) (j_preV (q0 := 1) (ci := 0) hK hP hD csc csc_all csc_nd cl_0 (ce_1 _ _ _) (fun _ _ _ _ h => h) (fun _ _ _ => trivial)) rfl rfl hl.1 rfl (lv_room (Nat.le_of_ble_eq_true rfl)) d_Memory_restore_5 ⟨Nat.le_of_ble_eq_true rfl, Nat.le_of_ble_eq_true rfl⟩) (fun rv1 u1 H locs hw1 hP hD hS => ?_)
  have hP : va_P D classes (cW T ad S) H := hP
  have hD : va_D A (cW T ad S) := hD
  have rrv1 := zt_rng rv1
  refine lv_istore_n (lv' := [(2, .int rv1), (0, .ref (ad 8)), (1, .int p0)]) hx hb d_Memory_restore_8 rfl hl (by decide) rfl (fun ls hl => ?_)
  refine lv_aload_n hx hb d_Memory_restore_9 rfl (lv_at hl 1 rfl) ?_
  refine lv_iload_n hx hb d_Memory_restore_10 rfl (lv_at hl 0 rfl) ?_
  refine jc_ci (w := (fun _ => S)) hK hP hD hS hA (va_runV (As := [.int rv1]) (rest := []) F (c_Memory_slotOf l D T ad S rv1  H.size) (j_cV (k := 1) (C := "PageScribe$Memory") hts k_5_113 k_1_5 k_5_110 k_5_112 k_0_53 (by decide +kernel) ⟨Nat.le_of_ble_eq_true rfl, Nat.le_of_ble_eq_true rfl⟩) (j_preV (q0 := 8) (ci := 2) hK hP hD csc csc_all csc_nd cl_2 (ce_8 _ _ _) (fun _ _ _ _ h => h) (fun _ _ _ => trivial)) rfl rfl hl.1 rfl (lv_room (Nat.le_of_ble_eq_true rfl)) d_Memory_restore_11 ⟨Nat.le_of_ble_eq_true rfl, Nat.le_of_ble_eq_true rfl⟩) (fun rv2 u2 H locs hw2 hP hD hS => ?_)
  have hP : va_P D classes (cW T ad S) H := hP
  have hD : va_D A (cW T ad S) := hD
  have rrv2 := zt_rng rv2
  refine lv_istore_n (lv' := [(3, .int rv2), (2, .int rv1), (0, .ref (ad 8)), (1, .int p0)]) hx hb d_Memory_restore_14 rfl hl (by decide) rfl (fun ls hl => ?_)
  refine lv_aload_n hx hb d_Memory_restore_15 rfl (lv_at hl 2 rfl) ?_
  refine lv_iload_n hx hb d_Memory_restore_16 rfl (lv_at hl 0 rfl) ?_
  refine jc_cq (w := (fun _ => S)) hK hP hD hS hA (va_runV (As := [.int rv2]) (rest := []) F (c_Memory_keptAt l D T ad S rv2  H.size) (j_cV (k := 1) (C := "PageScribe$Memory") hts k_5_90 k_1_5 k_5_87 k_5_89 k_0_52 (by decide +kernel) ⟨Nat.le_of_ble_eq_true rfl, Nat.le_of_ble_eq_true rfl⟩) (j_preV (q0 := 8) (ci := 2) hK hP hD csc csc_all csc_nd cl_2 (ce_8 _ _ _) (fun _ _ _ _ h => h) (fun _ _ _ => trivial)) rfl rfl hl.1 rfl (lv_room (Nat.le_of_ble_eq_true rfl)) d_Memory_restore_17 ⟨Nat.le_of_ble_eq_true rfl, Nat.le_of_ble_eq_true rfl⟩) (fun rv3 u3 H locs hw3 hP hD hS => ?_)
  have hP : va_P D classes (cW T ad S) H := hP
  have hD : va_D A (cW T ad S) := hD
  rcases hw3 with rfl | ⟨hw3k, rfl⟩ | ⟨hw3k, rfl⟩ | ⟨hw3k, rfl⟩
  · refine lv_astoreN (lv' := [(4, .null), (3, .int rv2), (2, .int rv1), (0, .ref (ad 8)), (1, .int p0)]) hx hb d_Memory_restore_20 hl (by decide) rfl (fun ls hl => ?_)
    refine lv_aloadN hx hb d_Memory_restore_22 (lv_at hl 0 rfl) ?_
    refine lv_ifnullN (tgt := 58) hx hb d_Memory_restore_24 (by decide) ?_
    refine lv_bipush (v := 10) hx hb d_Memory_restore_58 (by decide) ?_
    exact j_iret F hr hlocks hK hS S ⟨⟨i_vst, i_vc0, i_vc1, i_vc2, i_vc3, i_vv0, i_vv1, i_vv2, i_vv3, i_vg, i_wct, i_wln, i_sd0, i_sd1, i_sd2, i_sd3, i_rln, i_rtx, i_rpl, i_rtk, i_cnv, i_pts, i_cik, i_und⟩, (kcL_r S), (kcP_r S), (kcU_r S), (kcW_r S)⟩ hP hD d_Memory_restore_60
  · refine lv_astore (lv' := [(4, .ref (ad 24)), (3, .int rv2), (2, .int rv1), (0, .ref (ad 8)), (1, .int p0)]) hx hb d_Memory_restore_20 hl (by decide) rfl (fun ls hl => ?_)
    refine lv_aload hx hb d_Memory_restore_22 (lv_at hl 0 rfl) ?_
    refine lv_ifnull hx hb d_Memory_restore_24 ?_
    refine lv_iload_n hx hb d_Memory_restore_27 rfl (lv_at hl 4 rfl) ?_
    refine lv_aload hx hb d_Memory_restore_28 (lv_at hl 0 rfl) ?_
    refine va_get (D := D) (ci := 3) (v := .ref (ad 25)) (C := "PageScribe$Store") (T := F_Store) (N := 5) hx hb hts i_Store hown hK hP 24 (ce_24 _ _ _) cl_3 0 (by decide) (hts _ k_1_108) (fun _ h9 => h9) rfl d_Memory_restore_30 ?_
    refine va_get (D := D) (ci := 4) (v := .int (f_xc1_z S)) (C := "PageScribe$Row") (T := F_Row) (N := 4) hx hb hts i_Row hown hK hP 25 (ce_25 _ _ _) cl_4 3 (by decide) (hts _ k_1_54) (fun _ h9 => h9) rfl d_Memory_restore_33 ?_
    refine lv_icmp_gt (tgt := 58) hx hb d_Memory_restore_36 (by decide) (fun c36_1 => ?_) (fun c36_1 => ?_)
    · have fc36_1 : (f_xc1_z S).toInt < p0.toInt := zt_lt (show (f_xc1_z S).toInt = _ from rfl) (show p0.toInt = _ from rfl) c36_1
      refine lv_bipush (v := 10) hx hb d_Memory_restore_58 (by decide) ?_
      exact j_iret F hr hlocks hK hS S ⟨⟨i_vst, i_vc0, i_vc1, i_vc2, i_vc3, i_vv0, i_vv1, i_vv2, i_vv3, i_vg, i_wct, i_wln, i_sd0, i_sd1, i_sd2, i_sd3, i_rln, i_rtx, i_rpl, i_rtk, i_cnv, i_pts, i_cik, i_und⟩, (kcL_r S), (kcP_r S), (kcU_r S), (kcW_r S)⟩ hP hD d_Memory_restore_60
    · have fc36_1 : p0.toInt ≤ (f_xc1_z S).toInt := Int.not_lt.mp (zt_nlt (show (f_xc1_z S).toInt = _ from rfl) (show p0.toInt = _ from rfl) c36_1)
      refine lv_aload_n hx hb d_Memory_restore_39 rfl (lv_at hl 3 rfl) ?_
      refine lv_aload hx hb d_Memory_restore_40 (lv_at hl 0 rfl) ?_
      refine jc_ci (w := (fun _ => S)) hK hP hD hS hA (va_runV (As := [.ref (ad 24)]) (rest := []) F (c_Memory_scopesMadeSince_24 l D T ad S  H.size) (j_cV (k := 1) (C := "PageScribe$Memory") hts k_5_117 k_1_5 k_5_114 k_5_116 k_0_54 (by decide +kernel) ⟨Nat.le_of_ble_eq_true rfl, Nat.le_of_ble_eq_true rfl⟩) (j_preV (q0 := 8) (ci := 2) hK hP hD csc csc_all csc_nd cl_2 (ce_8 _ _ _) (fun _ _ _ _ h => h) (fun _ _ _ => trivial)) rfl rfl hl.1 rfl (lv_room (Nat.le_of_ble_eq_true rfl)) d_Memory_restore_42 ⟨Nat.le_of_ble_eq_true rfl, Nat.le_of_ble_eq_true rfl⟩) (fun rv4 u4 H locs hw4 hP hD hS => ?_)
      have hP : va_P D classes (cW T ad S) H := hP
      have hD : va_D A (cW T ad S) := hD
      have qhw4 : rv4.toInt = 0 ∨ rv4.toInt = 1 := hw4
      have rrv4 := zt_rng rv4
      refine lv_if_ne (tgt := 58) hx hb d_Memory_restore_45 (by decide) (fun c45_1 => ?_) (fun c45_1 => ?_)
      · first | have fc45_1 : rv4.toInt < 0 := (by have := zt_ne (show rv4.toInt = _ from rfl) tI_0 c45_1; omega) | have fc45_1 : 0 < rv4.toInt := (by have := zt_ne (show rv4.toInt = _ from rfl) tI_0 c45_1; omega) | skip
        refine lv_bipush (v := 10) hx hb d_Memory_restore_58 (by decide) ?_
        exact j_iret F hr hlocks hK hS S ⟨⟨i_vst, i_vc0, i_vc1, i_vc2, i_vc3, i_vv0, i_vv1, i_vv2, i_vv3, i_vg, i_wct, i_wln, i_sd0, i_sd1, i_sd2, i_sd3, i_rln, i_rtx, i_rpl, i_rtk, i_cnv, i_pts, i_cik, i_und⟩, (kcL_r S), (kcP_r S), (kcU_r S), (kcW_r S)⟩ hP hD d_Memory_restore_60
      · have fc45_1 : rv4.toInt = 0 := zt_eq (show rv4.toInt = _ from rfl) tI_0 c45_1
        refine lv_aload_n hx hb d_Memory_restore_48 rfl (lv_at hl 3 rfl) ?_
        refine lv_aload hx hb d_Memory_restore_49 (lv_at hl 0 rfl) ?_
        refine lv_iload_n hx hb d_Memory_restore_51 rfl (lv_at hl 2 rfl) ?_
        refine jc_ci (w := (fun _ => S)) hK hP hD hS hA (va_runV (As := [.ref (ad 24), .int rv1]) (rest := []) F (c_Memory_stackMadeSince_24 l D T ad g Bq S rv1  H.size) (j_cV (k := 2) (C := "PageScribe$Memory") hts k_5_122 k_1_5 k_5_119 k_5_121 k_0_55 (by decide +kernel) ⟨Nat.le_of_ble_eq_true rfl, Nat.le_of_ble_eq_true rfl⟩) (j_preV (q0 := 8) (ci := 2) hK hP hD csc csc_all csc_nd cl_2 (ce_8 _ _ _) (fun _ _ _ _ h => EC.calling h) (fun U hU hW => EC.at hS hAB hU hW hE)) rfl rfl hl.1 rfl (lv_room (Nat.le_of_ble_eq_true rfl)) d_Memory_restore_52 ⟨Nat.le_of_ble_eq_true rfl, Nat.le_of_ble_eq_true rfl⟩) (fun rv5 u5 H locs hw5 hP hD hS => ?_)
        have hP : va_P D classes (cW T ad S) H := hP
        have hD : va_D A (cW T ad S) := hD
        have qhw5 : rv5.toInt = 0 ∨ rv5.toInt = 1 := hw5
        have rrv5 := zt_rng rv5
        refine lv_if_eq (tgt := 61) hx hb d_Memory_restore_55 (by decide) (fun c55_1 => ?_) (fun c55_1 => ?_)
        · have fc55_1 : rv5.toInt = 0 := zt_eq (show rv5.toInt = _ from rfl) tI_0 c55_1
          refine lv_aload_n hx hb d_Memory_restore_61 rfl (lv_at hl 3 rfl) ?_
          refine va_get (D := D) (ci := 2) (v := .ref (ad 12)) (C := "PageScribe$Memory") (T := F_Memory) (N := 8) hx hb hts i_Memory hown hK hP 8 (ce_8 _ _ _) cl_2 1 (by decide) (hts _ k_1_130) (fun _ h9 => h9) rfl d_Memory_restore_62 ?_
          refine lv_aload hx hb d_Memory_restore_65 (lv_at hl 0 rfl) ?_
          refine jc_cv (w := (fun u => u)) hK hP hD hS hA (va_runV (As := [.ref (ad 24)]) (rest := []) F (c_Store_become_12_24 l D T ad S  H.size ⟨i_vst, i_vc0, i_vc1, i_vc2, i_vc3, i_vv0, i_vv1, i_vv2, i_vv3, i_vg, i_wct, i_wln, i_sd0, i_sd1, i_sd2, i_sd3, i_rln, i_rtx, i_rpl, i_rtk, i_cnv, i_pts, i_cik, i_und⟩) (j_cV (k := 1) (C := "PageScribe$Store") hts k_5_94 k_1_6 k_5_91 k_5_92 k_5_93 (by decide +kernel) ⟨Nat.le_of_ble_eq_true rfl, Nat.le_of_ble_eq_true rfl⟩) (j_preV (q0 := 12) (ci := 3) hK hP hD csc csc_all csc_nd cl_3 (ce_12 _ _ _) (fun _ _ _ _ h => h) (fun _ _ _ => trivial)) rfl rfl hl.1 rfl (lv_room (Nat.le_of_ble_eq_true rfl)) d_Memory_restore_67 ⟨Nat.le_of_ble_eq_true rfl, Nat.le_of_ble_eq_true rfl⟩) (fun S1 H locs hw6 hP hD hS => ?_)
          have hP : va_P D classes (cW T ad S1) H := hP
          have hD : va_D A (cW T ad S1) := hD
          obtain ⟨⟨i_vst, i_vc0, i_vc1, i_vc2, i_vc3, i_vv0, i_vv1, i_vv2, i_vv3, i_vg, i_wct, i_wln, i_sd0, i_sd1, i_sd2, i_sd3, i_rln, i_rtx, i_rpl, i_rtk, i_cnv, i_pts, i_cik, i_und⟩, kpcL_S1, kpcP_S1, kpcU_S1, kpcW_S1⟩ := hw6
          have kScL_S1 : kcL S S1 := kcL_t (show kcL S S from (kcL_r S)) kpcL_S1
          have kScP_S1 : kcP S S1 := kcP_t (show kcP S S from (kcP_r S)) kpcP_S1
          have kScU_S1 : kcU S S1 := kcU_t (show kcU S S from (kcU_r S)) kpcU_S1
          have kScW_S1 : kcW S S1 := kcW_t (show kcW S S from (kcW_r S)) kpcW_S1
          have nxr_length_S1 : (f_xr_length S1).toInt = (f_xr_length S).toInt := congrArg Int32.toInt kpcL_S1
          have nxr_length_S1 : (f_xr_length S1).toInt = (f_xr_length S).toInt := congrArg Int32.toInt kpcP_S1.1
          have nxr_place_S1 : (f_xr_place S1).toInt = (f_xr_place S).toInt := congrArg Int32.toInt kpcP_S1.2.1
          have nxe_underWay_S1 : (f_xe_underWay S1).toInt = (f_xe_underWay S).toInt := congrArg Int32.toInt kpcU_S1
          have nxp_columns_S1 : (f_xp_columns S1).toInt = (f_xp_columns S).toInt := congrArg Int32.toInt kpcW_S1.1
          have nxp_rows_S1 : (f_xp_rows S1).toInt = (f_xp_rows S).toInt := congrArg Int32.toInt kpcW_S1.2
          refine lv_aload_n hx hb d_Memory_restore_70 rfl (lv_at hl 3 rfl) ?_
          refine lv_iload_n hx hb d_Memory_restore_71 rfl (lv_at hl 1 rfl) ?_
          refine va_put (D := D) (ci := 2) (v := .int rv2) (ty := .int) (C := "PageScribe$Memory") (T := F_Memory) (N := 8) hx hb hts i_Memory t_Memory t_Memory_ok n_Memory hown hK hP hD hS 8 (ce_8 _ _ _) cl_2 6 (by decide) (hts _ k_1_138) (fun _ h9 => h9) rfl (by decide +kernel) rfl rfl (Nat.le_of_ble_eq_true rfl) d_Memory_restore_72 (fun H locs hP hD hS => ?_)
          rw [cp_xm_openSaves] at hP hD
          have hP : va_P D classes (cW T ad ((S1.1, ((a_xm_scopes S1), (f_xm_scopeCount S1), (a_xm_keptNumbers S1), rv2, (f_xm_savesMade S1)), S1.2.2.1, S1.2.2.2.1, S1.2.2.2.2.1, S1.2.2.2.2.2.1, S1.2.2.2.2.2.2.1, S1.2.2.2.2.2.2.2.1, S1.2.2.2.2.2.2.2.2) : CS)) H := hP
          have hD : va_D A (cW T ad ((S1.1, ((a_xm_scopes S1), (f_xm_scopeCount S1), (a_xm_keptNumbers S1), rv2, (f_xm_savesMade S1)), S1.2.2.1, S1.2.2.2.1, S1.2.2.2.2.1, S1.2.2.2.2.2.1, S1.2.2.2.2.2.2.1, S1.2.2.2.2.2.2.2.1, S1.2.2.2.2.2.2.2.2) : CS)) := hD
          refine lv_aload_n hx hb d_Memory_restore_75 rfl (lv_at hl 3 rfl) ?_
          refine va_get (D := D) (ci := 2) (v := .ref (ad 1)) (C := "PageScribe$Memory") (T := F_Memory) (N := 8) hx hb hts i_Memory hown hK hP 8 (ce_8 _ _ _) cl_2 0 (by decide) (hts _ k_1_129) (fun _ h9 => h9) rfl d_Memory_restore_76 ?_
          refine lv_iconst (v := 1) hx hb d_Memory_restore_79 (by decide) ?_
          refine jc_cv (w := (fun u => u)) hK hP hD hS hA (va_runU (As := [.int 1]) (rest := []) F (c_Row_drop l D T ad ((S1.1, ((a_xm_scopes S1), (f_xm_scopeCount S1), (a_xm_keptNumbers S1), rv2, (f_xm_savesMade S1)), S1.2.2.1, S1.2.2.2.1, S1.2.2.2.2.1, S1.2.2.2.2.2.1, S1.2.2.2.2.2.2.1, S1.2.2.2.2.2.2.2.1, S1.2.2.2.2.2.2.2.2) : CS) (1 : Int32)  H.size ⟨i_vst, i_vc0, i_vc1, i_vc2, i_vc3, i_vv0, i_vv1, i_vv2, i_vv3, i_vg, i_wct, i_wln, i_sd0, i_sd1, i_sd2, i_sd3, i_rln, i_rtx, i_rpl, i_rtk, i_cnv, i_pts, i_cik, i_und⟩) (j_cU (k := 1) (C := "PageScribe$Stack") (owner := "PageScribe$Row") (x := ⟨"PageScribe$Stack", "drop", "(I)V"⟩) hts k_4_47 k_4_231 k_4_43 k_4_45 k_4_46 k_1_2 rfl (by decide +kernel) ⟨Nat.le_of_ble_eq_true rfl, Nat.le_of_ble_eq_true rfl⟩) (j_preV (q0 := 1) (ci := 0) hK hP hD csc csc_all csc_nd cl_0 (ce_1 _ _ _) (fun _ _ _ _ h => h) (fun _ _ _ => trivial)) rfl rfl hl.1 rfl (lv_room (Nat.le_of_ble_eq_true rfl)) d_Memory_restore_80 ⟨Nat.le_of_ble_eq_true rfl, Nat.le_of_ble_eq_true rfl⟩) (fun S2 H locs hw7 hP hD hS => ?_)
          have hP : va_P D classes (cW T ad S2) H := hP
          have hD : va_D A (cW T ad S2) := hD
          obtain ⟨⟨i_vst, i_vc0, i_vc1, i_vc2, i_vc3, i_vv0, i_vv1, i_vv2, i_vv3, i_vg, i_wct, i_wln, i_sd0, i_sd1, i_sd2, i_sd3, i_rln, i_rtx, i_rpl, i_rtk, i_cnv, i_pts, i_cik, i_und⟩, kpcL_S2, kpcP_S2, kpcU_S2, kpcW_S2⟩ := hw7
          have kScL_S2 : kcL S S2 := kcL_t (show kcL S ((S1.1, ((a_xm_scopes S1), (f_xm_scopeCount S1), (a_xm_keptNumbers S1), rv2, (f_xm_savesMade S1)), S1.2.2.1, S1.2.2.2.1, S1.2.2.2.2.1, S1.2.2.2.2.2.1, S1.2.2.2.2.2.2.1, S1.2.2.2.2.2.2.2.1, S1.2.2.2.2.2.2.2.2) : CS) from kScL_S1) kpcL_S2
          have kScP_S2 : kcP S S2 := kcP_t (show kcP S ((S1.1, ((a_xm_scopes S1), (f_xm_scopeCount S1), (a_xm_keptNumbers S1), rv2, (f_xm_savesMade S1)), S1.2.2.1, S1.2.2.2.1, S1.2.2.2.2.1, S1.2.2.2.2.2.1, S1.2.2.2.2.2.2.1, S1.2.2.2.2.2.2.2.1, S1.2.2.2.2.2.2.2.2) : CS) from kScP_S1) kpcP_S2
          have kScU_S2 : kcU S S2 := kcU_t (show kcU S ((S1.1, ((a_xm_scopes S1), (f_xm_scopeCount S1), (a_xm_keptNumbers S1), rv2, (f_xm_savesMade S1)), S1.2.2.1, S1.2.2.2.1, S1.2.2.2.2.1, S1.2.2.2.2.2.1, S1.2.2.2.2.2.2.1, S1.2.2.2.2.2.2.2.1, S1.2.2.2.2.2.2.2.2) : CS) from kScU_S1) kpcU_S2
          have kScW_S2 : kcW S S2 := kcW_t (show kcW S ((S1.1, ((a_xm_scopes S1), (f_xm_scopeCount S1), (a_xm_keptNumbers S1), rv2, (f_xm_savesMade S1)), S1.2.2.1, S1.2.2.2.1, S1.2.2.2.2.1, S1.2.2.2.2.2.1, S1.2.2.2.2.2.2.1, S1.2.2.2.2.2.2.2.1, S1.2.2.2.2.2.2.2.2) : CS) from kScW_S1) kpcW_S2
          have nxr_length_S2 : (f_xr_length S2).toInt = (f_xr_length S1).toInt := congrArg Int32.toInt kpcL_S2
          have nxr_length_S2 : (f_xr_length S2).toInt = (f_xr_length S1).toInt := congrArg Int32.toInt kpcP_S2.1
          have nxr_place_S2 : (f_xr_place S2).toInt = (f_xr_place S1).toInt := congrArg Int32.toInt kpcP_S2.2.1
          have nxe_underWay_S2 : (f_xe_underWay S2).toInt = (f_xe_underWay S1).toInt := congrArg Int32.toInt kpcU_S2
          have nxp_columns_S2 : (f_xp_columns S2).toInt = (f_xp_columns S1).toInt := congrArg Int32.toInt kpcW_S2.1
          have nxp_rows_S2 : (f_xp_rows S2).toInt = (f_xp_rows S1).toInt := congrArg Int32.toInt kpcW_S2.2
          refine lv_iconst (v := 0) hx hb d_Memory_restore_83 (by decide) ?_
          exact j_iret F hr hlocks hK hS S2 ⟨⟨i_vst, i_vc0, i_vc1, i_vc2, i_vc3, i_vv0, i_vv1, i_vv2, i_vv3, i_vg, i_wct, i_wln, i_sd0, i_sd1, i_sd2, i_sd3, i_rln, i_rtx, i_rpl, i_rtk, i_cnv, i_pts, i_cik, i_und⟩, kScL_S2, kScP_S2, kScU_S2, kScW_S2⟩ hP hD d_Memory_restore_84
        · first | have fc55_1 : rv5.toInt < 0 := (by have := zt_ne (show rv5.toInt = _ from rfl) tI_0 c55_1; omega) | have fc55_1 : 0 < rv5.toInt := (by have := zt_ne (show rv5.toInt = _ from rfl) tI_0 c55_1; omega) | skip
          refine lv_bipush (v := 10) hx hb d_Memory_restore_58 (by decide) ?_
          exact j_iret F hr hlocks hK hS S ⟨⟨i_vst, i_vc0, i_vc1, i_vc2, i_vc3, i_vv0, i_vv1, i_vv2, i_vv3, i_vg, i_wct, i_wln, i_sd0, i_sd1, i_sd2, i_sd3, i_rln, i_rtx, i_rpl, i_rtk, i_cnv, i_pts, i_cik, i_und⟩, (kcL_r S), (kcP_r S), (kcU_r S), (kcW_r S)⟩ hP hD d_Memory_restore_60
  · refine lv_astore (lv' := [(4, .ref (ad 36)), (3, .int rv2), (2, .int rv1), (0, .ref (ad 8)), (1, .int p0)]) hx hb d_Memory_restore_20 hl (by decide) rfl (fun ls hl => ?_)
    refine lv_aload hx hb d_Memory_restore_22 (lv_at hl 0 rfl) ?_
    refine lv_ifnull hx hb d_Memory_restore_24 ?_
    refine lv_iload_n hx hb d_Memory_restore_27 rfl (lv_at hl 4 rfl) ?_
    refine lv_aload hx hb d_Memory_restore_28 (lv_at hl 0 rfl) ?_
    refine va_get (D := D) (ci := 3) (v := .ref (ad 37)) (C := "PageScribe$Store") (T := F_Store) (N := 5) hx hb hts i_Store hown hK hP 36 (ce_36 _ _ _) cl_3 0 (by decide) (hts _ k_1_108) (fun _ h9 => h9) rfl d_Memory_restore_30 ?_
    refine va_get (D := D) (ci := 4) (v := .int (f_xc2_z S)) (C := "PageScribe$Row") (T := F_Row) (N := 4) hx hb hts i_Row hown hK hP 37 (ce_37 _ _ _) cl_4 3 (by decide) (hts _ k_1_54) (fun _ h9 => h9) rfl d_Memory_restore_33 ?_
    refine lv_icmp_gt (tgt := 58) hx hb d_Memory_restore_36 (by decide) (fun c36_2 => ?_) (fun c36_2 => ?_)
    · have fc36_2 : (f_xc2_z S).toInt < p0.toInt := zt_lt (show (f_xc2_z S).toInt = _ from rfl) (show p0.toInt = _ from rfl) c36_2
      refine lv_bipush (v := 10) hx hb d_Memory_restore_58 (by decide) ?_
      exact j_iret F hr hlocks hK hS S ⟨⟨i_vst, i_vc0, i_vc1, i_vc2, i_vc3, i_vv0, i_vv1, i_vv2, i_vv3, i_vg, i_wct, i_wln, i_sd0, i_sd1, i_sd2, i_sd3, i_rln, i_rtx, i_rpl, i_rtk, i_cnv, i_pts, i_cik, i_und⟩, (kcL_r S), (kcP_r S), (kcU_r S), (kcW_r S)⟩ hP hD d_Memory_restore_60
    · have fc36_2 : p0.toInt ≤ (f_xc2_z S).toInt := Int.not_lt.mp (zt_nlt (show (f_xc2_z S).toInt = _ from rfl) (show p0.toInt = _ from rfl) c36_2)
      refine lv_aload_n hx hb d_Memory_restore_39 rfl (lv_at hl 3 rfl) ?_
      refine lv_aload hx hb d_Memory_restore_40 (lv_at hl 0 rfl) ?_
      refine jc_ci (w := (fun _ => S)) hK hP hD hS hA (va_runV (As := [.ref (ad 36)]) (rest := []) F (c_Memory_scopesMadeSince_36 l D T ad S  H.size) (j_cV (k := 1) (C := "PageScribe$Memory") hts k_5_117 k_1_5 k_5_114 k_5_116 k_0_54 (by decide +kernel) ⟨Nat.le_of_ble_eq_true rfl, Nat.le_of_ble_eq_true rfl⟩) (j_preV (q0 := 8) (ci := 2) hK hP hD csc csc_all csc_nd cl_2 (ce_8 _ _ _) (fun _ _ _ _ h => h) (fun _ _ _ => trivial)) rfl rfl hl.1 rfl (lv_room (Nat.le_of_ble_eq_true rfl)) d_Memory_restore_42 ⟨Nat.le_of_ble_eq_true rfl, Nat.le_of_ble_eq_true rfl⟩) (fun rv8 u6 H locs hw8 hP hD hS => ?_)
      have hP : va_P D classes (cW T ad S) H := hP
      have hD : va_D A (cW T ad S) := hD
      have qhw8 : rv8.toInt = 0 ∨ rv8.toInt = 1 := hw8
      have rrv8 := zt_rng rv8
      refine lv_if_ne (tgt := 58) hx hb d_Memory_restore_45 (by decide) (fun c45_2 => ?_) (fun c45_2 => ?_)
      · first | have fc45_2 : rv8.toInt < 0 := (by have := zt_ne (show rv8.toInt = _ from rfl) tI_0 c45_2; omega) | have fc45_2 : 0 < rv8.toInt := (by have := zt_ne (show rv8.toInt = _ from rfl) tI_0 c45_2; omega) | skip
        refine lv_bipush (v := 10) hx hb d_Memory_restore_58 (by decide) ?_
        exact j_iret F hr hlocks hK hS S ⟨⟨i_vst, i_vc0, i_vc1, i_vc2, i_vc3, i_vv0, i_vv1, i_vv2, i_vv3, i_vg, i_wct, i_wln, i_sd0, i_sd1, i_sd2, i_sd3, i_rln, i_rtx, i_rpl, i_rtk, i_cnv, i_pts, i_cik, i_und⟩, (kcL_r S), (kcP_r S), (kcU_r S), (kcW_r S)⟩ hP hD d_Memory_restore_60
      · have fc45_2 : rv8.toInt = 0 := zt_eq (show rv8.toInt = _ from rfl) tI_0 c45_2
        refine lv_aload_n hx hb d_Memory_restore_48 rfl (lv_at hl 3 rfl) ?_
        refine lv_aload hx hb d_Memory_restore_49 (lv_at hl 0 rfl) ?_
        refine lv_iload_n hx hb d_Memory_restore_51 rfl (lv_at hl 2 rfl) ?_
        refine jc_ci (w := (fun _ => S)) hK hP hD hS hA (va_runV (As := [.ref (ad 36), .int rv1]) (rest := []) F (c_Memory_stackMadeSince_36 l D T ad g Bq S rv1  H.size) (j_cV (k := 2) (C := "PageScribe$Memory") hts k_5_122 k_1_5 k_5_119 k_5_121 k_0_55 (by decide +kernel) ⟨Nat.le_of_ble_eq_true rfl, Nat.le_of_ble_eq_true rfl⟩) (j_preV (q0 := 8) (ci := 2) hK hP hD csc csc_all csc_nd cl_2 (ce_8 _ _ _) (fun _ _ _ _ h => EC.calling h) (fun U hU hW => EC.at hS hAB hU hW hE)) rfl rfl hl.1 rfl (lv_room (Nat.le_of_ble_eq_true rfl)) d_Memory_restore_52 ⟨Nat.le_of_ble_eq_true rfl, Nat.le_of_ble_eq_true rfl⟩) (fun rv9 u7 H locs hw9 hP hD hS => ?_)
        have hP : va_P D classes (cW T ad S) H := hP
        have hD : va_D A (cW T ad S) := hD
        have qhw9 : rv9.toInt = 0 ∨ rv9.toInt = 1 := hw9
        have rrv9 := zt_rng rv9
        refine lv_if_eq (tgt := 61) hx hb d_Memory_restore_55 (by decide) (fun c55_2 => ?_) (fun c55_2 => ?_)
        · have fc55_2 : rv9.toInt = 0 := zt_eq (show rv9.toInt = _ from rfl) tI_0 c55_2
          refine lv_aload_n hx hb d_Memory_restore_61 rfl (lv_at hl 3 rfl) ?_
          refine va_get (D := D) (ci := 2) (v := .ref (ad 12)) (C := "PageScribe$Memory") (T := F_Memory) (N := 8) hx hb hts i_Memory hown hK hP 8 (ce_8 _ _ _) cl_2 1 (by decide) (hts _ k_1_130) (fun _ h9 => h9) rfl d_Memory_restore_62 ?_
          refine lv_aload hx hb d_Memory_restore_65 (lv_at hl 0 rfl) ?_
          refine jc_cv (w := (fun u => u)) hK hP hD hS hA (va_runV (As := [.ref (ad 36)]) (rest := []) F (c_Store_become_12_36 l D T ad S  H.size ⟨i_vst, i_vc0, i_vc1, i_vc2, i_vc3, i_vv0, i_vv1, i_vv2, i_vv3, i_vg, i_wct, i_wln, i_sd0, i_sd1, i_sd2, i_sd3, i_rln, i_rtx, i_rpl, i_rtk, i_cnv, i_pts, i_cik, i_und⟩) (j_cV (k := 1) (C := "PageScribe$Store") hts k_5_94 k_1_6 k_5_91 k_5_92 k_5_93 (by decide +kernel) ⟨Nat.le_of_ble_eq_true rfl, Nat.le_of_ble_eq_true rfl⟩) (j_preV (q0 := 12) (ci := 3) hK hP hD csc csc_all csc_nd cl_3 (ce_12 _ _ _) (fun _ _ _ _ h => h) (fun _ _ _ => trivial)) rfl rfl hl.1 rfl (lv_room (Nat.le_of_ble_eq_true rfl)) d_Memory_restore_67 ⟨Nat.le_of_ble_eq_true rfl, Nat.le_of_ble_eq_true rfl⟩) (fun S3 H locs hw10 hP hD hS => ?_)
          have hP : va_P D classes (cW T ad S3) H := hP
          have hD : va_D A (cW T ad S3) := hD
          obtain ⟨⟨i_vst, i_vc0, i_vc1, i_vc2, i_vc3, i_vv0, i_vv1, i_vv2, i_vv3, i_vg, i_wct, i_wln, i_sd0, i_sd1, i_sd2, i_sd3, i_rln, i_rtx, i_rpl, i_rtk, i_cnv, i_pts, i_cik, i_und⟩, kpcL_S3, kpcP_S3, kpcU_S3, kpcW_S3⟩ := hw10
          have kScL_S3 : kcL S S3 := kcL_t (show kcL S S from (kcL_r S)) kpcL_S3
          have kScP_S3 : kcP S S3 := kcP_t (show kcP S S from (kcP_r S)) kpcP_S3
          have kScU_S3 : kcU S S3 := kcU_t (show kcU S S from (kcU_r S)) kpcU_S3
          have kScW_S3 : kcW S S3 := kcW_t (show kcW S S from (kcW_r S)) kpcW_S3
          have nxr_length_S3 : (f_xr_length S3).toInt = (f_xr_length S).toInt := congrArg Int32.toInt kpcL_S3
          have nxr_length_S3 : (f_xr_length S3).toInt = (f_xr_length S).toInt := congrArg Int32.toInt kpcP_S3.1
          have nxr_place_S3 : (f_xr_place S3).toInt = (f_xr_place S).toInt := congrArg Int32.toInt kpcP_S3.2.1
          have nxe_underWay_S3 : (f_xe_underWay S3).toInt = (f_xe_underWay S).toInt := congrArg Int32.toInt kpcU_S3
          have nxp_columns_S3 : (f_xp_columns S3).toInt = (f_xp_columns S).toInt := congrArg Int32.toInt kpcW_S3.1
          have nxp_rows_S3 : (f_xp_rows S3).toInt = (f_xp_rows S).toInt := congrArg Int32.toInt kpcW_S3.2
          refine lv_aload_n hx hb d_Memory_restore_70 rfl (lv_at hl 3 rfl) ?_
          refine lv_iload_n hx hb d_Memory_restore_71 rfl (lv_at hl 1 rfl) ?_
          refine va_put (D := D) (ci := 2) (v := .int rv2) (ty := .int) (C := "PageScribe$Memory") (T := F_Memory) (N := 8) hx hb hts i_Memory t_Memory t_Memory_ok n_Memory hown hK hP hD hS 8 (ce_8 _ _ _) cl_2 6 (by decide) (hts _ k_1_138) (fun _ h9 => h9) rfl (by decide +kernel) rfl rfl (Nat.le_of_ble_eq_true rfl) d_Memory_restore_72 (fun H locs hP hD hS => ?_)
          rw [cp_xm_openSaves] at hP hD
          have hP : va_P D classes (cW T ad ((S3.1, ((a_xm_scopes S3), (f_xm_scopeCount S3), (a_xm_keptNumbers S3), rv2, (f_xm_savesMade S3)), S3.2.2.1, S3.2.2.2.1, S3.2.2.2.2.1, S3.2.2.2.2.2.1, S3.2.2.2.2.2.2.1, S3.2.2.2.2.2.2.2.1, S3.2.2.2.2.2.2.2.2) : CS)) H := hP
          have hD : va_D A (cW T ad ((S3.1, ((a_xm_scopes S3), (f_xm_scopeCount S3), (a_xm_keptNumbers S3), rv2, (f_xm_savesMade S3)), S3.2.2.1, S3.2.2.2.1, S3.2.2.2.2.1, S3.2.2.2.2.2.1, S3.2.2.2.2.2.2.1, S3.2.2.2.2.2.2.2.1, S3.2.2.2.2.2.2.2.2) : CS)) := hD
          refine lv_aload_n hx hb d_Memory_restore_75 rfl (lv_at hl 3 rfl) ?_
          refine va_get (D := D) (ci := 2) (v := .ref (ad 1)) (C := "PageScribe$Memory") (T := F_Memory) (N := 8) hx hb hts i_Memory hown hK hP 8 (ce_8 _ _ _) cl_2 0 (by decide) (hts _ k_1_129) (fun _ h9 => h9) rfl d_Memory_restore_76 ?_
          refine lv_iconst (v := 1) hx hb d_Memory_restore_79 (by decide) ?_
          refine jc_cv (w := (fun u => u)) hK hP hD hS hA (va_runU (As := [.int 1]) (rest := []) F (c_Row_drop l D T ad ((S3.1, ((a_xm_scopes S3), (f_xm_scopeCount S3), (a_xm_keptNumbers S3), rv2, (f_xm_savesMade S3)), S3.2.2.1, S3.2.2.2.1, S3.2.2.2.2.1, S3.2.2.2.2.2.1, S3.2.2.2.2.2.2.1, S3.2.2.2.2.2.2.2.1, S3.2.2.2.2.2.2.2.2) : CS) (1 : Int32)  H.size ⟨i_vst, i_vc0, i_vc1, i_vc2, i_vc3, i_vv0, i_vv1, i_vv2, i_vv3, i_vg, i_wct, i_wln, i_sd0, i_sd1, i_sd2, i_sd3, i_rln, i_rtx, i_rpl, i_rtk, i_cnv, i_pts, i_cik, i_und⟩) (j_cU (k := 1) (C := "PageScribe$Stack") (owner := "PageScribe$Row") (x := ⟨"PageScribe$Stack", "drop", "(I)V"⟩) hts k_4_47 k_4_231 k_4_43 k_4_45 k_4_46 k_1_2 rfl (by decide +kernel) ⟨Nat.le_of_ble_eq_true rfl, Nat.le_of_ble_eq_true rfl⟩) (j_preV (q0 := 1) (ci := 0) hK hP hD csc csc_all csc_nd cl_0 (ce_1 _ _ _) (fun _ _ _ _ h => h) (fun _ _ _ => trivial)) rfl rfl hl.1 rfl (lv_room (Nat.le_of_ble_eq_true rfl)) d_Memory_restore_80 ⟨Nat.le_of_ble_eq_true rfl, Nat.le_of_ble_eq_true rfl⟩) (fun S4 H locs hw11 hP hD hS => ?_)
          have hP : va_P D classes (cW T ad S4) H := hP
          have hD : va_D A (cW T ad S4) := hD
          obtain ⟨⟨i_vst, i_vc0, i_vc1, i_vc2, i_vc3, i_vv0, i_vv1, i_vv2, i_vv3, i_vg, i_wct, i_wln, i_sd0, i_sd1, i_sd2, i_sd3, i_rln, i_rtx, i_rpl, i_rtk, i_cnv, i_pts, i_cik, i_und⟩, kpcL_S4, kpcP_S4, kpcU_S4, kpcW_S4⟩ := hw11
          have kScL_S4 : kcL S S4 := kcL_t (show kcL S ((S3.1, ((a_xm_scopes S3), (f_xm_scopeCount S3), (a_xm_keptNumbers S3), rv2, (f_xm_savesMade S3)), S3.2.2.1, S3.2.2.2.1, S3.2.2.2.2.1, S3.2.2.2.2.2.1, S3.2.2.2.2.2.2.1, S3.2.2.2.2.2.2.2.1, S3.2.2.2.2.2.2.2.2) : CS) from kScL_S3) kpcL_S4
          have kScP_S4 : kcP S S4 := kcP_t (show kcP S ((S3.1, ((a_xm_scopes S3), (f_xm_scopeCount S3), (a_xm_keptNumbers S3), rv2, (f_xm_savesMade S3)), S3.2.2.1, S3.2.2.2.1, S3.2.2.2.2.1, S3.2.2.2.2.2.1, S3.2.2.2.2.2.2.1, S3.2.2.2.2.2.2.2.1, S3.2.2.2.2.2.2.2.2) : CS) from kScP_S3) kpcP_S4
          have kScU_S4 : kcU S S4 := kcU_t (show kcU S ((S3.1, ((a_xm_scopes S3), (f_xm_scopeCount S3), (a_xm_keptNumbers S3), rv2, (f_xm_savesMade S3)), S3.2.2.1, S3.2.2.2.1, S3.2.2.2.2.1, S3.2.2.2.2.2.1, S3.2.2.2.2.2.2.1, S3.2.2.2.2.2.2.2.1, S3.2.2.2.2.2.2.2.2) : CS) from kScU_S3) kpcU_S4
          have kScW_S4 : kcW S S4 := kcW_t (show kcW S ((S3.1, ((a_xm_scopes S3), (f_xm_scopeCount S3), (a_xm_keptNumbers S3), rv2, (f_xm_savesMade S3)), S3.2.2.1, S3.2.2.2.1, S3.2.2.2.2.1, S3.2.2.2.2.2.1, S3.2.2.2.2.2.2.1, S3.2.2.2.2.2.2.2.1, S3.2.2.2.2.2.2.2.2) : CS) from kScW_S3) kpcW_S4
          have nxr_length_S4 : (f_xr_length S4).toInt = (f_xr_length S3).toInt := congrArg Int32.toInt kpcL_S4
          have nxr_length_S4 : (f_xr_length S4).toInt = (f_xr_length S3).toInt := congrArg Int32.toInt kpcP_S4.1
          have nxr_place_S4 : (f_xr_place S4).toInt = (f_xr_place S3).toInt := congrArg Int32.toInt kpcP_S4.2.1
          have nxe_underWay_S4 : (f_xe_underWay S4).toInt = (f_xe_underWay S3).toInt := congrArg Int32.toInt kpcU_S4
          have nxp_columns_S4 : (f_xp_columns S4).toInt = (f_xp_columns S3).toInt := congrArg Int32.toInt kpcW_S4.1
          have nxp_rows_S4 : (f_xp_rows S4).toInt = (f_xp_rows S3).toInt := congrArg Int32.toInt kpcW_S4.2
          refine lv_iconst (v := 0) hx hb d_Memory_restore_83 (by decide) ?_
          exact j_iret F hr hlocks hK hS S4 ⟨⟨i_vst, i_vc0, i_vc1, i_vc2, i_vc3, i_vv0, i_vv1, i_vv2, i_vv3, i_vg, i_wct, i_wln, i_sd0, i_sd1, i_sd2, i_sd3, i_rln, i_rtx, i_rpl, i_rtk, i_cnv, i_pts, i_cik, i_und⟩, kScL_S4, kScP_S4, kScU_S4, kScW_S4⟩ hP hD d_Memory_restore_84
        · first | have fc55_2 : rv9.toInt < 0 := (by have := zt_ne (show rv9.toInt = _ from rfl) tI_0 c55_2; omega) | have fc55_2 : 0 < rv9.toInt := (by have := zt_ne (show rv9.toInt = _ from rfl) tI_0 c55_2; omega) | skip
          refine lv_bipush (v := 10) hx hb d_Memory_restore_58 (by decide) ?_
          exact j_iret F hr hlocks hK hS S ⟨⟨i_vst, i_vc0, i_vc1, i_vc2, i_vc3, i_vv0, i_vv1, i_vv2, i_vv3, i_vg, i_wct, i_wln, i_sd0, i_sd1, i_sd2, i_sd3, i_rln, i_rtx, i_rpl, i_rtk, i_cnv, i_pts, i_cik, i_und⟩, (kcL_r S), (kcP_r S), (kcU_r S), (kcW_r S)⟩ hP hD d_Memory_restore_60
  · refine lv_astore (lv' := [(4, .ref (ad 48)), (3, .int rv2), (2, .int rv1), (0, .ref (ad 8)), (1, .int p0)]) hx hb d_Memory_restore_20 hl (by decide) rfl (fun ls hl => ?_)
    refine lv_aload hx hb d_Memory_restore_22 (lv_at hl 0 rfl) ?_
    refine lv_ifnull hx hb d_Memory_restore_24 ?_
    refine lv_iload_n hx hb d_Memory_restore_27 rfl (lv_at hl 4 rfl) ?_
    refine lv_aload hx hb d_Memory_restore_28 (lv_at hl 0 rfl) ?_
    refine va_get (D := D) (ci := 3) (v := .ref (ad 49)) (C := "PageScribe$Store") (T := F_Store) (N := 5) hx hb hts i_Store hown hK hP 48 (ce_48 _ _ _) cl_3 0 (by decide) (hts _ k_1_108) (fun _ h9 => h9) rfl d_Memory_restore_30 ?_
    refine va_get (D := D) (ci := 4) (v := .int (f_xc3_z S)) (C := "PageScribe$Row") (T := F_Row) (N := 4) hx hb hts i_Row hown hK hP 49 (ce_49 _ _ _) cl_4 3 (by decide) (hts _ k_1_54) (fun _ h9 => h9) rfl d_Memory_restore_33 ?_
    refine lv_icmp_gt (tgt := 58) hx hb d_Memory_restore_36 (by decide) (fun c36_3 => ?_) (fun c36_3 => ?_)
    · have fc36_3 : (f_xc3_z S).toInt < p0.toInt := zt_lt (show (f_xc3_z S).toInt = _ from rfl) (show p0.toInt = _ from rfl) c36_3
      refine lv_bipush (v := 10) hx hb d_Memory_restore_58 (by decide) ?_
      exact j_iret F hr hlocks hK hS S ⟨⟨i_vst, i_vc0, i_vc1, i_vc2, i_vc3, i_vv0, i_vv1, i_vv2, i_vv3, i_vg, i_wct, i_wln, i_sd0, i_sd1, i_sd2, i_sd3, i_rln, i_rtx, i_rpl, i_rtk, i_cnv, i_pts, i_cik, i_und⟩, (kcL_r S), (kcP_r S), (kcU_r S), (kcW_r S)⟩ hP hD d_Memory_restore_60
    · have fc36_3 : p0.toInt ≤ (f_xc3_z S).toInt := Int.not_lt.mp (zt_nlt (show (f_xc3_z S).toInt = _ from rfl) (show p0.toInt = _ from rfl) c36_3)
      refine lv_aload_n hx hb d_Memory_restore_39 rfl (lv_at hl 3 rfl) ?_
      refine lv_aload hx hb d_Memory_restore_40 (lv_at hl 0 rfl) ?_
      refine jc_ci (w := (fun _ => S)) hK hP hD hS hA (va_runV (As := [.ref (ad 48)]) (rest := []) F (c_Memory_scopesMadeSince_48 l D T ad S  H.size) (j_cV (k := 1) (C := "PageScribe$Memory") hts k_5_117 k_1_5 k_5_114 k_5_116 k_0_54 (by decide +kernel) ⟨Nat.le_of_ble_eq_true rfl, Nat.le_of_ble_eq_true rfl⟩) (j_preV (q0 := 8) (ci := 2) hK hP hD csc csc_all csc_nd cl_2 (ce_8 _ _ _) (fun _ _ _ _ h => h) (fun _ _ _ => trivial)) rfl rfl hl.1 rfl (lv_room (Nat.le_of_ble_eq_true rfl)) d_Memory_restore_42 ⟨Nat.le_of_ble_eq_true rfl, Nat.le_of_ble_eq_true rfl⟩) (fun rv12 u8 H locs hw12 hP hD hS => ?_)
      have hP : va_P D classes (cW T ad S) H := hP
      have hD : va_D A (cW T ad S) := hD
      have qhw12 : rv12.toInt = 0 ∨ rv12.toInt = 1 := hw12
      have rrv12 := zt_rng rv12
      refine lv_if_ne (tgt := 58) hx hb d_Memory_restore_45 (by decide) (fun c45_3 => ?_) (fun c45_3 => ?_)
      · first | have fc45_3 : rv12.toInt < 0 := (by have := zt_ne (show rv12.toInt = _ from rfl) tI_0 c45_3; omega) | have fc45_3 : 0 < rv12.toInt := (by have := zt_ne (show rv12.toInt = _ from rfl) tI_0 c45_3; omega) | skip
        refine lv_bipush (v := 10) hx hb d_Memory_restore_58 (by decide) ?_
        exact j_iret F hr hlocks hK hS S ⟨⟨i_vst, i_vc0, i_vc1, i_vc2, i_vc3, i_vv0, i_vv1, i_vv2, i_vv3, i_vg, i_wct, i_wln, i_sd0, i_sd1, i_sd2, i_sd3, i_rln, i_rtx, i_rpl, i_rtk, i_cnv, i_pts, i_cik, i_und⟩, (kcL_r S), (kcP_r S), (kcU_r S), (kcW_r S)⟩ hP hD d_Memory_restore_60
      · have fc45_3 : rv12.toInt = 0 := zt_eq (show rv12.toInt = _ from rfl) tI_0 c45_3
        refine lv_aload_n hx hb d_Memory_restore_48 rfl (lv_at hl 3 rfl) ?_
        refine lv_aload hx hb d_Memory_restore_49 (lv_at hl 0 rfl) ?_
        refine lv_iload_n hx hb d_Memory_restore_51 rfl (lv_at hl 2 rfl) ?_
        refine jc_ci (w := (fun _ => S)) hK hP hD hS hA (va_runV (As := [.ref (ad 48), .int rv1]) (rest := []) F (c_Memory_stackMadeSince_48 l D T ad g Bq S rv1  H.size) (j_cV (k := 2) (C := "PageScribe$Memory") hts k_5_122 k_1_5 k_5_119 k_5_121 k_0_55 (by decide +kernel) ⟨Nat.le_of_ble_eq_true rfl, Nat.le_of_ble_eq_true rfl⟩) (j_preV (q0 := 8) (ci := 2) hK hP hD csc csc_all csc_nd cl_2 (ce_8 _ _ _) (fun _ _ _ _ h => EC.calling h) (fun U hU hW => EC.at hS hAB hU hW hE)) rfl rfl hl.1 rfl (lv_room (Nat.le_of_ble_eq_true rfl)) d_Memory_restore_52 ⟨Nat.le_of_ble_eq_true rfl, Nat.le_of_ble_eq_true rfl⟩) (fun rv13 u9 H locs hw13 hP hD hS => ?_)
        have hP : va_P D classes (cW T ad S) H := hP
        have hD : va_D A (cW T ad S) := hD
        have qhw13 : rv13.toInt = 0 ∨ rv13.toInt = 1 := hw13
        have rrv13 := zt_rng rv13
        refine lv_if_eq (tgt := 61) hx hb d_Memory_restore_55 (by decide) (fun c55_3 => ?_) (fun c55_3 => ?_)
        · have fc55_3 : rv13.toInt = 0 := zt_eq (show rv13.toInt = _ from rfl) tI_0 c55_3
          refine lv_aload_n hx hb d_Memory_restore_61 rfl (lv_at hl 3 rfl) ?_
          refine va_get (D := D) (ci := 2) (v := .ref (ad 12)) (C := "PageScribe$Memory") (T := F_Memory) (N := 8) hx hb hts i_Memory hown hK hP 8 (ce_8 _ _ _) cl_2 1 (by decide) (hts _ k_1_130) (fun _ h9 => h9) rfl d_Memory_restore_62 ?_
          refine lv_aload hx hb d_Memory_restore_65 (lv_at hl 0 rfl) ?_
          refine jc_cv (w := (fun u => u)) hK hP hD hS hA (va_runV (As := [.ref (ad 48)]) (rest := []) F (c_Store_become_12_48 l D T ad S  H.size ⟨i_vst, i_vc0, i_vc1, i_vc2, i_vc3, i_vv0, i_vv1, i_vv2, i_vv3, i_vg, i_wct, i_wln, i_sd0, i_sd1, i_sd2, i_sd3, i_rln, i_rtx, i_rpl, i_rtk, i_cnv, i_pts, i_cik, i_und⟩) (j_cV (k := 1) (C := "PageScribe$Store") hts k_5_94 k_1_6 k_5_91 k_5_92 k_5_93 (by decide +kernel) ⟨Nat.le_of_ble_eq_true rfl, Nat.le_of_ble_eq_true rfl⟩) (j_preV (q0 := 12) (ci := 3) hK hP hD csc csc_all csc_nd cl_3 (ce_12 _ _ _) (fun _ _ _ _ h => h) (fun _ _ _ => trivial)) rfl rfl hl.1 rfl (lv_room (Nat.le_of_ble_eq_true rfl)) d_Memory_restore_67 ⟨Nat.le_of_ble_eq_true rfl, Nat.le_of_ble_eq_true rfl⟩) (fun S5 H locs hw14 hP hD hS => ?_)
          have hP : va_P D classes (cW T ad S5) H := hP
          have hD : va_D A (cW T ad S5) := hD
          obtain ⟨⟨i_vst, i_vc0, i_vc1, i_vc2, i_vc3, i_vv0, i_vv1, i_vv2, i_vv3, i_vg, i_wct, i_wln, i_sd0, i_sd1, i_sd2, i_sd3, i_rln, i_rtx, i_rpl, i_rtk, i_cnv, i_pts, i_cik, i_und⟩, kpcL_S5, kpcP_S5, kpcU_S5, kpcW_S5⟩ := hw14
          have kScL_S5 : kcL S S5 := kcL_t (show kcL S S from (kcL_r S)) kpcL_S5
          have kScP_S5 : kcP S S5 := kcP_t (show kcP S S from (kcP_r S)) kpcP_S5
          have kScU_S5 : kcU S S5 := kcU_t (show kcU S S from (kcU_r S)) kpcU_S5
          have kScW_S5 : kcW S S5 := kcW_t (show kcW S S from (kcW_r S)) kpcW_S5
          have nxr_length_S5 : (f_xr_length S5).toInt = (f_xr_length S).toInt := congrArg Int32.toInt kpcL_S5
          have nxr_length_S5 : (f_xr_length S5).toInt = (f_xr_length S).toInt := congrArg Int32.toInt kpcP_S5.1
          have nxr_place_S5 : (f_xr_place S5).toInt = (f_xr_place S).toInt := congrArg Int32.toInt kpcP_S5.2.1
          have nxe_underWay_S5 : (f_xe_underWay S5).toInt = (f_xe_underWay S).toInt := congrArg Int32.toInt kpcU_S5
          have nxp_columns_S5 : (f_xp_columns S5).toInt = (f_xp_columns S).toInt := congrArg Int32.toInt kpcW_S5.1
          have nxp_rows_S5 : (f_xp_rows S5).toInt = (f_xp_rows S).toInt := congrArg Int32.toInt kpcW_S5.2
          refine lv_aload_n hx hb d_Memory_restore_70 rfl (lv_at hl 3 rfl) ?_
          refine lv_iload_n hx hb d_Memory_restore_71 rfl (lv_at hl 1 rfl) ?_
          refine va_put (D := D) (ci := 2) (v := .int rv2) (ty := .int) (C := "PageScribe$Memory") (T := F_Memory) (N := 8) hx hb hts i_Memory t_Memory t_Memory_ok n_Memory hown hK hP hD hS 8 (ce_8 _ _ _) cl_2 6 (by decide) (hts _ k_1_138) (fun _ h9 => h9) rfl (by decide +kernel) rfl rfl (Nat.le_of_ble_eq_true rfl) d_Memory_restore_72 (fun H locs hP hD hS => ?_)
          rw [cp_xm_openSaves] at hP hD
          have hP : va_P D classes (cW T ad ((S5.1, ((a_xm_scopes S5), (f_xm_scopeCount S5), (a_xm_keptNumbers S5), rv2, (f_xm_savesMade S5)), S5.2.2.1, S5.2.2.2.1, S5.2.2.2.2.1, S5.2.2.2.2.2.1, S5.2.2.2.2.2.2.1, S5.2.2.2.2.2.2.2.1, S5.2.2.2.2.2.2.2.2) : CS)) H := hP
          have hD : va_D A (cW T ad ((S5.1, ((a_xm_scopes S5), (f_xm_scopeCount S5), (a_xm_keptNumbers S5), rv2, (f_xm_savesMade S5)), S5.2.2.1, S5.2.2.2.1, S5.2.2.2.2.1, S5.2.2.2.2.2.1, S5.2.2.2.2.2.2.1, S5.2.2.2.2.2.2.2.1, S5.2.2.2.2.2.2.2.2) : CS)) := hD
          refine lv_aload_n hx hb d_Memory_restore_75 rfl (lv_at hl 3 rfl) ?_
          refine va_get (D := D) (ci := 2) (v := .ref (ad 1)) (C := "PageScribe$Memory") (T := F_Memory) (N := 8) hx hb hts i_Memory hown hK hP 8 (ce_8 _ _ _) cl_2 0 (by decide) (hts _ k_1_129) (fun _ h9 => h9) rfl d_Memory_restore_76 ?_
          refine lv_iconst (v := 1) hx hb d_Memory_restore_79 (by decide) ?_
          refine jc_cv (w := (fun u => u)) hK hP hD hS hA (va_runU (As := [.int 1]) (rest := []) F (c_Row_drop l D T ad ((S5.1, ((a_xm_scopes S5), (f_xm_scopeCount S5), (a_xm_keptNumbers S5), rv2, (f_xm_savesMade S5)), S5.2.2.1, S5.2.2.2.1, S5.2.2.2.2.1, S5.2.2.2.2.2.1, S5.2.2.2.2.2.2.1, S5.2.2.2.2.2.2.2.1, S5.2.2.2.2.2.2.2.2) : CS) (1 : Int32)  H.size ⟨i_vst, i_vc0, i_vc1, i_vc2, i_vc3, i_vv0, i_vv1, i_vv2, i_vv3, i_vg, i_wct, i_wln, i_sd0, i_sd1, i_sd2, i_sd3, i_rln, i_rtx, i_rpl, i_rtk, i_cnv, i_pts, i_cik, i_und⟩) (j_cU (k := 1) (C := "PageScribe$Stack") (owner := "PageScribe$Row") (x := ⟨"PageScribe$Stack", "drop", "(I)V"⟩) hts k_4_47 k_4_231 k_4_43 k_4_45 k_4_46 k_1_2 rfl (by decide +kernel) ⟨Nat.le_of_ble_eq_true rfl, Nat.le_of_ble_eq_true rfl⟩) (j_preV (q0 := 1) (ci := 0) hK hP hD csc csc_all csc_nd cl_0 (ce_1 _ _ _) (fun _ _ _ _ h => h) (fun _ _ _ => trivial)) rfl rfl hl.1 rfl (lv_room (Nat.le_of_ble_eq_true rfl)) d_Memory_restore_80 ⟨Nat.le_of_ble_eq_true rfl, Nat.le_of_ble_eq_true rfl⟩) (fun S6 H locs hw15 hP hD hS => ?_)
          have hP : va_P D classes (cW T ad S6) H := hP
          have hD : va_D A (cW T ad S6) := hD
          obtain ⟨⟨i_vst, i_vc0, i_vc1, i_vc2, i_vc3, i_vv0, i_vv1, i_vv2, i_vv3, i_vg, i_wct, i_wln, i_sd0, i_sd1, i_sd2, i_sd3, i_rln, i_rtx, i_rpl, i_rtk, i_cnv, i_pts, i_cik, i_und⟩, kpcL_S6, kpcP_S6, kpcU_S6, kpcW_S6⟩ := hw15
          have kScL_S6 : kcL S S6 := kcL_t (show kcL S ((S5.1, ((a_xm_scopes S5), (f_xm_scopeCount S5), (a_xm_keptNumbers S5), rv2, (f_xm_savesMade S5)), S5.2.2.1, S5.2.2.2.1, S5.2.2.2.2.1, S5.2.2.2.2.2.1, S5.2.2.2.2.2.2.1, S5.2.2.2.2.2.2.2.1, S5.2.2.2.2.2.2.2.2) : CS) from kScL_S5) kpcL_S6
          have kScP_S6 : kcP S S6 := kcP_t (show kcP S ((S5.1, ((a_xm_scopes S5), (f_xm_scopeCount S5), (a_xm_keptNumbers S5), rv2, (f_xm_savesMade S5)), S5.2.2.1, S5.2.2.2.1, S5.2.2.2.2.1, S5.2.2.2.2.2.1, S5.2.2.2.2.2.2.1, S5.2.2.2.2.2.2.2.1, S5.2.2.2.2.2.2.2.2) : CS) from kScP_S5) kpcP_S6
          have kScU_S6 : kcU S S6 := kcU_t (show kcU S ((S5.1, ((a_xm_scopes S5), (f_xm_scopeCount S5), (a_xm_keptNumbers S5), rv2, (f_xm_savesMade S5)), S5.2.2.1, S5.2.2.2.1, S5.2.2.2.2.1, S5.2.2.2.2.2.1, S5.2.2.2.2.2.2.1, S5.2.2.2.2.2.2.2.1, S5.2.2.2.2.2.2.2.2) : CS) from kScU_S5) kpcU_S6
          have kScW_S6 : kcW S S6 := kcW_t (show kcW S ((S5.1, ((a_xm_scopes S5), (f_xm_scopeCount S5), (a_xm_keptNumbers S5), rv2, (f_xm_savesMade S5)), S5.2.2.1, S5.2.2.2.1, S5.2.2.2.2.1, S5.2.2.2.2.2.1, S5.2.2.2.2.2.2.1, S5.2.2.2.2.2.2.2.1, S5.2.2.2.2.2.2.2.2) : CS) from kScW_S5) kpcW_S6
          have nxr_length_S6 : (f_xr_length S6).toInt = (f_xr_length S5).toInt := congrArg Int32.toInt kpcL_S6
          have nxr_length_S6 : (f_xr_length S6).toInt = (f_xr_length S5).toInt := congrArg Int32.toInt kpcP_S6.1
          have nxr_place_S6 : (f_xr_place S6).toInt = (f_xr_place S5).toInt := congrArg Int32.toInt kpcP_S6.2.1
          have nxe_underWay_S6 : (f_xe_underWay S6).toInt = (f_xe_underWay S5).toInt := congrArg Int32.toInt kpcU_S6
          have nxp_columns_S6 : (f_xp_columns S6).toInt = (f_xp_columns S5).toInt := congrArg Int32.toInt kpcW_S6.1
          have nxp_rows_S6 : (f_xp_rows S6).toInt = (f_xp_rows S5).toInt := congrArg Int32.toInt kpcW_S6.2
          refine lv_iconst (v := 0) hx hb d_Memory_restore_83 (by decide) ?_
          exact j_iret F hr hlocks hK hS S6 ⟨⟨i_vst, i_vc0, i_vc1, i_vc2, i_vc3, i_vv0, i_vv1, i_vv2, i_vv3, i_vg, i_wct, i_wln, i_sd0, i_sd1, i_sd2, i_sd3, i_rln, i_rtx, i_rpl, i_rtk, i_cnv, i_pts, i_cik, i_und⟩, kScL_S6, kScP_S6, kScU_S6, kScW_S6⟩ hP hD d_Memory_restore_84
        · first | have fc55_3 : rv13.toInt < 0 := (by have := zt_ne (show rv13.toInt = _ from rfl) tI_0 c55_3; omega) | have fc55_3 : 0 < rv13.toInt := (by have := zt_ne (show rv13.toInt = _ from rfl) tI_0 c55_3; omega) | skip
          refine lv_bipush (v := 10) hx hb d_Memory_restore_58 (by decide) ?_
          exact j_iret F hr hlocks hK hS S ⟨⟨i_vst, i_vc0, i_vc1, i_vc2, i_vc3, i_vv0, i_vv1, i_vv2, i_vv3, i_vg, i_wct, i_wln, i_sd0, i_sd1, i_sd2, i_sd3, i_rln, i_rtx, i_rpl, i_rtk, i_cnv, i_pts, i_cik, i_und⟩, (kcL_r S), (kcP_r S), (kcU_r S), (kcW_r S)⟩ hP hD d_Memory_restore_60
