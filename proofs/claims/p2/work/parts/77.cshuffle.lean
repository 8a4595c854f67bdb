theorem d_Stack_copyBelow_0 : decode prog_9_method_15_code 0 = .ok (.aload_n 0, 1) := by decide +kernel
theorem d_Stack_copyBelow_1 : decode prog_9_method_15_code 1 = .ok (.iconst 0, 1) := by decide +kernel
theorem d_Stack_copyBelow_2 : decode prog_9_method_15_code 2 = .ok (.invokevirtual 29, 3) := by decide +kernel
theorem d_Stack_copyBelow_5 : decode prog_9_method_15_code 5 = .ok (.istore_n 1, 1) := by decide +kernel
theorem d_Stack_copyBelow_6 : decode prog_9_method_15_code 6 = .ok (.iload_n 1, 1) := by decide +kernel
theorem d_Stack_copyBelow_7 : decode prog_9_method_15_code 7 = .ok (.ifCond .lt 13, 3) := by decide +kernel
theorem d_Stack_copyBelow_20 : decode prog_9_method_15_code 20 = .ok (.iconst 4, 1) := by decide +kernel
theorem d_Stack_copyBelow_21 : decode prog_9_method_15_code 21 = .ok (.ireturn, 1) := by decide +kernel
theorem d_Stack_copyBelow_10 : decode prog_9_method_15_code 10 = .ok (.iload_n 1, 1) := by decide +kernel
theorem d_Stack_copyBelow_11 : decode prog_9_method_15_code 11 = .ok (.aload_n 0, 1) := by decide +kernel
theorem d_Stack_copyBelow_12 : decode prog_9_method_15_code 12 = .ok (.getfield 9, 3) := by decide +kernel
theorem d_Stack_copyBelow_15 : decode prog_9_method_15_code 15 = .ok (.iconst 1, 1) := by decide +kernel
theorem d_Stack_copyBelow_16 : decode prog_9_method_15_code 16 = .ok (.isub, 1) := by decide +kernel
theorem d_Stack_copyBelow_17 : decode prog_9_method_15_code 17 = .ok (.if_icmp .le 5, 3) := by decide +kernel
theorem d_Stack_copyBelow_22 : decode prog_9_method_15_code 22 = .ok (.aload_n 0, 1) := by decide +kernel
theorem d_Stack_copyBelow_23 : decode prog_9_method_15_code 23 = .ok (.getfield 9, 3) := by decide +kernel
theorem d_Stack_copyBelow_26 : decode prog_9_method_15_code 26 = .ok (.iconst 1, 1) := by decide +kernel
theorem d_Stack_copyBelow_27 : decode prog_9_method_15_code 27 = .ok (.isub, 1) := by decide +kernel
theorem d_Stack_copyBelow_28 : decode prog_9_method_15_code 28 = .ok (.iload_n 1, 1) := by decide +kernel
theorem d_Stack_copyBelow_29 : decode prog_9_method_15_code 29 = .ok (.iadd, 1) := by decide +kernel
theorem d_Stack_copyBelow_30 : decode prog_9_method_15_code 30 = .ok (.bipush 40, 2) := by decide +kernel
theorem d_Stack_copyBelow_32 : decode prog_9_method_15_code 32 = .ok (.if_icmp .le 5, 3) := by decide +kernel
theorem d_Stack_copyBelow_37 : decode prog_9_method_15_code 37 = .ok (.aload_n 0, 1) := by decide +kernel
theorem d_Stack_copyBelow_38 : decode prog_9_method_15_code 38 = .ok (.iconst 1, 1) := by decide +kernel
theorem d_Stack_copyBelow_39 : decode prog_9_method_15_code 39 = .ok (.invokevirtual 39, 3) := by decide +kernel
theorem d_Stack_copyBelow_42 : decode prog_9_method_15_code 42 = .ok (.aload_n 0, 1) := by decide +kernel
theorem d_Stack_copyBelow_43 : decode prog_9_method_15_code 43 = .ok (.getfield 9, 3) := by decide +kernel
theorem d_Stack_copyBelow_46 : decode prog_9_method_15_code 46 = .ok (.iload_n 1, 1) := by decide +kernel
theorem d_Stack_copyBelow_47 : decode prog_9_method_15_code 47 = .ok (.isub, 1) := by decide +kernel
theorem d_Stack_copyBelow_48 : decode prog_9_method_15_code 48 = .ok (.istore_n 2, 1) := by decide +kernel
theorem d_Stack_copyBelow_49 : decode prog_9_method_15_code 49 = .ok (.iconst 0, 1) := by decide +kernel
theorem d_Stack_copyBelow_50 : decode prog_9_method_15_code 50 = .ok (.istore_n 3, 1) := by decide +kernel
theorem d_Stack_copyBelow_51 : decode prog_9_method_15_code 51 = .ok (.iload_n 3, 1) := by decide +kernel
theorem d_Stack_copyBelow_52 : decode prog_9_method_15_code 52 = .ok (.iload_n 1, 1) := by decide +kernel
theorem d_Stack_copyBelow_53 : decode prog_9_method_15_code 53 = .ok (.if_icmp .ge 18, 3) := by decide +kernel
theorem d_Stack_copyBelow_71 : decode prog_9_method_15_code 71 = .ok (.iconst 0, 1) := by decide +kernel
theorem d_Stack_copyBelow_72 : decode prog_9_method_15_code 72 = .ok (.ireturn, 1) := by decide +kernel
theorem d_Stack_copyBelow_56 : decode prog_9_method_15_code 56 = .ok (.aload_n 0, 1) := by decide +kernel
theorem d_Stack_copyBelow_57 : decode prog_9_method_15_code 57 = .ok (.aload_n 0, 1) := by decide +kernel
theorem d_Stack_copyBelow_58 : decode prog_9_method_15_code 58 = .ok (.iload_n 2, 1) := by decide +kernel
theorem d_Stack_copyBelow_59 : decode prog_9_method_15_code 59 = .ok (.iload_n 3, 1) := by decide +kernel
theorem d_Stack_copyBelow_60 : decode prog_9_method_15_code 60 = .ok (.iadd, 1) := by decide +kernel
theorem d_Stack_copyBelow_61 : decode prog_9_method_15_code 61 = .ok (.invokevirtual 78, 3) := by decide +kernel
theorem k_3_96 : Cond.code ⟨"PageScribe$Row", "pushFrom", "(LPageScribe$Row;I)I"⟩ prog_8_method_7_code 3 (some .int) ∈ gw := gw_of (tb_3 (List.mem_of_getElem? (i := 96) (by decide +kernel))) (by decide +kernel)
theorem k_4_63 : Cond.methodLink "PageScribe$Stack" 78 ⟨"PageScribe$Stack", "pushFrom", "(LPageScribe$Row;I)I"⟩ ∈ gw := gw_of (tb_4 (List.mem_of_getElem? (i := 63) (by decide +kernel))) (by decide +kernel)
theorem k_4_64 : Cond.sameMethod "PageScribe$Stack" "PageScribe$Row" "pushFrom" "(LPageScribe$Row;I)I" ∈ gw := gw_of (tb_4 (List.mem_of_getElem? (i := 64) (by decide +kernel))) (by decide +kernel)
theorem k_4_66 : Cond.selects "PageScribe$Stack" ⟨"PageScribe$Stack", "pushFrom", "(LPageScribe$Row;I)I"⟩ ⟨"PageScribe$Row", "pushFrom", "(LPageScribe$Row;I)I"⟩ ∈ gw := gw_of (tb_4 (List.mem_of_getElem? (i := 66) (by decide +kernel))) (by decide +kernel)
theorem k_3_92 : Cond.instanceMethod ⟨"PageScribe$Row", "pushFrom", "(LPageScribe$Row;I)I"⟩ ∈ gw := gw_of (tb_3 (List.mem_of_getElem? (i := 92) (by decide +kernel))) (by decide +kernel)
theorem d_Stack_copyBelow_64 : decode prog_9_method_15_code 64 = .ok (.pop, 1) := by decide +kernel
theorem d_Stack_copyBelow_65 : decode prog_9_method_15_code 65 = .ok (.iinc 3 1, 3) := by decide +kernel
theorem d_Stack_copyBelow_68 : decode prog_9_method_15_code 68 = .ok (.goto (-17), 3) := by decide +kernel
theorem d_Stack_copyBelow_35 : decode prog_9_method_15_code 35 = .ok (.iconst 2, 1) := by decide +kernel
theorem d_Stack_copyBelow_36 : decode prog_9_method_15_code 36 = .ok (.ireturn, 1) := by decide +kernel
set_option maxHeartbeats 4000000 in
set_option maxRecDepth 100000 in
theorem c_Stack_copyBelow (l : Launch) (D : va_G) (T : Nat → ClassId) (ad : Nat → Nat) (S : CS)  (sz : Nat)  (hI : CIv S) : Met l ⟨"PageScribe$Stack", "copyBelow", "()I"⟩ (wy ⟨"PageScribe$Stack", "copyBelow", "()I"⟩ prog_9_method_15_code 4 (some .int)) ({ frames := 2, cells := 0, slots := 0, locals := 140 }) (va_Pc [.ref (ad 1)] (Pw D T (cW T ad S) sz E0)) (va_Qi (fun (r : Int32) (u : CS) => CIv u ∧ kcL S u ∧ kcP S u ∧ kcU S u ∧ kcW S u) (fun u t => Bw D T (va_A (cW T ad S) sz) (cW T ad u) t) (va_A (cW T ad S) sz)) 0 0 (va_A (cW T ad S) sz) := by
  refine j_met (y := ⟨"PageScribe$Stack", "copyBelow", "()I"⟩) (b := prog_9_method_15_code) (n := 4) (ret := (some .int)) (av := [.ref (ad 1)]) (Qc := fun A => va_Qi (fun (r : Int32) (u : CS) => CIv u ∧ kcL S u ∧ kcP S u ∧ kcU S u ∧ kcW S u) (fun u t => Bw D T A (cW T ad u) t) A) (by decide +kernel) (Nat.le_of_ble_eq_true rfl) (fun p e s m args below meth c A ls F hr hlocks hnm hK hP hD hS hA hN hE hl => ?_)
  obtain ⟨hx, hb, hml, hown, hts⟩ := id F
  have hl : lv_has ls 4 [(0, .ref (ad 1))] := hl
  obtain ⟨i_vst, i_vc0, i_vc1, i_vc2, i_vc3, i_vv0, i_vv1, i_vv2, i_vv3, i_vg, i_wct, i_wln, i_sd0, i_sd1, i_sd2, i_sd3, i_rln, i_rtx, i_rpl, i_rtk, i_cnv, i_pts, i_cik, i_und⟩ := id hI
  refine lv_aload_n hx hb d_Stack_copyBelow_0 rfl (lv_at hl 0 rfl) ?_
  refine lv_iconst (v := 0) hx hb d_Stack_copyBelow_1 (by decide) ?_
  refine jc_ci (w := (fun _ => S)) hK hP hD hS hA (va_runV (As := [.int 0]) (rest := []) F (c_Stack_numberDown l D T ad S (0 : Int32)  s.heap.size) (j_cV (k := 1) (C := "PageScribe$Stack") hts k_2_130 k_1_3 k_4_71 k_2_128 k_2_129 (by decide +kernel) ⟨Nat.le_of_ble_eq_true rfl, Nat.le_of_ble_eq_true rfl⟩) (j_preV (q0 := 1) (ci := 0) hK hP hD csc csc_all csc_nd cl_0 (ce_1 _ _ _) (fun _ _ _ _ h => h) (fun _ _ _ => trivial)) rfl rfl hl.1 rfl (lv_room (Nat.le_of_ble_eq_true rfl)) d_Stack_copyBelow_2 ⟨Nat.le_of_ble_eq_true rfl, Nat.le_of_ble_eq_true rfl⟩) (fun rv1 u1 H locs hw1 hP hD hS => ?_)
  have hP : va_P D classes (cW T ad S) H := hP
  have hD : va_D A (cW T ad S) := hD
  have rrv1 := zt_rng rv1
  refine lv_istore_n (lv' := [(1, .int rv1), (0, .ref (ad 1))]) hx hb d_Stack_copyBelow_5 rfl hl (by decide) rfl (fun ls hl => ?_)
  refine lv_iload_n hx hb d_Stack_copyBelow_6 rfl (lv_at hl 0 rfl) ?_
  refine lv_if_lt (tgt := 20) hx hb d_Stack_copyBelow_7 (by decide) (fun c7_1 => ?_) (fun c7_1 => ?_)
  · have fc7_1 : rv1.toInt < 0 := zt_lt (show rv1.toInt = _ from rfl) tI_0 c7_1
    refine lv_iconst (v := 4) hx hb d_Stack_copyBelow_20 (by decide) ?_
    exact j_iret F hr hlocks hK hS S ⟨⟨i_vst, i_vc0, i_vc1, i_vc2, i_vc3, i_vv0, i_vv1, i_vv2, i_vv3, i_vg, i_wct, i_wln, i_sd0, i_sd1, i_sd2, i_sd3, i_rln, i_rtx, i_rpl, i_rtk, i_cnv, i_pts, i_cik, i_und⟩, (kcL_r S), (kcP_r S), (kcU_r S), (kcW_r S)⟩ hP hD d_Stack_copyBelow_21
  · have fc7_1 : 0 ≤ rv1.toInt := Int.not_lt.mp (zt_nlt (show rv1.toInt = _ from rfl) tI_0 c7_1)
    refine lv_iload_n hx hb d_Stack_copyBelow_10 rfl (lv_at hl 0 rfl) ?_
    refine lv_aload_n hx hb d_Stack_copyBelow_11 rfl (lv_at hl 1 rfl) ?_
    refine va_get (D := D) (ci := 0) (v := .int (f_xst_z S)) (C := "PageScribe$Stack") (T := F_Stack) (N := 4) hx hb hts i_Stack hown hK hP 1 (ce_1 _ _ _) cl_0 3 (by decide) (hts _ k_1_50) (fun x9 h9 => u_same (hts _ k_1_51) x9 h9) rfl d_Stack_copyBelow_12 ?_
    refine lv_iconst (v := 1) hx hb d_Stack_copyBelow_15 (by decide) ?_
    refine lv_isub hx hb d_Stack_copyBelow_16 ?_
    refine lv_topi (fun x1 ex1 => ?_)
    have rx1 := zt_rng x1
    refine lv_icmp_le (tgt := 22) hx hb d_Stack_copyBelow_17 (by decide) (fun c17_1 => ?_) (fun c17_1 => ?_)
    · have fc17_1 : rv1.toInt ≤ x1.toInt := zt_le (show rv1.toInt = _ from rfl) (show x1.toInt = _ from rfl) c17_1
      refine lv_aload_n hx hb d_Stack_copyBelow_22 rfl (lv_at hl 1 rfl) ?_
      refine va_get (D := D) (ci := 0) (v := .int (f_xst_z S)) (C := "PageScribe$Stack") (T := F_Stack) (N := 4) hx hb hts i_Stack hown hK hP 1 (ce_1 _ _ _) cl_0 3 (by decide) (hts _ k_1_50) (fun x9 h9 => u_same (hts _ k_1_51) x9 h9) rfl d_Stack_copyBelow_23 ?_
      refine lv_iconst (v := 1) hx hb d_Stack_copyBelow_26 (by decide) ?_
      refine lv_isub hx hb d_Stack_copyBelow_27 ?_
      refine lv_topi (fun x2 ex2 => ?_)
      have rx2 := zt_rng x2
      refine lv_iload_n hx hb d_Stack_copyBelow_28 rfl (lv_at hl 0 rfl) ?_
      refine lv_iadd hx hb d_Stack_copyBelow_29 ?_
      refine lv_topi (fun x3 ex3 => ?_)
      have rx3 := zt_rng x3
      refine lv_bipush (v := 40) hx hb d_Stack_copyBelow_30 (by decide) ?_
      refine lv_icmp_le (tgt := 37) hx hb d_Stack_copyBelow_32 (by decide) (fun c32_1 => ?_) (fun c32_1 => ?_)
      · have fc32_1 : x3.toInt ≤ 40 := zt_le (show x3.toInt = _ from rfl) tI_40 c32_1
        refine lv_aload_n hx hb d_Stack_copyBelow_37 rfl (lv_at hl 1 rfl) ?_
        refine lv_iconst (v := 1) hx hb d_Stack_copyBelow_38 (by decide) ?_
        refine jc_cv (w := (fun u => u)) hK hP hD hS hA (va_runU (As := [.int 1]) (rest := []) F (c_Row_drop l D T ad S (1 : Int32)  H.size ⟨i_vst, i_vc0, i_vc1, i_vc2, i_vc3, i_vv0, i_vv1, i_vv2, i_vv3, i_vg, i_wct, i_wln, i_sd0, i_sd1, i_sd2, i_sd3, i_rln, i_rtx, i_rpl, i_rtk, i_cnv, i_pts, i_cik, i_und⟩) (j_cU (k := 1) (C := "PageScribe$Stack") (owner := "PageScribe$Row") (x := ⟨"PageScribe$Stack", "drop", "(I)V"⟩) hts k_4_47 k_4_42 k_4_43 k_4_45 k_4_46 k_1_2 rfl (by decide +kernel) ⟨Nat.le_of_ble_eq_true rfl, Nat.le_of_ble_eq_true rfl⟩) (j_preV (q0 := 1) (ci := 0) hK hP hD csc csc_all csc_nd cl_0 (ce_1 _ _ _) (fun _ _ _ _ h => h) (fun _ _ _ => trivial)) rfl rfl hl.1 rfl (lv_room (Nat.le_of_ble_eq_true rfl)) d_Stack_copyBelow_39 ⟨Nat.le_of_ble_eq_true rfl, Nat.le_of_ble_eq_true rfl⟩) (fun S1 H locs hw2 hP hD hS => ?_)
        have hP : va_P D classes (cW T ad S1) H := hP
        have hD : va_D A (cW T ad S1) := hD
        obtain ⟨⟨i_vst, i_vc0, i_vc1, i_vc2, i_vc3, i_vv0, i_vv1, i_vv2, i_vv3, i_vg, i_wct, i_wln, i_sd0, i_sd1, i_sd2, i_sd3, i_rln, i_rtx, i_rpl, i_rtk, i_cnv, i_pts, i_cik, i_und⟩, kpcL_S1, kpcP_S1, kpcU_S1, kpcW_S1⟩ := hw2
        have kScL_S1 : kcL S S1 := kcL_t (show kcL S S from (kcL_r S)) kpcL_S1
        have kScP_S1 : kcP S S1 := kcP_t (show kcP S S from (kcP_r S)) kpcP_S1
        have kScU_S1 : kcU S S1 := kcU_t (show kcU S S from (kcU_r S)) kpcU_S1
        have kScW_S1 : kcW S S1 := kcW_t (show kcW S S from (kcW_r S)) kpcW_S1
        have nxr_length_S1 : (f_xr_length S1).toInt = (f_xr_length S).toInt := congrArg Int32.toInt kpcL_S1
        have nxr_length_S1 : (f_xr_length S1).toInt = (f_xr_length S).toInt := congrArg Int32.toInt kpcP_S1.1
        have nxr_place_S1 : (f_xr_place S1).toInt = (f_xr_place S).toInt := congrArg Int32.toInt kpcP_S1.2.1
        have nxe_underWay_S1 : (f_xe_underWay S1).toInt = (f_xe_underWay S).toInt := congrArg Int32.toInt kpcU_S1
        have nxp_columns_S1 : (f_xp_columns S1).toInt = (f_xp_columns S).toInt := congrArg Int32.toInt kpcW_S1.1
        have nxp_rows_S1 : (f_xp_rows S1).toInt = (f_xp_rows S).toInt := congrArg Int32.toInt kpcW_S1.2
        refine lv_aload_n hx hb d_Stack_copyBelow_42 rfl (lv_at hl 1 rfl) ?_
        refine va_get (D := D) (ci := 0) (v := .int (f_xst_z S1)) (C := "PageScribe$Stack") (T := F_Stack) (N := 4) hx hb hts i_Stack hown hK hP 1 (ce_1 _ _ _) cl_0 3 (by decide) (hts _ k_1_50) (fun x9 h9 => u_same (hts _ k_1_51) x9 h9) rfl d_Stack_copyBelow_43 ?_
        refine lv_iload_n hx hb d_Stack_copyBelow_46 rfl (lv_at hl 0 rfl) ?_
        refine lv_isub hx hb d_Stack_copyBelow_47 ?_
        refine lv_topi (fun x4 ex4 => ?_)
        have rx4 := zt_rng x4
        refine lv_istore_n (lv' := [(2, .int x4), (1, .int rv1), (0, .ref (ad 1))]) hx hb d_Stack_copyBelow_48 rfl hl (by decide) rfl (fun ls hl => ?_)
        refine lv_iconst (v := 0) hx hb d_Stack_copyBelow_49 (by decide) ?_
        refine lv_istore_n (lv' := [(3, .int 0), (2, .int x4), (1, .int rv1), (0, .ref (ad 1))]) hx hb d_Stack_copyBelow_50 rfl hl (by decide) rfl (fun ls hl => ?_)
        refine j_loop (α := CS × Int32) (fun k x H locs ls => (0 ≤ x.2.toInt ∧ rv1.toInt ≤ x.2.toInt + ((k : Nat) : Int)) ∧ CIv x.1 ∧ kcL S x.1 ∧ kcP S x.1 ∧ kcU S x.1 ∧ kcW S x.1 ∧ va_P D classes (cW T ad x.1) H ∧ va_D A (cW T ad x.1) ∧ va_S A s.heap H locs ∧ lv_has ls 4 [(3, .int x.2), (2, .int x4), (1, .int rv1), (0, .ref (ad 1))]) (fun _ _ ls => F0 m 51 ls []) (fun k x H locs ls hI9 ih => ?_) (rv1.toInt).toNat (S1, (0 : Int32)) _ _ _ ⟨(show 0 ≤ (0 : Int32).toInt ∧ rv1.toInt ≤ (0 : Int32).toInt + (((rv1.toInt).toNat : Nat) : Int) by have := tI_0; omega), ⟨i_vst, i_vc0, i_vc1, i_vc2, i_vc3, i_vv0, i_vv1, i_vv2, i_vv3, i_vg, i_wct, i_wln, i_sd0, i_sd1, i_sd2, i_sd3, i_rln, i_rtx, i_rpl, i_rtk, i_cnv, i_pts, i_cik, i_und⟩, (show kcL S S1 from kScL_S1), (show kcP S S1 from kScP_S1), (show kcU S S1 from kScU_S1), (show kcW S S1 from kScW_S1), hP, hD, hS, lv_sub hl [0, 1, 2, 3] rfl⟩
        obtain ⟨S2, i⟩ := x
        obtain ⟨hf1, hIx, klcL_S2, klcP_S2, klcU_S2, klcW_S2, hP, hD, hS, hl⟩ := hI9
        obtain ⟨i_vst, i_vc0, i_vc1, i_vc2, i_vc3, i_vv0, i_vv1, i_vv2, i_vv3, i_vg, i_wct, i_wln, i_sd0, i_sd1, i_sd2, i_sd3, i_rln, i_rtx, i_rpl, i_rtk, i_cnv, i_pts, i_cik, i_und⟩ := (show CIv S2 from hIx)
        have klcL_S2 : kcL S S2 := klcL_S2
        have klcP_S2 : kcP S S2 := klcP_S2
        have klcU_S2 : kcU S S2 := klcU_S2
        have klcW_S2 : kcW S S2 := klcW_S2
        have hf1 : 0 ≤ i.toInt ∧ rv1.toInt ≤ i.toInt + ((k : Nat) : Int) := hf1
        have hP : va_P D classes (cW T ad S2) H := hP
        have hD : va_D A (cW T ad S2) := hD
        have hl : lv_has ls 4 [(3, .int i), (2, .int x4), (1, .int rv1), (0, .ref (ad 1))] := hl
        refine lv_iload_n hx hb d_Stack_copyBelow_51 rfl (lv_at hl 0 rfl) ?_
        refine lv_iload_n hx hb d_Stack_copyBelow_52 rfl (lv_at hl 2 rfl) ?_
        refine lv_icmp_ge (tgt := 71) hx hb d_Stack_copyBelow_53 (by decide) (fun c53_1 => ?_) (fun c53_1 => ?_)
        · have fc53_1 : rv1.toInt ≤ i.toInt := zt_le (show rv1.toInt = _ from rfl) (show i.toInt = _ from rfl) c53_1
          refine lv_iconst (v := 0) hx hb d_Stack_copyBelow_71 (by decide) ?_
          exact j_iret F hr hlocks hK hS S2 ⟨⟨i_vst, i_vc0, i_vc1, i_vc2, i_vc3, i_vv0, i_vv1, i_vv2, i_vv3, i_vg, i_wct, i_wln, i_sd0, i_sd1, i_sd2, i_sd3, i_rln, i_rtx, i_rpl, i_rtk, i_cnv, i_pts, i_cik, i_und⟩, klcL_S2, klcP_S2, klcU_S2, klcW_S2⟩ hP hD d_Stack_copyBelow_72
        · have fc53_1 : i.toInt < rv1.toInt := Int.not_le.mp (zt_nle (show rv1.toInt = _ from rfl) (show i.toInt = _ from rfl) c53_1)
          refine lv_aload_n hx hb d_Stack_copyBelow_56 rfl (lv_at hl 3 rfl) ?_
          refine lv_aload_n hx hb d_Stack_copyBelow_57 rfl (lv_at hl 3 rfl) ?_
          refine lv_iload_n hx hb d_Stack_copyBelow_58 rfl (lv_at hl 1 rfl) ?_
          refine lv_iload_n hx hb d_Stack_copyBelow_59 rfl (lv_at hl 0 rfl) ?_
          refine lv_iadd hx hb d_Stack_copyBelow_60 ?_
          refine lv_topi (fun x5 ex5 => ?_)
          have rx5 := zt_rng x5
          refine jc_ci (w := (fun u => u)) hK hP hD hS hA (va_runU (As := [.ref (ad 1), .int x5]) (rest := []) F (c_Row_pushFrom_1_1 l D T ad S2 x5  H.size ⟨i_vst, i_vc0, i_vc1, i_vc2, i_vc3, i_vv0, i_vv1, i_vv2, i_vv3, i_vg, i_wct, i_wln, i_sd0, i_sd1, i_sd2, i_sd3, i_rln, i_rtx, i_rpl, i_rtk, i_cnv, i_pts, i_cik, i_und⟩) (j_cU (k := 2) (C := "PageScribe$Stack") (owner := "PageScribe$Row") (x := ⟨"PageScribe$Stack", "pushFrom", "(LPageScribe$Row;I)I"⟩) hts k_3_96 k_4_63 k_4_64 k_4_66 k_3_92 k_1_2 rfl (by decide +kernel) ⟨Nat.le_of_ble_eq_true rfl, Nat.le_of_ble_eq_true rfl⟩) (j_preV (q0 := 1) (ci := 0) hK hP hD csc csc_all csc_nd cl_0 (ce_1 _ _ _) (fun _ _ _ _ h => h) (fun _ _ _ => trivial)) rfl rfl hl.1 rfl (lv_room (Nat.le_of_ble_eq_true rfl)) d_Stack_copyBelow_61 ⟨Nat.le_of_ble_eq_true rfl, Nat.le_of_ble_eq_true rfl⟩) (fun rv3 S3 H locs hw3 hP hD hS => ?_)
          have hP : va_P D classes (cW T ad S3) H := hP
          have hD : va_D A (cW T ad S3) := hD
          obtain ⟨⟨i_vst, i_vc0, i_vc1, i_vc2, i_vc3, i_vv0, i_vv1, i_vv2, i_vv3, i_vg, i_wct, i_wln, i_sd0, i_sd1, i_sd2, i_sd3, i_rln, i_rtx, i_rpl, i_rtk, i_cnv, i_pts, i_cik, i_und⟩, kpcL_S3, kpcP_S3, kpcU_S3, kpcW_S3⟩ := hw3
          have kScL_S3 : kcL S S3 := kcL_t (show kcL S S2 from klcL_S2) kpcL_S3
          have kScP_S3 : kcP S S3 := kcP_t (show kcP S S2 from klcP_S2) kpcP_S3
          have kScU_S3 : kcU S S3 := kcU_t (show kcU S S2 from klcU_S2) kpcU_S3
          have kScW_S3 : kcW S S3 := kcW_t (show kcW S S2 from klcW_S2) kpcW_S3
          have nxr_length_S3 : (f_xr_length S3).toInt = (f_xr_length S2).toInt := congrArg Int32.toInt kpcL_S3
          have nxr_length_S3 : (f_xr_length S3).toInt = (f_xr_length S2).toInt := congrArg Int32.toInt kpcP_S3.1
          have nxr_place_S3 : (f_xr_place S3).toInt = (f_xr_place S2).toInt := congrArg Int32.toInt kpcP_S3.2.1
          have nxe_underWay_S3 : (f_xe_underWay S3).toInt = (f_xe_underWay S2).toInt := congrArg Int32.toInt kpcU_S3
          have nxp_columns_S3 : (f_xp_columns S3).toInt = (f_xp_columns S2).toInt := congrArg Int32.toInt kpcW_S3.1
          have nxp_rows_S3 : (f_xp_rows S3).toInt = (f_xp_rows S2).toInt := congrArg Int32.toInt kpcW_S3.2
          have rrv3 := zt_rng rv3
          refine lv_pop hx hb d_Stack_copyBelow_64 rfl ?_
          refine lv_iinc (v := (i + 1)) (lv' := [(3, .int (i + 1)), (2, .int x4), (1, .int rv1), (0, .ref (ad 1))]) hx hb d_Stack_copyBelow_65 hl (k := 0) rfl (by first | rfl | decide) (by decide) rfl (fun ls hl => ?_)
          obtain ⟨x6, ex6⟩ : ∃ z, z = (i + 1) := ⟨_, rfl⟩
          rw [← ex6] at hl
          have fx6 : x6.toInt = (i.toInt + 1) := by rw [ex6]; exact (zt_add (show i.toInt = _ from rfl) tI_1 (by omega) (by omega)).trans (by omega)
          have hl : lv_has ls 4 [(3, .int x6), (2, .int x4), (1, .int rv1), (0, .ref (ad 1))] := hl
          refine lv_goto (tgt := 51) hx hb d_Stack_copyBelow_68 (by decide) ?_
          exact ih (k - 1) (S3, x6) _ _ _ (by omega) ⟨(show 0 ≤ x6.toInt ∧ rv1.toInt ≤ x6.toInt + (((k - 1) : Nat) : Int) by omega), ⟨i_vst, i_vc0, i_vc1, i_vc2, i_vc3, i_vv0, i_vv1, i_vv2, i_vv3, i_vg, i_wct, i_wln, i_sd0, i_sd1, i_sd2, i_sd3, i_rln, i_rtx, i_rpl, i_rtk, i_cnv, i_pts, i_cik, i_und⟩, (show kcL S S3 from kScL_S3), (show kcP S S3 from kScP_S3), (show kcU S S3 from kScU_S3), (show kcW S S3 from kScW_S3), hP, hD, hS, lv_sub hl [0, 1, 2, 3] rfl⟩
      · have fc32_1 : 40 < x3.toInt := Int.not_le.mp (zt_nle (show x3.toInt = _ from rfl) tI_40 c32_1)
        refine lv_iconst (v := 2) hx hb d_Stack_copyBelow_35 (by decide) ?_
        exact j_iret F hr hlocks hK hS S ⟨⟨i_vst, i_vc0, i_vc1, i_vc2, i_vc3, i_vv0, i_vv1, i_vv2, i_vv3, i_vg, i_wct, i_wln, i_sd0, i_sd1, i_sd2, i_sd3, i_rln, i_rtx, i_rpl, i_rtk, i_cnv, i_pts, i_cik, i_und⟩, (kcL_r S), (kcP_r S), (kcU_r S), (kcW_r S)⟩ hP hD d_Stack_copyBelow_36
    · have fc17_1 : x1.toInt < rv1.toInt := Int.not_le.mp (zt_nle (show rv1.toInt = _ from rfl) (show x1.toInt = _ from rfl) c17_1)
      refine lv_iconst (v := 4) hx hb d_Stack_copyBelow_20 (by decide) ?_
      exact j_iret F hr hlocks hK hS S ⟨⟨i_vst, i_vc0, i_vc1, i_vc2, i_vc3, i_vv0, i_vv1, i_vv2, i_vv3, i_vg, i_wct, i_wln, i_sd0, i_sd1, i_sd2, i_sd3, i_rln, i_rtx, i_rpl, i_rtk, i_cnv, i_pts, i_cik, i_und⟩, (kcL_r S), (kcP_r S), (kcU_r S), (kcW_r S)⟩ hP hD d_Stack_copyBelow_21
theorem d_Stack_pickBelow_0 : decode prog_9_method_16_code 0 = .ok (.aload_n 0, 1) := by decide +kernel
theorem d_Stack_pickBelow_1 : decode prog_9_method_16_code 1 = .ok (.iconst 0, 1) := by decide +kernel
theorem d_Stack_pickBelow_2 : decode prog_9_method_16_code 2 = .ok (.invokevirtual 29, 3) := by decide +kernel
theorem d_Stack_pickBelow_5 : decode prog_9_method_16_code 5 = .ok (.istore_n 1, 1) := by decide +kernel
theorem d_Stack_pickBelow_6 : decode prog_9_method_16_code 6 = .ok (.iload_n 1, 1) := by decide +kernel
theorem d_Stack_pickBelow_7 : decode prog_9_method_16_code 7 = .ok (.ifCond .lt 13, 3) := by decide +kernel
theorem d_Stack_pickBelow_20 : decode prog_9_method_16_code 20 = .ok (.iconst 4, 1) := by decide +kernel
theorem d_Stack_pickBelow_21 : decode prog_9_method_16_code 21 = .ok (.ireturn, 1) := by decide +kernel
theorem d_Stack_pickBelow_10 : decode prog_9_method_16_code 10 = .ok (.iload_n 1, 1) := by decide +kernel
theorem d_Stack_pickBelow_11 : decode prog_9_method_16_code 11 = .ok (.aload_n 0, 1) := by decide +kernel
theorem d_Stack_pickBelow_12 : decode prog_9_method_16_code 12 = .ok (.getfield 9, 3) := by decide +kernel
theorem d_Stack_pickBelow_15 : decode prog_9_method_16_code 15 = .ok (.iconst 1, 1) := by decide +kernel
theorem d_Stack_pickBelow_16 : decode prog_9_method_16_code 16 = .ok (.isub, 1) := by decide +kernel
theorem d_Stack_pickBelow_17 : decode prog_9_method_16_code 17 = .ok (.if_icmp .lt 5, 3) := by decide +kernel
theorem d_Stack_pickBelow_22 : decode prog_9_method_16_code 22 = .ok (.aload_n 0, 1) := by decide +kernel
theorem d_Stack_pickBelow_23 : decode prog_9_method_16_code 23 = .ok (.iconst 1, 1) := by decide +kernel
theorem d_Stack_pickBelow_24 : decode prog_9_method_16_code 24 = .ok (.invokevirtual 39, 3) := by decide +kernel
theorem d_Stack_pickBelow_27 : decode prog_9_method_16_code 27 = .ok (.aload_n 0, 1) := by decide +kernel
theorem d_Stack_pickBelow_28 : decode prog_9_method_16_code 28 = .ok (.aload_n 0, 1) := by decide +kernel
theorem d_Stack_pickBelow_29 : decode prog_9_method_16_code 29 = .ok (.aload_n 0, 1) := by decide +kernel
theorem d_Stack_pickBelow_30 : decode prog_9_method_16_code 30 = .ok (.getfield 9, 3) := by decide +kernel
theorem d_Stack_pickBelow_33 : decode prog_9_method_16_code 33 = .ok (.iconst 1, 1) := by decide +kernel
theorem d_Stack_pickBelow_34 : decode prog_9_method_16_code 34 = .ok (.isub, 1) := by decide +kernel
theorem d_Stack_pickBelow_35 : decode prog_9_method_16_code 35 = .ok (.iload_n 1, 1) := by decide +kernel
theorem d_Stack_pickBelow_36 : decode prog_9_method_16_code 36 = .ok (.isub, 1) := by decide +kernel
theorem d_Stack_pickBelow_37 : decode prog_9_method_16_code 37 = .ok (.invokevirtual 78, 3) := by decide +kernel
theorem d_Stack_pickBelow_40 : decode prog_9_method_16_code 40 = .ok (.ireturn, 1) := by decide +kernel
set_option maxHeartbeats 4000000 in
set_option maxRecDepth 100000 in
theorem c_Stack_pickBelow (l : Launch) (D : va_G) (T : Nat → ClassId) (ad : Nat → Nat) (S : CS)  (sz : Nat)  (hI : CIv S) : Met l ⟨"PageScribe$Stack", "pickBelow", "()I"⟩ (wy ⟨"PageScribe$Stack", "pickBelow", "()I"⟩ prog_9_method_16_code 2 (some .int)) ({ frames := 2, cells := 0, slots := 0, locals := 140 }) (va_Pc [.ref (ad 1)] (Pw D T (cW T ad S) sz E0)) (va_Qi (fun (r : Int32) (u : CS) => CIv u ∧ kcL S u ∧ kcP S u ∧ kcU S u ∧ kcW S u) (fun u t => Bw D T (va_A (cW T ad S) sz) (cW T ad u) t) (va_A (cW T ad S) sz)) 0 0 (va_A (cW T ad S) sz) := by
  refine j_met (y := ⟨"PageScribe$Stack", "pickBelow", "()I"⟩) (b := prog_9_method_16_code) (n := 2) (ret := (some .int)) (av := [.ref (ad 1)]) (Qc := fun A => va_Qi (fun (r : Int32) (u : CS) => CIv u ∧ kcL S u ∧ kcP S u ∧ kcU S u ∧ kcW S u) (fun u t => Bw D T A (cW T ad u) t) A) (by decide +kernel) (Nat.le_of_ble_eq_true rfl) (fun p e s m args below meth c A ls F hr hlocks hnm hK hP hD hS hA hN hE hl => ?_)
  obtain ⟨hx, hb, hml, hown, hts⟩ := id F
  have hl : lv_has ls 2 [(0, .ref (ad 1))] := hl
  obtain ⟨i_vst, i_vc0, i_vc1, i_vc2, i_vc3, i_vv0, i_vv1, i_vv2, i_vv3, i_vg, i_wct, i_wln, i_sd0, i_sd1, i_sd2, i_sd3, i_rln, i_rtx, i_rpl, i_rtk, i_cnv, i_pts, i_cik, i_und⟩ := id hI
  refine lv_aload_n hx hb d_Stack_pickBelow_0 rfl (lv_at hl 0 rfl) ?_
  refine lv_iconst (v := 0) hx hb d_Stack_pickBelow_1 (by decide) ?_
  refine jc_ci (w := (fun _ => S)) hK hP hD hS hA (va_runV (As := [.int 0]) (rest := []) F (c_Stack_numberDown l D T ad S (0 : Int32)  s.heap.size) (j_cV (k := 1) (C := "PageScribe$Stack") hts k_2_130 k_1_3 k_4_71 k_2_128 k_2_129 (by decide +kernel) ⟨Nat.le_of_ble_eq_true rfl, Nat.le_of_ble_eq_true rfl⟩) (j_preV (q0 := 1) (ci := 0) hK hP hD csc csc_all csc_nd cl_0 (ce_1 _ _ _) (fun _ _ _ _ h => h) (fun _ _ _ => trivial)) rfl rfl hl.1 rfl (lv_room (Nat.le_of_ble_eq_true rfl)) d_Stack_pickBelow_2 ⟨Nat.le_of_ble_eq_true rfl, Nat.le_of_ble_eq_true rfl⟩) (fun rv1 u1 H locs hw1 hP hD hS => ?_)
  have hP : va_P D classes (cW T ad S) H := hP
  have hD : va_D A (cW T ad S) := hD
  have rrv1 := zt_rng rv1
  refine lv_istore_n (lv' := [(1, .int rv1), (0, .ref (ad 1))]) hx hb d_Stack_pickBelow_5 rfl hl (by decide) rfl (fun ls hl => ?_)
  refine lv_iload_n hx hb d_Stack_pickBelow_6 rfl (lv_at hl 0 rfl) ?_
  refine lv_if_lt (tgt := 20) hx hb d_Stack_pickBelow_7 (by decide) (fun c7_1 => ?_) (fun c7_1 => ?_)
  · have fc7_1 : rv1.toInt < 0 := zt_lt (show rv1.toInt = _ from rfl) tI_0 c7_1
    refine lv_iconst (v := 4) hx hb d_Stack_pickBelow_20 (by decide) ?_
    exact j_iret F hr hlocks hK hS S ⟨⟨i_vst, i_vc0, i_vc1, i_vc2, i_vc3, i_vv0, i_vv1, i_vv2, i_vv3, i_vg, i_wct, i_wln, i_sd0, i_sd1, i_sd2, i_sd3, i_rln, i_rtx, i_rpl, i_rtk, i_cnv, i_pts, i_cik, i_und⟩, (kcL_r S), (kcP_r S), (kcU_r S), (kcW_r S)⟩ hP hD d_Stack_pickBelow_21
  · have fc7_1 : 0 ≤ rv1.toInt := Int.not_lt.mp (zt_nlt (show rv1.toInt = _ from rfl) tI_0 c7_1)
    refine lv_iload_n hx hb d_Stack_pickBelow_10 rfl (lv_at hl 0 rfl) ?_
    refine lv_aload_n hx hb d_Stack_pickBelow_11 rfl (lv_at hl 1 rfl) ?_
    refine va_get (D := D) (ci := 0) (v := .int (f_xst_z S)) (C := "PageScribe$Stack") (T := F_Stack) (N := 4) hx hb hts i_Stack hown hK hP 1 (ce_1 _ _ _) cl_0 3 (by decide) (hts _ k_1_50) (fun x9 h9 => u_same (hts _ k_1_51) x9 h9) rfl d_Stack_pickBelow_12 ?_
    refine lv_iconst (v := 1) hx hb d_Stack_pickBelow_15 (by decide) ?_
    refine lv_isub hx hb d_Stack_pickBelow_16 ?_
    refine lv_topi (fun x1 ex1 => ?_)
    have rx1 := zt_rng x1
    refine lv_icmp_lt (tgt := 22) hx hb d_Stack_pickBelow_17 (by decide) (fun c17_1 => ?_) (fun c17_1 => ?_)
    · have fc17_1 : rv1.toInt < x1.toInt := zt_lt (show rv1.toInt = _ from rfl) (show x1.toInt = _ from rfl) c17_1
      refine lv_aload_n hx hb d_Stack_pickBelow_22 rfl (lv_at hl 1 rfl) ?_
      refine lv_iconst (v := 1) hx hb d_Stack_pickBelow_23 (by decide) ?_
      refine jc_cv (w := (fun u => u)) hK hP hD hS hA (va_runU (As := [.int 1]) (rest := []) F (c_Row_drop l D T ad S (1 : Int32)  H.size ⟨i_vst, i_vc0, i_vc1, i_vc2, i_vc3, i_vv0, i_vv1, i_vv2, i_vv3, i_vg, i_wct, i_wln, i_sd0, i_sd1, i_sd2, i_sd3, i_rln, i_rtx, i_rpl, i_rtk, i_cnv, i_pts, i_cik, i_und⟩) (j_cU (k := 1) (C := "PageScribe$Stack") (owner := "PageScribe$Row") (x := ⟨"PageScribe$Stack", "drop", "(I)V"⟩) hts k_4_47 k_4_42 k_4_43 k_4_45 k_4_46 k_1_2 rfl (by decide +kernel) ⟨Nat.le_of_ble_eq_true rfl, Nat.le_of_ble_eq_true rfl⟩) (j_preV (q0 := 1) (ci := 0) hK hP hD csc csc_all csc_nd cl_0 (ce_1 _ _ _) (fun _ _ _ _ h => h) (fun _ _ _ => trivial)) rfl rfl hl.1 rfl (lv_room (Nat.le_of_ble_eq_true rfl)) d_Stack_pickBelow_24 ⟨Nat.le_of_ble_eq_true rfl, Nat.le_of_ble_eq_true rfl⟩) (fun S1 H locs hw2 hP hD hS => ?_)
      have hP : va_P D classes (cW T ad S1) H := hP
      have hD : va_D A (cW T ad S1) := hD
      obtain ⟨⟨i_vst, i_vc0, i_vc1, i_vc2, i_vc3, i_vv0, i_vv1, i_vv2, i_vv3, i_vg, i_wct, i_wln, i_sd0, i_sd1, i_sd2, i_sd3, i_rln, i_rtx, i_rpl, i_rtk, i_cnv, i_pts, i_cik, i_und⟩, kpcL_S1, kpcP_S1, kpcU_S1, kpcW_S1⟩ := hw2
      have kScL_S1 : kcL S S1 := kcL_t (show kcL S S from (kcL_r S)) kpcL_S1
      have kScP_S1 : kcP S S1 := kcP_t (show kcP S S from (kcP_r S)) kpcP_S1
      have kScU_S1 : kcU S S1 := kcU_t (show kcU S S from (kcU_r S)) kpcU_S1
      have kScW_S1 : kcW S S1 := kcW_t (show kcW S S from (kcW_r S)) kpcW_S1
      have nxr_length_S1 : (f_xr_length S1).toInt = (f_xr_length S).toInt := congrArg Int32.toInt kpcL_S1
      have nxr_length_S1 : (f_xr_length S1).toInt = (f_xr_length S).toInt := congrArg Int32.toInt kpcP_S1.1
      have nxr_place_S1 : (f_xr_place S1).toInt = (f_xr_place S).toInt := congrArg Int32.toInt kpcP_S1.2.1
      have nxe_underWay_S1 : (f_xe_underWay S1).toInt = (f_xe_underWay S).toInt := congrArg Int32.toInt kpcU_S1
      have nxp_columns_S1 : (f_xp_columns S1).toInt = (f_xp_columns S).toInt := congrArg Int32.toInt kpcW_S1.1
      have nxp_rows_S1 : (f_xp_rows S1).toInt = (f_xp_rows S).toInt := congrArg Int32.toInt kpcW_S1.2
      refine lv_aload_n hx hb d_Stack_pickBelow_27 rfl (lv_at hl 1 rfl) ?_
      refine lv_aload_n hx hb d_Stack_pickBelow_28 rfl (lv_at hl 1 rfl) ?_
      refine lv_aload_n hx hb d_Stack_pickBelow_29 rfl (lv_at hl 1 rfl) ?_
      refine va_get (D := D) (ci := 0) (v := .int (f_xst_z S1)) (C := "PageScribe$Stack") (T := F_Stack) (N := 4) hx hb hts i_Stack hown hK hP 1 (ce_1 _ _ _) cl_0 3 (by decide) (hts _ k_1_50) (fun x9 h9 => u_same (hts _ k_1_51) x9 h9) rfl d_Stack_pickBelow_30 ?_
      refine lv_iconst (v := 1) hx hb d_Stack_pickBelow_33 (by decide) ?_
      refine lv_isub hx hb d_Stack_pickBelow_34 ?_
      refine lv_topi (fun x2 ex2 => ?_)
      have rx2 := zt_rng x2
      refine lv_iload_n hx hb d_Stack_pickBelow_35 rfl (lv_at hl 0 rfl) ?_
      refine lv_isub hx hb d_Stack_pickBelow_36 ?_
      refine lv_topi (fun x3 ex3 => ?_)
      have rx3 := zt_rng x3
      refine jc_ci (w := (fun u => u)) hK hP hD hS hA (va_runU (As := [.ref (ad 1), .int x3]) (rest := []) F (c_Row_pushFrom_1_1 l D T ad S1 x3  H.size ⟨i_vst, i_vc0, i_vc1, i_vc2, i_vc3, i_vv0, i_vv1, i_vv2, i_vv3, i_vg, i_wct, i_wln, i_sd0, i_sd1, i_sd2, i_sd3, i_rln, i_rtx, i_rpl, i_rtk, i_cnv, i_pts, i_cik, i_und⟩) (j_cU (k := 2) (C := "PageScribe$Stack") (owner := "PageScribe$Row") (x := ⟨"PageScribe$Stack", "pushFrom", "(LPageScribe$Row;I)I"⟩) hts k_3_96 k_4_63 k_4_64 k_4_66 k_3_92 k_1_2 rfl (by decide +kernel) ⟨Nat.le_of_ble_eq_true rfl, Nat.le_of_ble_eq_true rfl⟩) (j_preV (q0 := 1) (ci := 0) hK hP hD csc csc_all csc_nd cl_0 (ce_1 _ _ _) (fun _ _ _ _ h => h) (fun _ _ _ => trivial)) rfl rfl hl.1 rfl (lv_room (Nat.le_of_ble_eq_true rfl)) d_Stack_pickBelow_37 ⟨Nat.le_of_ble_eq_true rfl, Nat.le_of_ble_eq_true rfl⟩) (fun rv3 S2 H locs hw3 hP hD hS => ?_)
      have hP : va_P D classes (cW T ad S2) H := hP
      have hD : va_D A (cW T ad S2) := hD
      obtain ⟨⟨i_vst, i_vc0, i_vc1, i_vc2, i_vc3, i_vv0, i_vv1, i_vv2, i_vv3, i_vg, i_wct, i_wln, i_sd0, i_sd1, i_sd2, i_sd3, i_rln, i_rtx, i_rpl, i_rtk, i_cnv, i_pts, i_cik, i_und⟩, kpcL_S2, kpcP_S2, kpcU_S2, kpcW_S2⟩ := hw3
      have kScL_S2 : kcL S S2 := kcL_t (show kcL S S1 from kScL_S1) kpcL_S2
      have kScP_S2 : kcP S S2 := kcP_t (show kcP S S1 from kScP_S1) kpcP_S2
      have kScU_S2 : kcU S S2 := kcU_t (show kcU S S1 from kScU_S1) kpcU_S2
      have kScW_S2 : kcW S S2 := kcW_t (show kcW S S1 from kScW_S1) kpcW_S2
      have nxr_length_S2 : (f_xr_length S2).toInt = (f_xr_length S1).toInt := congrArg Int32.toInt kpcL_S2
      have nxr_length_S2 : (f_xr_length S2).toInt = (f_xr_length S1).toInt := congrArg Int32.toInt kpcP_S2.1
      have nxr_place_S2 : (f_xr_place S2).toInt = (f_xr_place S1).toInt := congrArg Int32.toInt kpcP_S2.2.1
      have nxe_underWay_S2 : (f_xe_underWay S2).toInt = (f_xe_underWay S1).toInt := congrArg Int32.toInt kpcU_S2
      have nxp_columns_S2 : (f_xp_columns S2).toInt = (f_xp_columns S1).toInt := congrArg Int32.toInt kpcW_S2.1
      have nxp_rows_S2 : (f_xp_rows S2).toInt = (f_xp_rows S1).toInt := congrArg Int32.toInt kpcW_S2.2
      have rrv3 := zt_rng rv3
      exact j_iret F hr hlocks hK hS S2 ⟨⟨i_vst, i_vc0, i_vc1, i_vc2, i_vc3, i_vv0, i_vv1, i_vv2, i_vv3, i_vg, i_wct, i_wln, i_sd0, i_sd1, i_sd2, i_sd3, i_rln, i_rtx, i_rpl, i_rtk, i_cnv, i_pts, i_cik, i_und⟩, kScL_S2, kScP_S2, kScU_S2, kScW_S2⟩ hP hD d_Stack_pickBelow_40
    · have fc17_1 : x1.toInt ≤ rv1.toInt := Int.not_lt.mp (zt_nlt (show rv1.toInt = _ from rfl) (show x1.toInt = _ from rfl) c17_1)
      refine lv_iconst (v := 4) hx hb d_Stack_pickBelow_20 (by decide) ?_
      exact j_iret F hr hlocks hK hS S ⟨⟨i_vst, i_vc0, i_vc1, i_vc2, i_vc3, i_vv0, i_vv1, i_vv2, i_vv3, i_vg, i_wct, i_wln, i_sd0, i_sd1, i_sd2, i_sd3, i_rln, i_rtx, i_rpl, i_rtk, i_cnv, i_pts, i_cik, i_und⟩, (kcL_r S), (kcP_r S), (kcU_r S), (kcW_r S)⟩ hP hD d_Stack_pickBelow_21
theorem d_Stack_swap_0 : decode prog_9_method_19_code 0 = .ok (.aload_n 0, 1) := by decide +kernel
theorem d_Stack_swap_1 : decode prog_9_method_19_code 1 = .ok (.iload_n 1, 1) := by decide +kernel
theorem d_Stack_swap_2 : decode prog_9_method_19_code 2 = .ok (.invokevirtual 15, 3) := by decide +kernel
theorem d_Stack_swap_5 : decode prog_9_method_19_code 5 = .ok (.istore_n 3, 1) := by decide +kernel
theorem d_Stack_swap_6 : decode prog_9_method_19_code 6 = .ok (.aload_n 0, 1) := by decide +kernel
theorem d_Stack_swap_7 : decode prog_9_method_19_code 7 = .ok (.iload_n 1, 1) := by decide +kernel
theorem d_Stack_swap_8 : decode prog_9_method_19_code 8 = .ok (.invokevirtual 19, 3) := by decide +kernel
theorem d_Stack_swap_11 : decode prog_9_method_19_code 11 = .ok (.istore 4, 2) := by decide +kernel
theorem d_Stack_swap_13 : decode prog_9_method_19_code 13 = .ok (.aload_n 0, 1) := by decide +kernel
theorem d_Stack_swap_14 : decode prog_9_method_19_code 14 = .ok (.iload_n 1, 1) := by decide +kernel
theorem d_Stack_swap_15 : decode prog_9_method_19_code 15 = .ok (.invokevirtual 22, 3) := by decide +kernel
theorem d_Stack_swap_18 : decode prog_9_method_19_code 18 = .ok (.dstore 5, 2) := by decide +kernel
theorem d_Stack_swap_20 : decode prog_9_method_19_code 20 = .ok (.aload_n 0, 1) := by decide +kernel
theorem d_Stack_swap_21 : decode prog_9_method_19_code 21 = .ok (.iload_n 1, 1) := by decide +kernel
theorem d_Stack_swap_22 : decode prog_9_method_19_code 22 = .ok (.aload_n 0, 1) := by decide +kernel
theorem d_Stack_swap_23 : decode prog_9_method_19_code 23 = .ok (.iload_n 2, 1) := by decide +kernel
theorem d_Stack_swap_24 : decode prog_9_method_19_code 24 = .ok (.invokevirtual 15, 3) := by decide +kernel
theorem d_Stack_swap_27 : decode prog_9_method_19_code 27 = .ok (.aload_n 0, 1) := by decide +kernel
theorem d_Stack_swap_28 : decode prog_9_method_19_code 28 = .ok (.iload_n 2, 1) := by decide +kernel
theorem d_Stack_swap_29 : decode prog_9_method_19_code 29 = .ok (.invokevirtual 19, 3) := by decide +kernel
theorem d_Stack_swap_32 : decode prog_9_method_19_code 32 = .ok (.aload_n 0, 1) := by decide +kernel
theorem d_Stack_swap_33 : decode prog_9_method_19_code 33 = .ok (.iload_n 2, 1) := by decide +kernel
theorem d_Stack_swap_34 : decode prog_9_method_19_code 34 = .ok (.invokevirtual 22, 3) := by decide +kernel
theorem d_Stack_swap_37 : decode prog_9_method_19_code 37 = .ok (.invokevirtual 106, 3) := by decide +kernel
theorem k_4_62 : Cond.code ⟨"PageScribe$Row", "put", "(IIID)V"⟩ prog_8_method_5_code 6 none ∈ gw := gw_of (tb_4 (List.mem_of_getElem? (i := 62) (by decide +kernel))) (by decide +kernel)
theorem k_4_57 : Cond.methodLink "PageScribe$Stack" 106 ⟨"PageScribe$Stack", "put", "(IIID)V"⟩ ∈ gw := gw_of (tb_4 (List.mem_of_getElem? (i := 57) (by decide +kernel))) (by decide +kernel)
theorem k_4_58 : Cond.sameMethod "PageScribe$Stack" "PageScribe$Row" "put" "(IIID)V" ∈ gw := gw_of (tb_4 (List.mem_of_getElem? (i := 58) (by decide +kernel))) (by decide +kernel)
theorem k_4_60 : Cond.selects "PageScribe$Stack" ⟨"PageScribe$Stack", "put", "(IIID)V"⟩ ⟨"PageScribe$Row", "put", "(IIID)V"⟩ ∈ gw := gw_of (tb_4 (List.mem_of_getElem? (i := 60) (by decide +kernel))) (by decide +kernel)
theorem k_4_61 : Cond.instanceMethod ⟨"PageScribe$Row", "put", "(IIID)V"⟩ ∈ gw := gw_of (tb_4 (List.mem_of_getElem? (i := 61) (by decide +kernel))) (by decide +kernel)
theorem d_Stack_swap_40 : decode prog_9_method_19_code 40 = .ok (.aload_n 0, 1) := by decide +kernel
theorem d_Stack_swap_41 : decode prog_9_method_19_code 41 = .ok (.iload_n 2, 1) := by decide +kernel
theorem d_Stack_swap_42 : decode prog_9_method_19_code 42 = .ok (.iload_n 3, 1) := by decide +kernel
theorem d_Stack_swap_43 : decode prog_9_method_19_code 43 = .ok (.iload 4, 2) := by decide +kernel
theorem d_Stack_swap_45 : decode prog_9_method_19_code 45 = .ok (.dload 5, 2) := by decide +kernel
theorem d_Stack_swap_47 : decode prog_9_method_19_code 47 = .ok (.invokevirtual 106, 3) := by decide +kernel
theorem d_Stack_swap_50 : decode prog_9_method_19_code 50 = .ok (.return_, 1) := by decide +kernel
set_option maxHeartbeats 4000000 in
set_option maxRecDepth 100000 in
theorem c_Stack_swap (l : Launch) (D : va_G) (T : Nat → ClassId) (ad : Nat → Nat) (S : CS) (p0 : Int32) (p1 : Int32) (sz : Nat)  (hI : CIv S) : Met l ⟨"PageScribe$Stack", "swap", "(II)V"⟩ (wy ⟨"PageScribe$Stack", "swap", "(II)V"⟩ prog_9_method_19_code 7 none) ({ frames := 1, cells := 0, slots := 0, locals := 70 }) (va_Pc [.ref (ad 1), .int p0, .int p1] (Pw D T (cW T ad S) sz E0)) (va_Qv (fun (u : CS) => CIv u ∧ kcL S u ∧ kcP S u ∧ kcU S u ∧ kcW S u) (fun u t => Bw D T (va_A (cW T ad S) sz) (cW T ad u) t) (va_A (cW T ad S) sz)) 0 0 (va_A (cW T ad S) sz) := by
  refine j_met (y := ⟨"PageScribe$Stack", "swap", "(II)V"⟩) (b := prog_9_method_19_code) (n := 7) (ret := none) (av := [.ref (ad 1), .int p0, .int p1]) (Qc := fun A => va_Qv (fun (u : CS) => CIv u ∧ kcL S u ∧ kcP S u ∧ kcU S u ∧ kcW S u) (fun u t => Bw D T A (cW T ad u) t) A) (by decide +kernel) (Nat.le_of_ble_eq_true rfl) (fun p e s m args below meth c A ls F hr hlocks hnm hK hP hD hS hA hN hE hl => ?_)
  obtain ⟨hx, hb, hml, hown, hts⟩ := id F
  have hl : lv_has ls 7 [(0, .ref (ad 1)), (1, .int p0), (2, .int p1)] := hl
  obtain ⟨i_vst, i_vc0, i_vc1, i_vc2, i_vc3, i_vv0, i_vv1, i_vv2, i_vv3, i_vg, i_wct, i_wln, i_sd0, i_sd1, i_sd2, i_sd3, i_rln, i_rtx, i_rpl, i_rtk, i_cnv, i_pts, i_cik, i_und⟩ := id hI
  have rp0 := zt_rng p0
  have rp1 := zt_rng p1
  refine lv_aload_n hx hb d_Stack_swap_0 rfl (lv_at hl 0 rfl) ?_
  refine lv_iload_n hx hb d_Stack_swap_1 rfl (lv_at hl 1 rfl) ?_
  refine jc_ci (w := (fun _ => S)) hK hP hD hS hA (va_runU (As := [.int p0]) (rest := []) F (c_Row_kindAt l D T ad S p0  s.heap.size) (j_cU (k := 1) (C := "PageScribe$Stack") (owner := "PageScribe$Row") (x := ⟨"PageScribe$Stack", "kindAt", "(I)I"⟩) hts k_2_126 k_2_121 k_2_122 k_2_124 k_2_125 k_1_2 rfl (by decide +kernel) ⟨Nat.le_of_ble_eq_true rfl, Nat.le_of_ble_eq_true rfl⟩) (j_preV (q0 := 1) (ci := 0) hK hP hD csc csc_all csc_nd cl_0 (ce_1 _ _ _) (fun _ _ _ _ h => h) (fun _ _ _ => trivial)) rfl rfl hl.1 rfl (lv_room (Nat.le_of_ble_eq_true rfl)) d_Stack_swap_2 ⟨Nat.le_of_ble_eq_true rfl, Nat.le_of_ble_eq_true rfl⟩) (fun rv1 u1 H locs hw1 hP hD hS => ?_)
  have hP : va_P D classes (cW T ad S) H := hP
  have hD : va_D A (cW T ad S) := hD
  have rrv1 := zt_rng rv1
  refine lv_istore_n (lv' := [(3, .int rv1), (0, .ref (ad 1)), (1, .int p0), (2, .int p1)]) hx hb d_Stack_swap_5 rfl hl (by decide) rfl (fun ls hl => ?_)
  refine lv_aload_n hx hb d_Stack_swap_6 rfl (lv_at hl 1 rfl) ?_
  refine lv_iload_n hx hb d_Stack_swap_7 rfl (lv_at hl 2 rfl) ?_
  refine jc_ci (w := (fun _ => S)) hK hP hD hS hA (va_runU (As := [.int p0]) (rest := []) F (c_Row_numberAt l D T ad S p0  H.size) (j_cU (k := 1) (C := "PageScribe$Stack") (owner := "PageScribe$Row") (x := ⟨"PageScribe$Stack", "numberAt", "(I)I"⟩) hts k_2_136 k_2_131 k_2_132 k_2_134 k_2_135 k_1_2 rfl (by decide +kernel) ⟨Nat.le_of_ble_eq_true rfl, Nat.le_of_ble_eq_true rfl⟩) (j_preV (q0 := 1) (ci := 0) hK hP hD csc csc_all csc_nd cl_0 (ce_1 _ _ _) (fun _ _ _ _ h => h) (fun _ _ _ => trivial)) rfl rfl hl.1 rfl (lv_room (Nat.le_of_ble_eq_true rfl)) d_Stack_swap_8 ⟨Nat.le_of_ble_eq_true rfl, Nat.le_of_ble_eq_true rfl⟩) (fun rv2 u2 H locs hw2 hP hD hS => ?_)
  have hP : va_P D classes (cW T ad S) H := hP
  have hD : va_D A (cW T ad S) := hD
  have rrv2 := zt_rng rv2
  refine lv_istore (lv' := [(4, .int rv2), (3, .int rv1), (0, .ref (ad 1)), (1, .int p0), (2, .int p1)]) hx hb d_Stack_swap_11 hl (by decide) rfl (fun ls hl => ?_)
  refine lv_aload_n hx hb d_Stack_swap_13 rfl (lv_at hl 2 rfl) ?_
  refine lv_iload_n hx hb d_Stack_swap_14 rfl (lv_at hl 3 rfl) ?_
  refine jc_cd (w := (fun _ => S)) hK hP hD hS hA (va_runU (As := [.int p0]) (rest := []) F (c_Row_realAt l D T ad S p0  H.size ⟨i_vst, i_vc0, i_vc1, i_vc2, i_vc3, i_vv0, i_vv1, i_vv2, i_vv3, i_vg, i_wct, i_wln, i_sd0, i_sd1, i_sd2, i_sd3, i_rln, i_rtx, i_rpl, i_rtk, i_cnv, i_pts, i_cik, i_und⟩) (j_cU (k := 1) (C := "PageScribe$Stack") (owner := "PageScribe$Row") (x := ⟨"PageScribe$Stack", "realAt", "(I)D"⟩) hts k_3_104 k_4_53 k_4_54 k_4_56 k_3_100 k_1_2 rfl (by decide +kernel) ⟨Nat.le_of_ble_eq_true rfl, Nat.le_of_ble_eq_true rfl⟩) (j_preV (q0 := 1) (ci := 0) hK hP hD csc csc_all csc_nd cl_0 (ce_1 _ _ _) (fun _ _ _ _ h => h) (fun _ _ _ => trivial)) rfl rfl hl.1 rfl (lv_room (Nat.le_of_ble_eq_true rfl)) d_Stack_swap_15 ⟨Nat.le_of_ble_eq_true rfl, Nat.le_of_ble_eq_true rfl⟩) (fun rv3 u3 H locs hw3 hP hD hS => ?_)
  have hP : va_P D classes (cW T ad S) H := hP
  have hD : va_D A (cW T ad S) := hD
  have qhw3 : dB rv3 := hw3
  refine lv_dstore (lv' := [(5, .double rv3), (4, .int rv2), (3, .int rv1), (0, .ref (ad 1)), (1, .int p0), (2, .int p1)]) hx hb d_Stack_swap_18 hl (by decide) rfl (fun ls hl => ?_)
  refine lv_aload_n hx hb d_Stack_swap_20 rfl (lv_at hl 3 rfl) ?_
  refine lv_iload_n hx hb d_Stack_swap_21 rfl (lv_at hl 4 rfl) ?_
  refine lv_aload_n hx hb d_Stack_swap_22 rfl (lv_at hl 3 rfl) ?_
  refine lv_iload_n hx hb d_Stack_swap_23 rfl (lv_at hl 5 rfl) ?_
  refine jc_ci (w := (fun _ => S)) hK hP hD hS hA (va_runU (As := [.int p1]) (rest := [.int p0, .ref (ad 1)]) F (c_Row_kindAt l D T ad S p1  H.size) (j_cU (k := 1) (C := "PageScribe$Stack") (owner := "PageScribe$Row") (x := ⟨"PageScribe$Stack", "kindAt", "(I)I"⟩) hts k_2_126 k_2_121 k_2_122 k_2_124 k_2_125 k_1_2 rfl (by decide +kernel) ⟨Nat.le_of_ble_eq_true rfl, Nat.le_of_ble_eq_true rfl⟩) (j_preV (q0 := 1) (ci := 0) hK hP hD csc csc_all csc_nd cl_0 (ce_1 _ _ _) (fun _ _ _ _ h => h) (fun _ _ _ => trivial)) rfl rfl hl.1 rfl (lv_room (Nat.le_of_ble_eq_true rfl)) d_Stack_swap_24 ⟨Nat.le_of_ble_eq_true rfl, Nat.le_of_ble_eq_true rfl⟩) (fun rv4 u4 H locs hw4 hP hD hS => ?_)
  have hP : va_P D classes (cW T ad S) H := hP
  have hD : va_D A (cW T ad S) := hD
  have rrv4 := zt_rng rv4
  refine lv_aload_n hx hb d_Stack_swap_27 rfl (lv_at hl 3 rfl) ?_
  refine lv_iload_n hx hb d_Stack_swap_28 rfl (lv_at hl 5 rfl) ?_
  refine jc_ci (w := (fun _ => S)) hK hP hD hS hA (va_runU (As := [.int p1]) (rest := [.int rv4, .int p0, .ref (ad 1)]) F (c_Row_numberAt l D T ad S p1  H.size) (j_cU (k := 1) (C := "PageScribe$Stack") (owner := "PageScribe$Row") (x := ⟨"PageScribe$Stack", "numberAt", "(I)I"⟩) hts k_2_136 k_2_131 k_2_132 k_2_134 k_2_135 k_1_2 rfl (by decide +kernel) ⟨Nat.le_of_ble_eq_true rfl, Nat.le_of_ble_eq_true rfl⟩) (j_preV (q0 := 1) (ci := 0) hK hP hD csc csc_all csc_nd cl_0 (ce_1 _ _ _) (fun _ _ _ _ h => h) (fun _ _ _ => trivial)) rfl rfl hl.1 rfl (lv_room (Nat.le_of_ble_eq_true rfl)) d_Stack_swap_29 ⟨Nat.le_of_ble_eq_true rfl, Nat.le_of_ble_eq_true rfl⟩) (fun rv5 u5 H locs hw5 hP hD hS => ?_)
  have hP : va_P D classes (cW T ad S) H := hP
  have hD : va_D A (cW T ad S) := hD
  have rrv5 := zt_rng rv5
  refine lv_aload_n hx hb d_Stack_swap_32 rfl (lv_at hl 3 rfl) ?_
  refine lv_iload_n hx hb d_Stack_swap_33 rfl (lv_at hl 5 rfl) ?_
  refine jc_cd (w := (fun _ => S)) hK hP hD hS hA (va_runU (As := [.int p1]) (rest := [.int rv5, .int rv4, .int p0, .ref (ad 1)]) F (c_Row_realAt l D T ad S p1  H.size ⟨i_vst, i_vc0, i_vc1, i_vc2, i_vc3, i_vv0, i_vv1, i_vv2, i_vv3, i_vg, i_wct, i_wln, i_sd0, i_sd1, i_sd2, i_sd3, i_rln, i_rtx, i_rpl, i_rtk, i_cnv, i_pts, i_cik, i_und⟩) (j_cU (k := 1) (C := "PageScribe$Stack") (owner := "PageScribe$Row") (x := ⟨"PageScribe$Stack", "realAt", "(I)D"⟩) hts k_3_104 k_4_53 k_4_54 k_4_56 k_3_100 k_1_2 rfl (by decide +kernel) ⟨Nat.le_of_ble_eq_true rfl, Nat.le_of_ble_eq_true rfl⟩) (j_preV (q0 := 1) (ci := 0) hK hP hD csc csc_all csc_nd cl_0 (ce_1 _ _ _) (fun _ _ _ _ h => h) (fun _ _ _ => trivial)) rfl rfl hl.1 rfl (lv_room (Nat.le_of_ble_eq_true rfl)) d_Stack_swap_34 ⟨Nat.le_of_ble_eq_true rfl, Nat.le_of_ble_eq_true rfl⟩) (fun rv6 u6 H locs hw6 hP hD hS => ?_)
  have hP : va_P D classes (cW T ad S) H := hP
  have hD : va_D A (cW T ad S) := hD
  have qhw6 : dB rv6 := hw6
  refine jc_cv (w := (fun u => u)) hK hP hD hS hA (va_runU (As := [.int p0, .int rv4, .int rv5, .double rv6]) (rest := []) F (c_Row_put l D T ad S p0 rv4 rv5 rv6  H.size ⟨i_vst, i_vc0, i_vc1, i_vc2, i_vc3, i_vv0, i_vv1, i_vv2, i_vv3, i_vg, i_wct, i_wln, i_sd0, i_sd1, i_sd2, i_sd3, i_rln, i_rtx, i_rpl, i_rtk, i_cnv, i_pts, i_cik, i_und⟩ (show dB rv6 by omega)) (j_cU (k := 4) (C := "PageScribe$Stack") (owner := "PageScribe$Row") (x := ⟨"PageScribe$Stack", "put", "(IIID)V"⟩) hts k_4_62 k_4_57 k_4_58 k_4_60 k_4_61 k_1_2 rfl (by decide +kernel) ⟨Nat.le_of_ble_eq_true rfl, Nat.le_of_ble_eq_true rfl⟩) (j_preV (q0 := 1) (ci := 0) hK hP hD csc csc_all csc_nd cl_0 (ce_1 _ _ _) (fun _ _ _ _ h => h) (fun _ _ _ => trivial)) rfl rfl hl.1 rfl (lv_room (Nat.le_of_ble_eq_true rfl)) d_Stack_swap_37 ⟨Nat.le_of_ble_eq_true rfl, Nat.le_of_ble_eq_true rfl⟩) (fun S1 H locs hw7 hP hD hS => ?_)
  have hP : va_P D classes (cW T ad S1) H := hP
  have hD : va_D A (cW T ad S1) := hD
  obtain ⟨⟨i_vst, i_vc0, i_vc1, i_vc2, i_vc3, i_vv0, i_vv1, i_vv2, i_vv3, i_vg, i_wct, i_wln, i_sd0, i_sd1, i_sd2, i_sd3, i_rln, i_rtx, i_rpl, i_rtk, i_cnv, i_pts, i_cik, i_und⟩, kpcL_S1, kpcP_S1, kpcU_S1, kpcW_S1⟩ := hw7
  have kScL_S1 : kcL S S1 := kcL_t (show kcL S S from (kcL_r S)) kpcL_S1
  have kScP_S1 : kcP S S1 := kcP_t (show kcP S S from (kcP_r S)) kpcP_S1
  have kScU_S1 : kcU S S1 := kcU_t (show kcU S S from (kcU_r S)) kpcU_S1
  have kScW_S1 : kcW S S1 := kcW_t (show kcW S S from (kcW_r S)) kpcW_S1
  have nxr_length_S1 : (f_xr_length S1).toInt = (f_xr_length S).toInt := congrArg Int32.toInt kpcL_S1
  have nxr_length_S1 : (f_xr_length S1).toInt = (f_xr_length S).toInt := congrArg Int32.toInt kpcP_S1.1
  have nxr_place_S1 : (f_xr_place S1).toInt = (f_xr_place S).toInt := congrArg Int32.toInt kpcP_S1.2.1
  have nxe_underWay_S1 : (f_xe_underWay S1).toInt = (f_xe_underWay S).toInt := congrArg Int32.toInt kpcU_S1
  have nxp_columns_S1 : (f_xp_columns S1).toInt = (f_xp_columns S).toInt := congrArg Int32.toInt kpcW_S1.1
  have nxp_rows_S1 : (f_xp_rows S1).toInt = (f_xp_rows S).toInt := congrArg Int32.toInt kpcW_S1.2
  refine lv_aload_n hx hb d_Stack_swap_40 rfl (lv_at hl 3 rfl) ?_
  refine lv_iload_n hx hb d_Stack_swap_41 rfl (lv_at hl 5 rfl) ?_
  refine lv_iload_n hx hb d_Stack_swap_42 rfl (lv_at hl 2 rfl) ?_
  refine lv_iload hx hb d_Stack_swap_43 (lv_at hl 1 rfl) ?_
  refine lv_dload hx hb d_Stack_swap_45 (lv_at hl 0 rfl) ?_
  refine jc_cv (w := (fun u => u)) hK hP hD hS hA (va_runU (As := [.int p1, .int rv1, .int rv2, .double rv3]) (rest := []) F (c_Row_put l D T ad S1 p1 rv1 rv2 rv3  H.size ⟨i_vst, i_vc0, i_vc1, i_vc2, i_vc3, i_vv0, i_vv1, i_vv2, i_vv3, i_vg, i_wct, i_wln, i_sd0, i_sd1, i_sd2, i_sd3, i_rln, i_rtx, i_rpl, i_rtk, i_cnv, i_pts, i_cik, i_und⟩ (show dB rv3 by omega)) (j_cU (k := 4) (C := "PageScribe$Stack") (owner := "PageScribe$Row") (x := ⟨"PageScribe$Stack", "put", "(IIID)V"⟩) hts k_4_62 k_4_57 k_4_58 k_4_60 k_4_61 k_1_2 rfl (by decide +kernel) ⟨Nat.le_of_ble_eq_true rfl, Nat.le_of_ble_eq_true rfl⟩) (j_preV (q0 := 1) (ci := 0) hK hP hD csc csc_all csc_nd cl_0 (ce_1 _ _ _) (fun _ _ _ _ h => h) (fun _ _ _ => trivial)) rfl rfl hl.1 rfl (lv_room (Nat.le_of_ble_eq_true rfl)) d_Stack_swap_47 ⟨Nat.le_of_ble_eq_true rfl, Nat.le_of_ble_eq_true rfl⟩) (fun S2 H locs hw8 hP hD hS => ?_)
  have hP : va_P D classes (cW T ad S2) H := hP
  have hD : va_D A (cW T ad S2) := hD
  obtain ⟨⟨i_vst, i_vc0, i_vc1, i_vc2, i_vc3, i_vv0, i_vv1, i_vv2, i_vv3, i_vg, i_wct, i_wln, i_sd0, i_sd1, i_sd2, i_sd3, i_rln, i_rtx, i_rpl, i_rtk, i_cnv, i_pts, i_cik, i_und⟩, kpcL_S2, kpcP_S2, kpcU_S2, kpcW_S2⟩ := hw8
  have kScL_S2 : kcL S S2 := kcL_t (show kcL S S1 from kScL_S1) kpcL_S2
  have kScP_S2 : kcP S S2 := kcP_t (show kcP S S1 from kScP_S1) kpcP_S2
  have kScU_S2 : kcU S S2 := kcU_t (show kcU S S1 from kScU_S1) kpcU_S2
  have kScW_S2 : kcW S S2 := kcW_t (show kcW S S1 from kScW_S1) kpcW_S2
  have nxr_length_S2 : (f_xr_length S2).toInt = (f_xr_length S1).toInt := congrArg Int32.toInt kpcL_S2
  have nxr_length_S2 : (f_xr_length S2).toInt = (f_xr_length S1).toInt := congrArg Int32.toInt kpcP_S2.1
  have nxr_place_S2 : (f_xr_place S2).toInt = (f_xr_place S1).toInt := congrArg Int32.toInt kpcP_S2.2.1
  have nxe_underWay_S2 : (f_xe_underWay S2).toInt = (f_xe_underWay S1).toInt := congrArg Int32.toInt kpcU_S2
  have nxp_columns_S2 : (f_xp_columns S2).toInt = (f_xp_columns S1).toInt := congrArg Int32.toInt kpcW_S2.1
  have nxp_rows_S2 : (f_xp_rows S2).toInt = (f_xp_rows S1).toInt := congrArg Int32.toInt kpcW_S2.2
  exact j_vret F hr hlocks hK hS S2 ⟨⟨i_vst, i_vc0, i_vc1, i_vc2, i_vc3, i_vv0, i_vv1, i_vv2, i_vv3, i_vg, i_wct, i_wln, i_sd0, i_sd1, i_sd2, i_sd3, i_rln, i_rtx, i_rpl, i_rtk, i_cnv, i_pts, i_cik, i_und⟩, kScL_S2, kScP_S2, kScU_S2, kScW_S2⟩ hP hD d_Stack_swap_50
theorem d_Stack_reverse_0 : decode prog_9_method_18_code 0 = .ok (.iload_n 1, 1) := by decide +kernel
theorem d_Stack_reverse_1 : decode prog_9_method_18_code 1 = .ok (.istore_n 3, 1) := by decide +kernel
theorem d_Stack_reverse_2 : decode prog_9_method_18_code 2 = .ok (.iload_n 2, 1) := by decide +kernel
theorem d_Stack_reverse_3 : decode prog_9_method_18_code 3 = .ok (.istore 4, 2) := by decide +kernel
theorem d_Stack_reverse_5 : decode prog_9_method_18_code 5 = .ok (.iload_n 3, 1) := by decide +kernel
theorem d_Stack_reverse_6 : decode prog_9_method_18_code 6 = .ok (.iload 4, 2) := by decide +kernel
theorem d_Stack_reverse_8 : decode prog_9_method_18_code 8 = .ok (.if_icmp .ge 19, 3) := by decide +kernel
theorem d_Stack_reverse_27 : decode prog_9_method_18_code 27 = .ok (.return_, 1) := by decide +kernel
theorem d_Stack_reverse_11 : decode prog_9_method_18_code 11 = .ok (.aload_n 0, 1) := by decide +kernel
theorem d_Stack_reverse_12 : decode prog_9_method_18_code 12 = .ok (.iload_n 3, 1) := by decide +kernel
theorem d_Stack_reverse_13 : decode prog_9_method_18_code 13 = .ok (.iload 4, 2) := by decide +kernel
theorem d_Stack_reverse_15 : decode prog_9_method_18_code 15 = .ok (.invokevirtual 74, 3) := by decide +kernel
theorem k_4_52 : Cond.code ⟨"PageScribe$Stack", "swap", "(II)V"⟩ prog_9_method_19_code 7 none ∈ gw := gw_of (tb_4 (List.mem_of_getElem? (i := 52) (by decide +kernel))) (by decide +kernel)
theorem k_4_49 : Cond.methodLink "PageScribe$Stack" 74 ⟨"PageScribe$Stack", "swap", "(II)V"⟩ ∈ gw := gw_of (tb_4 (List.mem_of_getElem? (i := 49) (by decide +kernel))) (by decide +kernel)
theorem k_4_51 : Cond.instanceMethod ⟨"PageScribe$Stack", "swap", "(II)V"⟩ ∈ gw := gw_of (tb_4 (List.mem_of_getElem? (i := 51) (by decide +kernel))) (by decide +kernel)
theorem k_0_18 : Cond.selects "PageScribe$Stack" ⟨"PageScribe$Stack", "swap", "(II)V"⟩ ⟨"PageScribe$Stack", "swap", "(II)V"⟩ ∈ gw := gw_of (tb_0 (List.mem_of_getElem? (i := 18) (by decide +kernel))) (by decide +kernel)
theorem d_Stack_reverse_18 : decode prog_9_method_18_code 18 = .ok (.iinc 3 1, 3) := by decide +kernel
theorem d_Stack_reverse_21 : decode prog_9_method_18_code 21 = .ok (.iinc 4 (-1), 3) := by decide +kernel
theorem d_Stack_reverse_24 : decode prog_9_method_18_code 24 = .ok (.goto (-19), 3) := by decide +kernel
set_option maxHeartbeats 4000000 in
set_option maxRecDepth 100000 in
theorem c_Stack_reverse (l : Launch) (D : va_G) (T : Nat → ClassId) (ad : Nat → Nat) (S : CS) (p0 : Int32) (p1 : Int32) (sz : Nat)  (hI : CIv S) : Met l ⟨"PageScribe$Stack", "reverse", "(II)V"⟩ (wy ⟨"PageScribe$Stack", "reverse", "(II)V"⟩ prog_9_method_18_code 5 none) ({ frames := 2, cells := 0, slots := 0, locals := 140 }) (va_Pc [.ref (ad 1), .int p0, .int p1] (Pw D T (cW T ad S) sz E0)) (va_Qv (fun (u : CS) => CIv u ∧ kcL S u ∧ kcP S u ∧ kcU S u ∧ kcW S u) (fun u t => Bw D T (va_A (cW T ad S) sz) (cW T ad u) t) (va_A (cW T ad S) sz)) 0 0 (va_A (cW T ad S) sz) := by
  refine j_met (y := ⟨"PageScribe$Stack", "reverse", "(II)V"⟩) (b := prog_9_method_18_code) (n := 5) (ret := none) (av := [.ref (ad 1), .int p0, .int p1]) (Qc := fun A => va_Qv (fun (u : CS) => CIv u ∧ kcL S u ∧ kcP S u ∧ kcU S u ∧ kcW S u) (fun u t => Bw D T A (cW T ad u) t) A) (by decide +kernel) (Nat.le_of_ble_eq_true rfl) (fun p e s m args below meth c A ls F hr hlocks hnm hK hP hD hS hA hN hE hl => ?_)
  obtain ⟨hx, hb, hml, hown, hts⟩ := id F
  have hl : lv_has ls 5 [(0, .ref (ad 1)), (1, .int p0), (2, .int p1)] := hl
  obtain ⟨i_vst, i_vc0, i_vc1, i_vc2, i_vc3, i_vv0, i_vv1, i_vv2, i_vv3, i_vg, i_wct, i_wln, i_sd0, i_sd1, i_sd2, i_sd3, i_rln, i_rtx, i_rpl, i_rtk, i_cnv, i_pts, i_cik, i_und⟩ := id hI
  have rp0 := zt_rng p0
  have rp1 := zt_rng p1
  refine lv_iload_n hx hb d_Stack_reverse_0 rfl (lv_at hl 1 rfl) ?_
  refine lv_istore_n (lv' := [(3, .int p0), (0, .ref (ad 1)), (1, .int p0), (2, .int p1)]) hx hb d_Stack_reverse_1 rfl hl (by decide) rfl (fun ls hl => ?_)
  refine lv_iload_n hx hb d_Stack_reverse_2 rfl (lv_at hl 3 rfl) ?_
  refine lv_istore (lv' := [(4, .int p1), (3, .int p0), (0, .ref (ad 1)), (1, .int p0), (2, .int p1)]) hx hb d_Stack_reverse_3 hl (by decide) rfl (fun ls hl => ?_)
  refine j_loop (α := CS × Int32 × Int32) (fun k x H locs ls => (x.2.2.toInt ≤ x.2.1.toInt + ((k : Nat) : Int)) ∧ CIv x.1 ∧ kcL S x.1 ∧ kcP S x.1 ∧ kcU S x.1 ∧ kcW S x.1 ∧ va_P D classes (cW T ad x.1) H ∧ va_D A (cW T ad x.1) ∧ va_S A s.heap H locs ∧ lv_has ls 5 [(4, .int x.2.2), (3, .int x.2.1), (0, .ref (ad 1)), (1, .int p0), (2, .int p1)]) (fun _ _ ls => F0 m 5 ls []) (fun k x H locs ls hI9 ih => ?_) (p1.toInt - p0.toInt).toNat (S, p0, p1) _ _ _ ⟨(show p1.toInt ≤ p0.toInt + (((p1.toInt - p0.toInt).toNat : Nat) : Int) by omega), ⟨i_vst, i_vc0, i_vc1, i_vc2, i_vc3, i_vv0, i_vv1, i_vv2, i_vv3, i_vg, i_wct, i_wln, i_sd0, i_sd1, i_sd2, i_sd3, i_rln, i_rtx, i_rpl, i_rtk, i_cnv, i_pts, i_cik, i_und⟩, (show kcL S S from (kcL_r S)), (show kcP S S from (kcP_r S)), (show kcU S S from (kcU_r S)), (show kcW S S from (kcW_r S)), hP, hD, hS, lv_sub hl [0, 1, 2, 3, 4] rfl⟩
  obtain ⟨S1, i, j⟩ := x
  obtain ⟨hf1, hIx, klcL_S1, klcP_S1, klcU_S1, klcW_S1, hP, hD, hS, hl⟩ := hI9
  obtain ⟨i_vst, i_vc0, i_vc1, i_vc2, i_vc3, i_vv0, i_vv1, i_vv2, i_vv3, i_vg, i_wct, i_wln, i_sd0, i_sd1, i_sd2, i_sd3, i_rln, i_rtx, i_rpl, i_rtk, i_cnv, i_pts, i_cik, i_und⟩ := (show CIv S1 from hIx)
  have klcL_S1 : kcL S S1 := klcL_S1
  have klcP_S1 : kcP S S1 := klcP_S1
  have klcU_S1 : kcU S S1 := klcU_S1
  have klcW_S1 : kcW S S1 := klcW_S1
  have hf1 : j.toInt ≤ i.toInt + ((k : Nat) : Int) := hf1
  have hP : va_P D classes (cW T ad S1) H := hP
  have hD : va_D A (cW T ad S1) := hD
  have hl : lv_has ls 5 [(4, .int j), (3, .int i), (0, .ref (ad 1)), (1, .int p0), (2, .int p1)] := hl
  have ri_9 := zt_rng i
  have rj_9 := zt_rng j
  refine lv_iload_n hx hb d_Stack_reverse_5 rfl (lv_at hl 1 rfl) ?_
  refine lv_iload hx hb d_Stack_reverse_6 (lv_at hl 0 rfl) ?_
  refine lv_icmp_ge (tgt := 27) hx hb d_Stack_reverse_8 (by decide) (fun c8_1 => ?_) (fun c8_1 => ?_)
  · have fc8_1 : j.toInt ≤ i.toInt := zt_le (show j.toInt = _ from rfl) (show i.toInt = _ from rfl) c8_1
    exact j_vret F hr hlocks hK hS S1 ⟨⟨i_vst, i_vc0, i_vc1, i_vc2, i_vc3, i_vv0, i_vv1, i_vv2, i_vv3, i_vg, i_wct, i_wln, i_sd0, i_sd1, i_sd2, i_sd3, i_rln, i_rtx, i_rpl, i_rtk, i_cnv, i_pts, i_cik, i_und⟩, klcL_S1, klcP_S1, klcU_S1, klcW_S1⟩ hP hD d_Stack_reverse_27
  · have fc8_1 : i.toInt < j.toInt := Int.not_le.mp (zt_nle (show j.toInt = _ from rfl) (show i.toInt = _ from rfl) c8_1)
    refine lv_aload_n hx hb d_Stack_reverse_11 rfl (lv_at hl 2 rfl) ?_
    refine lv_iload_n hx hb d_Stack_reverse_12 rfl (lv_at hl 1 rfl) ?_
    refine lv_iload hx hb d_Stack_reverse_13 (lv_at hl 0 rfl) ?_
    refine jc_cv (w := (fun u => u)) hK hP hD hS hA (va_runV (As := [.int i, .int j]) (rest := []) F (c_Stack_swap l D T ad S1 i j  H.size ⟨i_vst, i_vc0, i_vc1, i_vc2, i_vc3, i_vv0, i_vv1, i_vv2, i_vv3, i_vg, i_wct, i_wln, i_sd0, i_sd1, i_sd2, i_sd3, i_rln, i_rtx, i_rpl, i_rtk, i_cnv, i_pts, i_cik, i_und⟩) (j_cV (k := 2) (C := "PageScribe$Stack") hts k_4_52 k_1_3 k_4_49 k_4_51 k_0_18 (by decide +kernel) ⟨Nat.le_of_ble_eq_true rfl, Nat.le_of_ble_eq_true rfl⟩) (j_preV (q0 := 1) (ci := 0) hK hP hD csc csc_all csc_nd cl_0 (ce_1 _ _ _) (fun _ _ _ _ h => h) (fun _ _ _ => trivial)) rfl rfl hl.1 rfl (lv_room (Nat.le_of_ble_eq_true rfl)) d_Stack_reverse_15 ⟨Nat.le_of_ble_eq_true rfl, Nat.le_of_ble_eq_true rfl⟩) (fun S2 H locs hw1 hP hD hS => ?_)
    have hP : va_P D classes (cW T ad S2) H := hP
    have hD : va_D A (cW T ad S2) := hD
    obtain ⟨⟨i_vst, i_vc0, i_vc1, i_vc2, i_vc3, i_vv0, i_vv1, i_vv2, i_vv3, i_vg, i_wct, i_wln, i_sd0, i_sd1, i_sd2, i_sd3, i_rln, i_rtx, i_rpl, i_rtk, i_cnv, i_pts, i_cik, i_und⟩, kpcL_S2, kpcP_S2, kpcU_S2, kpcW_S2⟩ := hw1
    have kScL_S2 : kcL S S2 := kcL_t (show kcL S S1 from klcL_S1) kpcL_S2
    have kScP_S2 : kcP S S2 := kcP_t (show kcP S S1 from klcP_S1) kpcP_S2
    have kScU_S2 : kcU S S2 := kcU_t (show kcU S S1 from klcU_S1) kpcU_S2
    have kScW_S2 : kcW S S2 := kcW_t (show kcW S S1 from klcW_S1) kpcW_S2
    have nxr_length_S2 : (f_xr_length S2).toInt = (f_xr_length S1).toInt := congrArg Int32.toInt kpcL_S2
    have nxr_length_S2 : (f_xr_length S2).toInt = (f_xr_length S1).toInt := congrArg Int32.toInt kpcP_S2.1
    have nxr_place_S2 : (f_xr_place S2).toInt = (f_xr_place S1).toInt := congrArg Int32.toInt kpcP_S2.2.1
    have nxe_underWay_S2 : (f_xe_underWay S2).toInt = (f_xe_underWay S1).toInt := congrArg Int32.toInt kpcU_S2
    have nxp_columns_S2 : (f_xp_columns S2).toInt = (f_xp_columns S1).toInt := congrArg Int32.toInt kpcW_S2.1
    have nxp_rows_S2 : (f_xp_rows S2).toInt = (f_xp_rows S1).toInt := congrArg Int32.toInt kpcW_S2.2
    refine lv_iinc (v := (i + 1)) (lv' := [(3, .int (i + 1)), (4, .int j), (0, .ref (ad 1)), (1, .int p0), (2, .int p1)]) hx hb d_Stack_reverse_18 hl (k := 1) rfl (by first | rfl | decide) (by decide) rfl (fun ls hl => ?_)
    obtain ⟨x1, ex1⟩ : ∃ z, z = (i + 1) := ⟨_, rfl⟩
    rw [← ex1] at hl
    have fx1 : x1.toInt = (i.toInt + 1) := by rw [ex1]; exact (zt_add (show i.toInt = _ from rfl) tI_1 (by omega) (by omega)).trans (by omega)
    have hl : lv_has ls 5 [(3, .int x1), (4, .int j), (0, .ref (ad 1)), (1, .int p0), (2, .int p1)] := hl
    refine lv_iinc (v := (j + (-1))) (lv' := [(4, .int (j + (-1))), (3, .int x1), (0, .ref (ad 1)), (1, .int p0), (2, .int p1)]) hx hb d_Stack_reverse_21 hl (k := 1) rfl (by first | rfl | decide) (by decide) rfl (fun ls hl => ?_)
    obtain ⟨x2, ex2⟩ : ∃ z, z = (j + (-1)) := ⟨_, rfl⟩
    rw [← ex2] at hl
    have fx2 : x2.toInt = (j.toInt - 1) := by rw [ex2]; exact (zt_add (show j.toInt = _ from rfl) tI_m1 (by omega) (by omega)).trans (by omega)
    have hl : lv_has ls 5 [(4, .int x2), (3, .int x1), (0, .ref (ad 1)), (1, .int p0), (2, .int p1)] := hl
    refine lv_goto (tgt := 5) hx hb d_Stack_reverse_24 (by decide) ?_
    exact ih (k - 1) (S2, x1, x2) _ _ _ (by omega) ⟨(show x2.toInt ≤ x1.toInt + (((k - 1) : Nat) : Int) by omega), ⟨i_vst, i_vc0, i_vc1, i_vc2, i_vc3, i_vv0, i_vv1, i_vv2, i_vv3, i_vg, i_wct, i_wln, i_sd0, i_sd1, i_sd2, i_sd3, i_rln, i_rtx, i_rpl, i_rtk, i_cnv, i_pts, i_cik, i_und⟩, (show kcL S S2 from kScL_S2), (show kcP S S2 from kScP_S2), (show kcU S S2 from kScU_S2), (show kcW S S2 from kScW_S2), hP, hD, hS, lv_sub hl [0, 1, 2, 3, 4] rfl⟩
theorem d_Stack_aboveMark_0 : decode prog_9_method_21_code 0 = .ok (.iconst 0, 1) := by decide +kernel
theorem d_Stack_aboveMark_1 : decode prog_9_method_21_code 1 = .ok (.istore_n 1, 1) := by decide +kernel
theorem d_Stack_aboveMark_2 : decode prog_9_method_21_code 2 = .ok (.iload_n 1, 1) := by decide +kernel
theorem d_Stack_aboveMark_3 : decode prog_9_method_21_code 3 = .ok (.aload_n 0, 1) := by decide +kernel
theorem d_Stack_aboveMark_4 : decode prog_9_method_21_code 4 = .ok (.getfield 9, 3) := by decide +kernel
theorem d_Stack_aboveMark_7 : decode prog_9_method_21_code 7 = .ok (.if_icmp .ge 20, 3) := by decide +kernel
theorem d_Stack_aboveMark_27 : decode prog_9_method_21_code 27 = .ok (.iconst (-1), 1) := by decide +kernel
theorem d_Stack_aboveMark_28 : decode prog_9_method_21_code 28 = .ok (.ireturn, 1) := by decide +kernel
theorem d_Stack_aboveMark_10 : decode prog_9_method_21_code 10 = .ok (.aload_n 0, 1) := by decide +kernel
theorem d_Stack_aboveMark_11 : decode prog_9_method_21_code 11 = .ok (.iload_n 1, 1) := by decide +kernel
theorem d_Stack_aboveMark_12 : decode prog_9_method_21_code 12 = .ok (.invokevirtual 26, 3) := by decide +kernel
theorem d_Stack_aboveMark_15 : decode prog_9_method_21_code 15 = .ok (.iconst 4, 1) := by decide +kernel
theorem d_Stack_aboveMark_16 : decode prog_9_method_21_code 16 = .ok (.if_icmp .ne 5, 3) := by decide +kernel
theorem d_Stack_aboveMark_21 : decode prog_9_method_21_code 21 = .ok (.iinc 1 1, 3) := by decide +kernel
theorem d_Stack_aboveMark_24 : decode prog_9_method_21_code 24 = .ok (.goto (-22), 3) := by decide +kernel
theorem d_Stack_aboveMark_19 : decode prog_9_method_21_code 19 = .ok (.iload_n 1, 1) := by decide +kernel
theorem d_Stack_aboveMark_20 : decode prog_9_method_21_code 20 = .ok (.ireturn, 1) := by decide +kernel
set_option maxHeartbeats 4000000 in
set_option maxRecDepth 100000 in
theorem c_Stack_aboveMark (l : Launch) (D : va_G) (T : Nat → ClassId) (ad : Nat → Nat) (S : CS)  (sz : Nat)  : Met l ⟨"PageScribe$Stack", "aboveMark", "()I"⟩ (wy ⟨"PageScribe$Stack", "aboveMark", "()I"⟩ prog_9_method_21_code 2 (some .int)) ({ frames := 2, cells := 0, slots := 0, locals := 140 }) (va_Pc [.ref (ad 1)] (Pw D T (cW T ad S) sz E0)) (va_Qi (fun (r : Int32) (u : Unit) => True) (fun u t => Bw D T (va_A (cW T ad S) sz) (cW T ad S) t) (va_A (cW T ad S) sz)) 0 0 (va_A (cW T ad S) sz) := by
  refine j_met (y := ⟨"PageScribe$Stack", "aboveMark", "()I"⟩) (b := prog_9_method_21_code) (n := 2) (ret := (some .int)) (av := [.ref (ad 1)]) (Qc := fun A => va_Qi (fun (r : Int32) (u : Unit) => True) (fun u t => Bw D T A (cW T ad S) t) A) (by decide +kernel) (Nat.le_of_ble_eq_true rfl) (fun p e s m args below meth c A ls F hr hlocks hnm hK hP hD hS hA hN hE hl => ?_)
  obtain ⟨hx, hb, hml, hown, hts⟩ := id F
  have hl : lv_has ls 2 [(0, .ref (ad 1))] := hl
  refine lv_iconst (v := 0) hx hb d_Stack_aboveMark_0 (by decide) ?_
  refine lv_istore_n (lv' := [(1, .int 0), (0, .ref (ad 1))]) hx hb d_Stack_aboveMark_1 rfl hl (by decide) rfl (fun ls hl => ?_)
  refine j_loop (α := Int32) (fun k x H locs ls => (0 ≤ x.toInt ∧ (f_xst_z S).toInt ≤ x.toInt + ((k : Nat) : Int)) ∧ va_P D classes (cW T ad S) H ∧ va_D A (cW T ad S) ∧ va_S A s.heap H locs ∧ lv_has ls 2 [(1, .int x), (0, .ref (ad 1))]) (fun _ _ ls => F0 m 2 ls []) (fun k x H locs ls hI9 ih => ?_) ((f_xst_z S).toInt).toNat (0 : Int32) _ _ _ ⟨(show 0 ≤ (0 : Int32).toInt ∧ (f_xst_z S).toInt ≤ (0 : Int32).toInt + ((((f_xst_z S).toInt).toNat : Nat) : Int) by have := tI_0; omega), hP, hD, hS, lv_sub hl [0, 1] rfl⟩
  obtain ⟨i, rfl⟩ : ∃ z, z = x := ⟨_, rfl⟩
  obtain ⟨hf1, hP, hD, hS, hl⟩ := hI9
  have hf1 : 0 ≤ i.toInt ∧ (f_xst_z S).toInt ≤ i.toInt + ((k : Nat) : Int) := hf1
  have hP : va_P D classes (cW T ad S) H := hP
  have hD : va_D A (cW T ad S) := hD
  have hl : lv_has ls 2 [(1, .int i), (0, .ref (ad 1))] := hl
  refine lv_iload_n hx hb d_Stack_aboveMark_2 rfl (lv_at hl 0 rfl) ?_
  refine lv_aload_n hx hb d_Stack_aboveMark_3 rfl (lv_at hl 1 rfl) ?_
  refine va_get (D := D) (ci := 0) (v := .int (f_xst_z S)) (C := "PageScribe$Stack") (T := F_Stack) (N := 4) hx hb hts i_Stack hown hK hP 1 (ce_1 _ _ _) cl_0 3 (by decide) (hts _ k_1_50) (fun x9 h9 => u_same (hts _ k_1_51) x9 h9) rfl d_Stack_aboveMark_4 ?_
  have qr_14 := zt_rng (f_xst_z S)
  refine lv_icmp_ge (tgt := 27) hx hb d_Stack_aboveMark_7 (by decide) (fun c7_1 => ?_) (fun c7_1 => ?_)
  · have fc7_1 : (f_xst_z S).toInt ≤ i.toInt := zt_le (show (f_xst_z S).toInt = _ from rfl) (show i.toInt = _ from rfl) c7_1
    refine lv_iconst (v := (-1)) hx hb d_Stack_aboveMark_27 (by decide) ?_
    exact j_iret F hr hlocks hK hS () trivial hP hD d_Stack_aboveMark_28
  · have fc7_1 : i.toInt < (f_xst_z S).toInt := Int.not_le.mp (zt_nle (show (f_xst_z S).toInt = _ from rfl) (show i.toInt = _ from rfl) c7_1)
    refine lv_aload_n hx hb d_Stack_aboveMark_10 rfl (lv_at hl 1 rfl) ?_
    refine lv_iload_n hx hb d_Stack_aboveMark_11 rfl (lv_at hl 0 rfl) ?_
    refine jc_ci (w := (fun _ => S)) hK hP hD hS hA (va_runV (As := [.int i]) (rest := []) F (c_Stack_kindDown l D T ad S i  H.size) (j_cV (k := 1) (C := "PageScribe$Stack") hts k_2_120 k_1_3 k_4_25 k_2_118 k_2_119 (by decide +kernel) ⟨Nat.le_of_ble_eq_true rfl, Nat.le_of_ble_eq_true rfl⟩) (j_preV (q0 := 1) (ci := 0) hK hP hD csc csc_all csc_nd cl_0 (ce_1 _ _ _) (fun _ _ _ _ h => h) (fun _ _ _ => trivial)) rfl rfl hl.1 rfl (lv_room (Nat.le_of_ble_eq_true rfl)) d_Stack_aboveMark_12 ⟨Nat.le_of_ble_eq_true rfl, Nat.le_of_ble_eq_true rfl⟩) (fun rv1 u1 H locs hw1 hP hD hS => ?_)
    have hP : va_P D classes (cW T ad S) H := hP
    have hD : va_D A (cW T ad S) := hD
    have rrv1 := zt_rng rv1
    refine lv_iconst (v := 4) hx hb d_Stack_aboveMark_15 (by decide) ?_
    refine lv_icmp_ne (tgt := 21) hx hb d_Stack_aboveMark_16 (by decide) (fun c16_1 => ?_) (fun c16_1 => ?_)
    · first | have fc16_1 : rv1.toInt < 4 := (by have := zt_ne (show rv1.toInt = _ from rfl) tI_4 c16_1; omega) | have fc16_1 : 4 < rv1.toInt := (by have := zt_ne (show rv1.toInt = _ from rfl) tI_4 c16_1; omega) | skip
      refine lv_iinc (v := (i + 1)) (lv' := [(1, .int (i + 1)), (0, .ref (ad 1))]) hx hb d_Stack_aboveMark_21 hl (k := 0) rfl (by first | rfl | decide) (by decide) rfl (fun ls hl => ?_)
      obtain ⟨x1, ex1⟩ : ∃ z, z = (i + 1) := ⟨_, rfl⟩
      rw [← ex1] at hl
      have fx1 : x1.toInt = (i.toInt + 1) := by rw [ex1]; exact (zt_add (show i.toInt = _ from rfl) tI_1 (by omega) (by omega)).trans (by omega)
      have hl : lv_has ls 2 [(1, .int x1), (0, .ref (ad 1))] := hl
      refine lv_goto (tgt := 2) hx hb d_Stack_aboveMark_24 (by decide) ?_
      exact ih (k - 1) x1 _ _ _ (by omega) ⟨(show 0 ≤ x1.toInt ∧ (f_xst_z S).toInt ≤ x1.toInt + (((k - 1) : Nat) : Int) by omega), hP, hD, hS, lv_sub hl [0, 1] rfl⟩
    · have fc16_1 : rv1.toInt = 4 := zt_eq (show rv1.toInt = _ from rfl) tI_4 c16_1
      refine lv_iload_n hx hb d_Stack_aboveMark_19 rfl (lv_at hl 0 rfl) ?_
      exact j_iret F hr hlocks hK hS () trivial hP hD d_Stack_aboveMark_20
theorem d_Stack_clearToMark_0 : decode prog_9_method_20_code 0 = .ok (.aload_n 0, 1) := by decide +kernel
theorem d_Stack_clearToMark_1 : decode prog_9_method_20_code 1 = .ok (.invokevirtual 110, 3) := by decide +kernel
theorem k_4_99 : Cond.code ⟨"PageScribe$Stack", "aboveMark", "()I"⟩ prog_9_method_21_code 2 (some .int) ∈ gw := gw_of (tb_4 (List.mem_of_getElem? (i := 99) (by decide +kernel))) (by decide +kernel)
theorem k_4_96 : Cond.methodLink "PageScribe$Stack" 110 ⟨"PageScribe$Stack", "aboveMark", "()I"⟩ ∈ gw := gw_of (tb_4 (List.mem_of_getElem? (i := 96) (by decide +kernel))) (by decide +kernel)
theorem k_4_97 : Cond.instanceMethod ⟨"PageScribe$Stack", "aboveMark", "()I"⟩ ∈ gw := gw_of (tb_4 (List.mem_of_getElem? (i := 97) (by decide +kernel))) (by decide +kernel)
theorem k_4_98 : Cond.selects "PageScribe$Stack" ⟨"PageScribe$Stack", "aboveMark", "()I"⟩ ⟨"PageScribe$Stack", "aboveMark", "()I"⟩ ∈ gw := gw_of (tb_4 (List.mem_of_getElem? (i := 98) (by decide +kernel))) (by decide +kernel)
theorem d_Stack_clearToMark_4 : decode prog_9_method_20_code 4 = .ok (.istore_n 1, 1) := by decide +kernel
theorem d_Stack_clearToMark_5 : decode prog_9_method_20_code 5 = .ok (.iload_n 1, 1) := by decide +kernel
theorem d_Stack_clearToMark_6 : decode prog_9_method_20_code 6 = .ok (.ifCond .ge 6, 3) := by decide +kernel
theorem d_Stack_clearToMark_12 : decode prog_9_method_20_code 12 = .ok (.aload_n 0, 1) := by decide +kernel
theorem d_Stack_clearToMark_13 : decode prog_9_method_20_code 13 = .ok (.iload_n 1, 1) := by decide +kernel
theorem d_Stack_clearToMark_14 : decode prog_9_method_20_code 14 = .ok (.iconst 1, 1) := by decide +kernel
theorem d_Stack_clearToMark_15 : decode prog_9_method_20_code 15 = .ok (.iadd, 1) := by decide +kernel
theorem d_Stack_clearToMark_16 : decode prog_9_method_20_code 16 = .ok (.invokevirtual 39, 3) := by decide +kernel
theorem d_Stack_clearToMark_19 : decode prog_9_method_20_code 19 = .ok (.iconst 0, 1) := by decide +kernel
theorem d_Stack_clearToMark_20 : decode prog_9_method_20_code 20 = .ok (.ireturn, 1) := by decide +kernel
theorem d_Stack_clearToMark_9 : decode prog_9_method_20_code 9 = .ok (.bipush 9, 2) := by decide +kernel
theorem d_Stack_clearToMark_11 : decode prog_9_method_20_code 11 = .ok (.ireturn, 1) := by decide +kernel
set_option maxHeartbeats 4000000 in
set_option maxRecDepth 100000 in
theorem c_Stack_clearToMark (l : Launch) (D : va_G) (T : Nat → ClassId) (ad : Nat → Nat) (S : CS)  (sz : Nat)  (hI : CIv S) : Met l ⟨"PageScribe$Stack", "clearToMark", "()I"⟩ (wy ⟨"PageScribe$Stack", "clearToMark", "()I"⟩ prog_9_method_20_code 2 (some .int)) ({ frames := 3, cells := 0, slots := 0, locals := 210 }) (va_Pc [.ref (ad 1)] (Pw D T (cW T ad S) sz E0)) (va_Qi (fun (r : Int32) (u : CS) => CIv u ∧ kcL S u ∧ kcP S u ∧ kcU S u ∧ kcW S u) (fun u t => Bw D T (va_A (cW T ad S) sz) (cW T ad u) t) (va_A (cW T ad S) sz)) 0 0 (va_A (cW T ad S) sz) := by
  refine j_met (y := ⟨"PageScribe$Stack", "clearToMark", "()I"⟩) (b := prog_9_method_20_code) (n := 2) (ret := (some .int)) (av := [.ref (ad 1)]) (Qc := fun A => va_Qi (fun (r : Int32) (u : CS) => CIv u ∧ kcL S u ∧ kcP S u ∧ kcU S u ∧ kcW S u) (fun u t => Bw D T A (cW T ad u) t) A) (by decide +kernel) (Nat.le_of_ble_eq_true rfl) (fun p e s m args below meth c A ls F hr hlocks hnm hK hP hD hS hA hN hE hl => ?_)
  obtain ⟨hx, hb, hml, hown, hts⟩ := id F
  have hl : lv_has ls 2 [(0, .ref (ad 1))] := hl
  obtain ⟨i_vst, i_vc0, i_vc1, i_vc2, i_vc3, i_vv0, i_vv1, i_vv2, i_vv3, i_vg, i_wct, i_wln, i_sd0, i_sd1, i_sd2, i_sd3, i_rln, i_rtx, i_rpl, i_rtk, i_cnv, i_pts, i_cik, i_und⟩ := id hI
  refine lv_aload_n hx hb d_Stack_clearToMark_0 rfl (lv_at hl 0 rfl) ?_
  refine jc_ci (w := (fun _ => S)) hK hP hD hS hA (va_runV (As := []) (rest := []) F (c_Stack_aboveMark l D T ad S  s.heap.size) (j_cV (k := 0) (C := "PageScribe$Stack") hts k_4_99 k_1_3 k_4_96 k_4_97 k_4_98 (by decide +kernel) ⟨Nat.le_of_ble_eq_true rfl, Nat.le_of_ble_eq_true rfl⟩) (j_preV (q0 := 1) (ci := 0) hK hP hD csc csc_all csc_nd cl_0 (ce_1 _ _ _) (fun _ _ _ _ h => h) (fun _ _ _ => trivial)) rfl rfl hl.1 rfl (lv_room (Nat.le_of_ble_eq_true rfl)) d_Stack_clearToMark_1 ⟨Nat.le_of_ble_eq_true rfl, Nat.le_of_ble_eq_true rfl⟩) (fun rv1 u1 H locs hw1 hP hD hS => ?_)
  have hP : va_P D classes (cW T ad S) H := hP
  have hD : va_D A (cW T ad S) := hD
  have rrv1 := zt_rng rv1
  refine lv_istore_n (lv' := [(1, .int rv1), (0, .ref (ad 1))]) hx hb d_Stack_clearToMark_4 rfl hl (by decide) rfl (fun ls hl => ?_)
  refine lv_iload_n hx hb d_Stack_clearToMark_5 rfl (lv_at hl 0 rfl) ?_
  refine lv_if_ge (tgt := 12) hx hb d_Stack_clearToMark_6 (by decide) (fun c6_1 => ?_) (fun c6_1 => ?_)
  · have fc6_1 : 0 ≤ rv1.toInt := zt_le tI_0 (show rv1.toInt = _ from rfl) c6_1
    refine lv_aload_n hx hb d_Stack_clearToMark_12 rfl (lv_at hl 1 rfl) ?_
    refine lv_iload_n hx hb d_Stack_clearToMark_13 rfl (lv_at hl 0 rfl) ?_
    refine lv_iconst (v := 1) hx hb d_Stack_clearToMark_14 (by decide) ?_
    refine lv_iadd hx hb d_Stack_clearToMark_15 ?_
    refine lv_topi (fun x1 ex1 => ?_)
    have rx1 := zt_rng x1
    refine jc_cv (w := (fun u => u)) hK hP hD hS hA (va_runU (As := [.int x1]) (rest := []) F (c_Row_drop l D T ad S x1  H.size ⟨i_vst, i_vc0, i_vc1, i_vc2, i_vc3, i_vv0, i_vv1, i_vv2, i_vv3, i_vg, i_wct, i_wln, i_sd0, i_sd1, i_sd2, i_sd3, i_rln, i_rtx, i_rpl, i_rtk, i_cnv, i_pts, i_cik, i_und⟩) (j_cU (k := 1) (C := "PageScribe$Stack") (owner := "PageScribe$Row") (x := ⟨"PageScribe$Stack", "drop", "(I)V"⟩) hts k_4_47 k_4_42 k_4_43 k_4_45 k_4_46 k_1_2 rfl (by decide +kernel) ⟨Nat.le_of_ble_eq_true rfl, Nat.le_of_ble_eq_true rfl⟩) (j_preV (q0 := 1) (ci := 0) hK hP hD csc csc_all csc_nd cl_0 (ce_1 _ _ _) (fun _ _ _ _ h => h) (fun _ _ _ => trivial)) rfl rfl hl.1 rfl (lv_room (Nat.le_of_ble_eq_true rfl)) d_Stack_clearToMark_16 ⟨Nat.le_of_ble_eq_true rfl, Nat.le_of_ble_eq_true rfl⟩) (fun S1 H locs hw2 hP hD hS => ?_)
    have hP : va_P D classes (cW T ad S1) H := hP
    have hD : va_D A (cW T ad S1) := hD
    obtain ⟨⟨i_vst, i_vc0, i_vc1, i_vc2, i_vc3, i_vv0, i_vv1, i_vv2, i_vv3, i_vg, i_wct, i_wln, i_sd0, i_sd1, i_sd2, i_sd3, i_rln, i_rtx, i_rpl, i_rtk, i_cnv, i_pts, i_cik, i_und⟩, kpcL_S1, kpcP_S1, kpcU_S1, kpcW_S1⟩ := hw2
    have kScL_S1 : kcL S S1 := kcL_t (show kcL S S from (kcL_r S)) kpcL_S1
    have kScP_S1 : kcP S S1 := kcP_t (show kcP S S from (kcP_r S)) kpcP_S1
    have kScU_S1 : kcU S S1 := kcU_t (show kcU S S from (kcU_r S)) kpcU_S1
    have kScW_S1 : kcW S S1 := kcW_t (show kcW S S from (kcW_r S)) kpcW_S1
    have nxr_length_S1 : (f_xr_length S1).toInt = (f_xr_length S).toInt := congrArg Int32.toInt kpcL_S1
    have nxr_length_S1 : (f_xr_length S1).toInt = (f_xr_length S).toInt := congrArg Int32.toInt kpcP_S1.1
    have nxr_place_S1 : (f_xr_place S1).toInt = (f_xr_place S).toInt := congrArg Int32.toInt kpcP_S1.2.1
    have nxe_underWay_S1 : (f_xe_underWay S1).toInt = (f_xe_underWay S).toInt := congrArg Int32.toInt kpcU_S1
    have nxp_columns_S1 : (f_xp_columns S1).toInt = (f_xp_columns S).toInt := congrArg Int32.toInt kpcW_S1.1
    have nxp_rows_S1 : (f_xp_rows S1).toInt = (f_xp_rows S).toInt := congrArg Int32.toInt kpcW_S1.2
    refine lv_iconst (v := 0) hx hb d_Stack_clearToMark_19 (by decide) ?_
    exact j_iret F hr hlocks hK hS S1 ⟨⟨i_vst, i_vc0, i_vc1, i_vc2, i_vc3, i_vv0, i_vv1, i_vv2, i_vv3, i_vg, i_wct, i_wln, i_sd0, i_sd1, i_sd2, i_sd3, i_rln, i_rtx, i_rpl, i_rtk, i_cnv, i_pts, i_cik, i_und⟩, kScL_S1, kScP_S1, kScU_S1, kScW_S1⟩ hP hD d_Stack_clearToMark_20
  · have fc6_1 : rv1.toInt < 0 := Int.not_le.mp (zt_nle tI_0 (show rv1.toInt = _ from rfl) c6_1)
    refine lv_bipush (v := 9) hx hb d_Stack_clearToMark_9 (by decide) ?_
    exact j_iret F hr hlocks hK hS S ⟨⟨i_vst, i_vc0, i_vc1, i_vc2, i_vc3, i_vv0, i_vv1, i_vv2, i_vv3, i_vg, i_wct, i_wln, i_sd0, i_sd1, i_sd2, i_sd3, i_rln, i_rtx, i_rpl, i_rtk, i_cnv, i_pts, i_cik, i_und⟩, (kcL_r S), (kcP_r S), (kcU_r S), (kcW_r S)⟩ hP hD d_Stack_clearToMark_11
theorem d_java_lang_Math_floorMod_0 : decode prog_22_method_50_code 0 = .ok (.iload_n 0, 1) := by decide +kernel
theorem d_java_lang_Math_floorMod_1 : decode prog_22_method_50_code 1 = .ok (.iload_n 1, 1) := by decide +kernel
theorem d_java_lang_Math_floorMod_2 : decode prog_22_method_50_code 2 = .ok (.irem, 1) := by decide +kernel
theorem d_java_lang_Math_floorMod_3 : decode prog_22_method_50_code 3 = .ok (.istore_n 2, 1) := by decide +kernel
theorem d_java_lang_Math_floorMod_4 : decode prog_22_method_50_code 4 = .ok (.iload_n 0, 1) := by decide +kernel
theorem d_java_lang_Math_floorMod_5 : decode prog_22_method_50_code 5 = .ok (.iload_n 1, 1) := by decide +kernel
theorem d_java_lang_Math_floorMod_6 : decode prog_22_method_50_code 6 = .ok (.ixor, 1) := by decide +kernel
theorem d_java_lang_Math_floorMod_7 : decode prog_22_method_50_code 7 = .ok (.ifCond .ge 11, 3) := by decide +kernel
theorem d_java_lang_Math_floorMod_18 : decode prog_22_method_50_code 18 = .ok (.iload_n 2, 1) := by decide +kernel
theorem d_java_lang_Math_floorMod_19 : decode prog_22_method_50_code 19 = .ok (.ireturn, 1) := by decide +kernel
theorem d_java_lang_Math_floorMod_10 : decode prog_22_method_50_code 10 = .ok (.iload_n 2, 1) := by decide +kernel
theorem d_java_lang_Math_floorMod_11 : decode prog_22_method_50_code 11 = .ok (.ifCond .eq 7, 3) := by decide +kernel
theorem d_java_lang_Math_floorMod_14 : decode prog_22_method_50_code 14 = .ok (.iload_n 2, 1) := by decide +kernel
theorem d_java_lang_Math_floorMod_15 : decode prog_22_method_50_code 15 = .ok (.iload_n 1, 1) := by decide +kernel
theorem d_java_lang_Math_floorMod_16 : decode prog_22_method_50_code 16 = .ok (.iadd, 1) := by decide +kernel
theorem d_java_lang_Math_floorMod_17 : decode prog_22_method_50_code 17 = .ok (.ireturn, 1) := by decide +kernel
set_option maxHeartbeats 4000000 in
set_option maxRecDepth 100000 in
theorem c_Math_floorMod (l : Launch) (D : va_G) (T : Nat → ClassId) (p0 : Int32) (p1 : Int32) (sz : Nat)  (h1 : ¬ p1.toInt = 0) : Met l ⟨"java/lang/Math", "floorMod", "(II)I"⟩ (wy ⟨"java/lang/Math", "floorMod", "(II)I"⟩ prog_22_method_50_code 3 (some .int)) ({ frames := 0, cells := 0, slots := 0, locals := 0 }) (va_Pc [.int p0, .int p1] (Pw D T [] sz E0)) (va_Qi (fun (r : Int32) (u : Unit) => True) (fun u t => Bw D T (va_A [] sz) [] t) (va_A [] sz)) 0 0 (va_A [] sz) := by
  refine j_metF (y := ⟨"java/lang/Math", "floorMod", "(II)I"⟩) (b := prog_22_method_50_code) (n := 3) (ret := (some .int)) (av := [.int p0, .int p1]) (Qc := fun A => va_Qi (fun (r : Int32) (u : Unit) => True) (fun u t => Bw D T A [] t) A) (by decide +kernel) (Nat.le_of_ble_eq_true rfl) (fun p e s m args below meth c A ls F hr hlocks hnm hK hP hD hS hA hN hE hl => ?_)
  obtain ⟨hx, hb, hml, hown, hts⟩ := id F
  have hl : lv_has ls 3 [(0, .int p0), (1, .int p1)] := hl
  have rp0 := zt_rng p0
  have rp1 := zt_rng p1
  refine lv_iload_n hx hb d_java_lang_Math_floorMod_0 rfl (lv_at hl 0 rfl) ?_
  refine lv_iload_n hx hb d_java_lang_Math_floorMod_1 rfl (lv_at hl 1 rfl) ?_
  refine lv_irem hx hb d_java_lang_Math_floorMod_2 (zt_n0 rfl (by omega)) ?_
  refine lv_topi (fun x1 ex1 => ?_)
  have rx1 := zt_rng x1
  refine lv_istore_n (lv' := [(2, .int x1), (0, .int p0), (1, .int p1)]) hx hb d_java_lang_Math_floorMod_3 rfl hl (by decide) rfl (fun ls hl => ?_)
  refine lv_iload_n hx hb d_java_lang_Math_floorMod_4 rfl (lv_at hl 1 rfl) ?_
  refine lv_iload_n hx hb d_java_lang_Math_floorMod_5 rfl (lv_at hl 2 rfl) ?_
  refine lv_ixor hx hb d_java_lang_Math_floorMod_6 ?_
  refine lv_topi (fun x2 ex2 => ?_)
  have rx2 := zt_rng x2
  refine lv_if_ge (tgt := 18) hx hb d_java_lang_Math_floorMod_7 (by decide) (fun c7_1 => ?_) (fun c7_1 => ?_)
  · have fc7_1 : 0 ≤ x2.toInt := zt_le tI_0 (show x2.toInt = _ from rfl) c7_1
    refine lv_iload_n hx hb d_java_lang_Math_floorMod_18 rfl (lv_at hl 0 rfl) ?_
    exact j_iret F hr hlocks hK hS () trivial hP hD d_java_lang_Math_floorMod_19
  · have fc7_1 : x2.toInt < 0 := Int.not_le.mp (zt_nle tI_0 (show x2.toInt = _ from rfl) c7_1)
    refine lv_iload_n hx hb d_java_lang_Math_floorMod_10 rfl (lv_at hl 0 rfl) ?_
    refine lv_if_eq (tgt := 18) hx hb d_java_lang_Math_floorMod_11 (by decide) (fun c11_1 => ?_) (fun c11_1 => ?_)
    · have fc11_1 : x1.toInt = 0 := zt_eq (show x1.toInt = _ from rfl) tI_0 c11_1
      refine lv_iload_n hx hb d_java_lang_Math_floorMod_18 rfl (lv_at hl 0 rfl) ?_
      exact j_iret F hr hlocks hK hS () trivial hP hD d_java_lang_Math_floorMod_19
    · first | have fc11_1 : x1.toInt < 0 := (by have := zt_ne (show x1.toInt = _ from rfl) tI_0 c11_1; omega) | have fc11_1 : 0 < x1.toInt := (by have := zt_ne (show x1.toInt = _ from rfl) tI_0 c11_1; omega) | skip
      refine lv_iload_n hx hb d_java_lang_Math_floorMod_14 rfl (lv_at hl 0 rfl) ?_
      refine lv_iload_n hx hb d_java_lang_Math_floorMod_15 rfl (lv_at hl 2 rfl) ?_
      refine lv_iadd hx hb d_java_lang_Math_floorMod_16 ?_
      refine lv_topi (fun x3 ex3 => ?_)
      have rx3 := zt_rng x3
      exact j_iret F hr hlocks hK hS () trivial hP hD d_java_lang_Math_floorMod_17
theorem d_Stack_roll_0 : decode prog_9_method_17_code 0 = .ok (.aload_n 0, 1) := by decide +kernel
theorem d_Stack_roll_1 : decode prog_9_method_17_code 1 = .ok (.iconst 1, 1) := by decide +kernel
theorem d_Stack_roll_2 : decode prog_9_method_17_code 2 = .ok (.invokevirtual 29, 3) := by decide +kernel
theorem d_Stack_roll_5 : decode prog_9_method_17_code 5 = .ok (.istore_n 1, 1) := by decide +kernel
theorem d_Stack_roll_6 : decode prog_9_method_17_code 6 = .ok (.aload_n 0, 1) := by decide +kernel
theorem d_Stack_roll_7 : decode prog_9_method_17_code 7 = .ok (.iconst 0, 1) := by decide +kernel
theorem d_Stack_roll_8 : decode prog_9_method_17_code 8 = .ok (.invokevirtual 29, 3) := by decide +kernel
theorem d_Stack_roll_11 : decode prog_9_method_17_code 11 = .ok (.istore_n 2, 1) := by decide +kernel
theorem d_Stack_roll_12 : decode prog_9_method_17_code 12 = .ok (.iload_n 1, 1) := by decide +kernel
theorem d_Stack_roll_13 : decode prog_9_method_17_code 13 = .ok (.ifCond .lt 13, 3) := by decide +kernel
theorem d_Stack_roll_26 : decode prog_9_method_17_code 26 = .ok (.iconst 4, 1) := by decide +kernel
theorem d_Stack_roll_27 : decode prog_9_method_17_code 27 = .ok (.ireturn, 1) := by decide +kernel
theorem d_Stack_roll_16 : decode prog_9_method_17_code 16 = .ok (.iload_n 1, 1) := by decide +kernel
theorem d_Stack_roll_17 : decode prog_9_method_17_code 17 = .ok (.aload_n 0, 1) := by decide +kernel
theorem d_Stack_roll_18 : decode prog_9_method_17_code 18 = .ok (.getfield 9, 3) := by decide +kernel
theorem d_Stack_roll_21 : decode prog_9_method_17_code 21 = .ok (.iconst 2, 1) := by decide +kernel
theorem d_Stack_roll_22 : decode prog_9_method_17_code 22 = .ok (.isub, 1) := by decide +kernel
theorem d_Stack_roll_23 : decode prog_9_method_17_code 23 = .ok (.if_icmp .le 5, 3) := by decide +kernel
theorem d_Stack_roll_28 : decode prog_9_method_17_code 28 = .ok (.aload_n 0, 1) := by decide +kernel
theorem d_Stack_roll_29 : decode prog_9_method_17_code 29 = .ok (.iconst 2, 1) := by decide +kernel
theorem d_Stack_roll_30 : decode prog_9_method_17_code 30 = .ok (.invokevirtual 39, 3) := by decide +kernel
theorem d_Stack_roll_33 : decode prog_9_method_17_code 33 = .ok (.iload_n 1, 1) := by decide +kernel
theorem d_Stack_roll_34 : decode prog_9_method_17_code 34 = .ok (.ifCond .le 53, 3) := by decide +kernel
theorem d_Stack_roll_87 : decode prog_9_method_17_code 87 = .ok (.iconst 0, 1) := by decide +kernel
theorem d_Stack_roll_88 : decode prog_9_method_17_code 88 = .ok (.ireturn, 1) := by decide +kernel
theorem d_Stack_roll_37 : decode prog_9_method_17_code 37 = .ok (.aload_n 0, 1) := by decide +kernel
theorem d_Stack_roll_38 : decode prog_9_method_17_code 38 = .ok (.getfield 9, 3) := by decide +kernel
theorem d_Stack_roll_41 : decode prog_9_method_17_code 41 = .ok (.iload_n 1, 1) := by decide +kernel
theorem d_Stack_roll_42 : decode prog_9_method_17_code 42 = .ok (.isub, 1) := by decide +kernel
theorem d_Stack_roll_43 : decode prog_9_method_17_code 43 = .ok (.istore_n 3, 1) := by decide +kernel
theorem d_Stack_roll_44 : decode prog_9_method_17_code 44 = .ok (.iload_n 2, 1) := by decide +kernel
theorem d_Stack_roll_45 : decode prog_9_method_17_code 45 = .ok (.iload_n 1, 1) := by decide +kernel
theorem d_Stack_roll_46 : decode prog_9_method_17_code 46 = .ok (.invokestatic 97, 3) := by decide +kernel
theorem k_4_82 : Cond.code ⟨"java/lang/Math", "floorMod", "(II)I"⟩ prog_22_method_50_code 3 (some .int) ∈ gw := gw_of (tb_4 (List.mem_of_getElem? (i := 82) (by decide +kernel))) (by decide +kernel)
theorem k_4_80 : Cond.methodLink "PageScribe$Stack" 97 ⟨"java/lang/Math", "floorMod", "(II)I"⟩ ∈ gw := gw_of (tb_4 (List.mem_of_getElem? (i := 80) (by decide +kernel))) (by decide +kernel)
theorem k_4_81 : Cond.static ⟨"java/lang/Math", "floorMod", "(II)I"⟩ ∈ gw := gw_of (tb_4 (List.mem_of_getElem? (i := 81) (by decide +kernel))) (by decide +kernel)
theorem d_Stack_roll_49 : decode prog_9_method_17_code 49 = .ok (.istore 4, 2) := by decide +kernel
theorem d_Stack_roll_51 : decode prog_9_method_17_code 51 = .ok (.aload_n 0, 1) := by decide +kernel
theorem d_Stack_roll_52 : decode prog_9_method_17_code 52 = .ok (.iload_n 3, 1) := by decide +kernel
theorem d_Stack_roll_53 : decode prog_9_method_17_code 53 = .ok (.aload_n 0, 1) := by decide +kernel
theorem d_Stack_roll_54 : decode prog_9_method_17_code 54 = .ok (.getfield 9, 3) := by decide +kernel
theorem d_Stack_roll_57 : decode prog_9_method_17_code 57 = .ok (.iconst 1, 1) := by decide +kernel
theorem d_Stack_roll_58 : decode prog_9_method_17_code 58 = .ok (.isub, 1) := by decide +kernel
theorem d_Stack_roll_59 : decode prog_9_method_17_code 59 = .ok (.invokevirtual 103, 3) := by decide +kernel
theorem k_4_86 : Cond.code ⟨"PageScribe$Stack", "reverse", "(II)V"⟩ prog_9_method_18_code 5 none ∈ gw := gw_of (tb_4 (List.mem_of_getElem? (i := 86) (by decide +kernel))) (by decide +kernel)
theorem k_4_83 : Cond.methodLink "PageScribe$Stack" 103 ⟨"PageScribe$Stack", "reverse", "(II)V"⟩ ∈ gw := gw_of (tb_4 (List.mem_of_getElem? (i := 83) (by decide +kernel))) (by decide +kernel)
theorem k_4_85 : Cond.instanceMethod ⟨"PageScribe$Stack", "reverse", "(II)V"⟩ ∈ gw := gw_of (tb_4 (List.mem_of_getElem? (i := 85) (by decide +kernel))) (by decide +kernel)
theorem k_0_22 : Cond.selects "PageScribe$Stack" ⟨"PageScribe$Stack", "reverse", "(II)V"⟩ ⟨"PageScribe$Stack", "reverse", "(II)V"⟩ ∈ gw := gw_of (tb_0 (List.mem_of_getElem? (i := 22) (by decide +kernel))) (by decide +kernel)
theorem d_Stack_roll_62 : decode prog_9_method_17_code 62 = .ok (.aload_n 0, 1) := by decide +kernel
theorem d_Stack_roll_63 : decode prog_9_method_17_code 63 = .ok (.iload_n 3, 1) := by decide +kernel
theorem d_Stack_roll_64 : decode prog_9_method_17_code 64 = .ok (.iload_n 3, 1) := by decide +kernel
theorem d_Stack_roll_65 : decode prog_9_method_17_code 65 = .ok (.iload 4, 2) := by decide +kernel
theorem d_Stack_roll_67 : decode prog_9_method_17_code 67 = .ok (.iadd, 1) := by decide +kernel
theorem d_Stack_roll_68 : decode prog_9_method_17_code 68 = .ok (.iconst 1, 1) := by decide +kernel
theorem d_Stack_roll_69 : decode prog_9_method_17_code 69 = .ok (.isub, 1) := by decide +kernel
theorem d_Stack_roll_70 : decode prog_9_method_17_code 70 = .ok (.invokevirtual 103, 3) := by decide +kernel
theorem d_Stack_roll_73 : decode prog_9_method_17_code 73 = .ok (.aload_n 0, 1) := by decide +kernel
theorem d_Stack_roll_74 : decode prog_9_method_17_code 74 = .ok (.iload_n 3, 1) := by decide +kernel
theorem d_Stack_roll_75 : decode prog_9_method_17_code 75 = .ok (.iload 4, 2) := by decide +kernel
theorem d_Stack_roll_77 : decode prog_9_method_17_code 77 = .ok (.iadd, 1) := by decide +kernel
theorem d_Stack_roll_78 : decode prog_9_method_17_code 78 = .ok (.aload_n 0, 1) := by decide +kernel
theorem d_Stack_roll_79 : decode prog_9_method_17_code 79 = .ok (.getfield 9, 3) := by decide +kernel
theorem d_Stack_roll_82 : decode prog_9_method_17_code 82 = .ok (.iconst 1, 1) := by decide +kernel
theorem d_Stack_roll_83 : decode prog_9_method_17_code 83 = .ok (.isub, 1) := by decide +kernel
theorem d_Stack_roll_84 : decode prog_9_method_17_code 84 = .ok (.invokevirtual 103, 3) := by decide +kernel
set_option maxHeartbeats 4000000 in
set_option maxRecDepth 100000 in
theorem c_Stack_roll (l : Launch) (D : va_G) (T : Nat → ClassId) (ad : Nat → Nat) (S : CS)  (sz : Nat)  (hI : CIv S) : Met l ⟨"PageScribe$Stack", "roll", "()I"⟩ (wy ⟨"PageScribe$Stack", "roll", "()I"⟩ prog_9_method_17_code 5 (some .int)) ({ frames := 3, cells := 0, slots := 0, locals := 210 }) (va_Pc [.ref (ad 1)] (Pw D T (cW T ad S) sz E0)) (va_Qi (fun (r : Int32) (u : CS) => CIv u ∧ kcL S u ∧ kcP S u ∧ kcU S u ∧ kcW S u) (fun u t => Bw D T (va_A (cW T ad S) sz) (cW T ad u) t) (va_A (cW T ad S) sz)) 0 0 (va_A (cW T ad S) sz) := by
  refine j_met (y := ⟨"PageScribe$Stack", "roll", "()I"⟩) (b := prog_9_method_17_code) (n := 5) (ret := (some .int)) (av := [.ref (ad 1)]) (Qc := fun A => va_Qi (fun (r : Int32) (u : CS) => CIv u ∧ kcL S u ∧ kcP S u ∧ kcU S u ∧ kcW S u) (fun u t => Bw D T A (cW T ad u) t) A) (by decide +kernel) (Nat.le_of_ble_eq_true rfl) (fun p e s m args below meth c A ls F hr hlocks hnm hK hP hD hS hA hN hE hl => ?_)
  obtain ⟨hx, hb, hml, hown, hts⟩ := id F
  have hl : lv_has ls 5 [(0, .ref (ad 1))] := hl
  obtain ⟨i_vst, i_vc0, i_vc1, i_vc2, i_vc3, i_vv0, i_vv1, i_vv2, i_vv3, i_vg, i_wct, i_wln, i_sd0, i_sd1, i_sd2, i_sd3, i_rln, i_rtx, i_rpl, i_rtk, i_cnv, i_pts, i_cik, i_und⟩ := id hI
  refine lv_aload_n hx hb d_Stack_roll_0 rfl (lv_at hl 0 rfl) ?_
  refine lv_iconst (v := 1) hx hb d_Stack_roll_1 (by decide) ?_
  refine jc_ci (w := (fun _ => S)) hK hP hD hS hA (va_runV (As := [.int 1]) (rest := []) F (c_Stack_numberDown l D T ad S (1 : Int32)  s.heap.size) (j_cV (k := 1) (C := "PageScribe$Stack") hts k_2_130 k_1_3 k_4_71 k_2_128 k_2_129 (by decide +kernel) ⟨Nat.le_of_ble_eq_true rfl, Nat.le_of_ble_eq_true rfl⟩) (j_preV (q0 := 1) (ci := 0) hK hP hD csc csc_all csc_nd cl_0 (ce_1 _ _ _) (fun _ _ _ _ h => h) (fun _ _ _ => trivial)) rfl rfl hl.1 rfl (lv_room (Nat.le_of_ble_eq_true rfl)) d_Stack_roll_2 ⟨Nat.le_of_ble_eq_true rfl, Nat.le_of_ble_eq_true rfl⟩) (fun rv1 u1 H locs hw1 hP hD hS => ?_)
  have hP : va_P D classes (cW T ad S) H := hP
  have hD : va_D A (cW T ad S) := hD
  have rrv1 := zt_rng rv1
  refine lv_istore_n (lv' := [(1, .int rv1), (0, .ref (ad 1))]) hx hb d_Stack_roll_5 rfl hl (by decide) rfl (fun ls hl => ?_)
  refine lv_aload_n hx hb d_Stack_roll_6 rfl (lv_at hl 1 rfl) ?_
  refine lv_iconst (v := 0) hx hb d_Stack_roll_7 (by decide) ?_
  refine jc_ci (w := (fun _ => S)) hK hP hD hS hA (va_runV (As := [.int 0]) (rest := []) F (c_Stack_numberDown l D T ad S (0 : Int32)  H.size) (j_cV (k := 1) (C := "PageScribe$Stack") hts k_2_130 k_1_3 k_4_71 k_2_128 k_2_129 (by decide +kernel) ⟨Nat.le_of_ble_eq_true rfl, Nat.le_of_ble_eq_true rfl⟩) (j_preV (q0 := 1) (ci := 0) hK hP hD csc csc_all csc_nd cl_0 (ce_1 _ _ _) (fun _ _ _ _ h => h) (fun _ _ _ => trivial)) rfl rfl hl.1 rfl (lv_room (Nat.le_of_ble_eq_true rfl)) d_Stack_roll_8 ⟨Nat.le_of_ble_eq_true rfl, Nat.le_of_ble_eq_true rfl⟩) (fun rv2 u2 H locs hw2 hP hD hS => ?_)
  have hP : va_P D classes (cW T ad S) H := hP
  have hD : va_D A (cW T ad S) := hD
  have rrv2 := zt_rng rv2
  refine lv_istore_n (lv' := [(2, .int rv2), (1, .int rv1), (0, .ref (ad 1))]) hx hb d_Stack_roll_11 rfl hl (by decide) rfl (fun ls hl => ?_)
  refine lv_iload_n hx hb d_Stack_roll_12 rfl (lv_at hl 1 rfl) ?_
  refine lv_if_lt (tgt := 26) hx hb d_Stack_roll_13 (by decide) (fun c13_1 => ?_) (fun c13_1 => ?_)
  · have fc13_1 : rv1.toInt < 0 := zt_lt (show rv1.toInt = _ from rfl) tI_0 c13_1
    refine lv_iconst (v := 4) hx hb d_Stack_roll_26 (by decide) ?_
    exact j_iret F hr hlocks hK hS S ⟨⟨i_vst, i_vc0, i_vc1, i_vc2, i_vc3, i_vv0, i_vv1, i_vv2, i_vv3, i_vg, i_wct, i_wln, i_sd0, i_sd1, i_sd2, i_sd3, i_rln, i_rtx, i_rpl, i_rtk, i_cnv, i_pts, i_cik, i_und⟩, (kcL_r S), (kcP_r S), (kcU_r S), (kcW_r S)⟩ hP hD d_Stack_roll_27
  · have fc13_1 : 0 ≤ rv1.toInt := Int.not_lt.mp (zt_nlt (show rv1.toInt = _ from rfl) tI_0 c13_1)
    refine lv_iload_n hx hb d_Stack_roll_16 rfl (lv_at hl 1 rfl) ?_
    refine lv_aload_n hx hb d_Stack_roll_17 rfl (lv_at hl 2 rfl) ?_
    refine va_get (D := D) (ci := 0) (v := .int (f_xst_z S)) (C := "PageScribe$Stack") (T := F_Stack) (N := 4) hx hb hts i_Stack hown hK hP 1 (ce_1 _ _ _) cl_0 3 (by decide) (hts _ k_1_50) (fun x9 h9 => u_same (hts _ k_1_51) x9 h9) rfl d_Stack_roll_18 ?_
    refine lv_iconst (v := 2) hx hb d_Stack_roll_21 (by decide) ?_
    refine lv_isub hx hb d_Stack_roll_22 ?_
    refine lv_topi (fun x1 ex1 => ?_)
    have rx1 := zt_rng x1
    refine lv_icmp_le (tgt := 28) hx hb d_Stack_roll_23 (by decide) (fun c23_1 => ?_) (fun c23_1 => ?_)
    · have fc23_1 : rv1.toInt ≤ x1.toInt := zt_le (show rv1.toInt = _ from rfl) (show x1.toInt = _ from rfl) c23_1
      refine lv_aload_n hx hb d_Stack_roll_28 rfl (lv_at hl 2 rfl) ?_
      refine lv_iconst (v := 2) hx hb d_Stack_roll_29 (by decide) ?_
      refine jc_cv (w := (fun u => u)) hK hP hD hS hA (va_runU (As := [.int 2]) (rest := []) F (c_Row_drop l D T ad S (2 : Int32)  H.size ⟨i_vst, i_vc0, i_vc1, i_vc2, i_vc3, i_vv0, i_vv1, i_vv2, i_vv3, i_vg, i_wct, i_wln, i_sd0, i_sd1, i_sd2, i_sd3, i_rln, i_rtx, i_rpl, i_rtk, i_cnv, i_pts, i_cik, i_und⟩) (j_cU (k := 1) (C := "PageScribe$Stack") (owner := "PageScribe$Row") (x := ⟨"PageScribe$Stack", "drop", "(I)V"⟩) hts k_4_47 k_4_42 k_4_43 k_4_45 k_4_46 k_1_2 rfl (by decide +kernel) ⟨Nat.le_of_ble_eq_true rfl, Nat.le_of_ble_eq_true rfl⟩) (j_preV (q0 := 1) (ci := 0) hK hP hD csc csc_all csc_nd cl_0 (ce_1 _ _ _) (fun _ _ _ _ h => h) (fun _ _ _ => trivial)) rfl rfl hl.1 rfl (lv_room (Nat.le_of_ble_eq_true rfl)) d_Stack_roll_30 ⟨Nat.le_of_ble_eq_true rfl, Nat.le_of_ble_eq_true rfl⟩) (fun S1 H locs hw3 hP hD hS => ?_)
      have hP : va_P D classes (cW T ad S1) H := hP
      have hD : va_D A (cW T ad S1) := hD
      obtain ⟨⟨i_vst, i_vc0, i_vc1, i_vc2, i_vc3, i_vv0, i_vv1, i_vv2, i_vv3, i_vg, i_wct, i_wln, i_sd0, i_sd1, i_sd2, i_sd3, i_rln, i_rtx, i_rpl, i_rtk, i_cnv, i_pts, i_cik, i_und⟩, kpcL_S1, kpcP_S1, kpcU_S1, kpcW_S1⟩ := hw3
      have kScL_S1 : kcL S S1 := kcL_t (show kcL S S from (kcL_r S)) kpcL_S1
      have kScP_S1 : kcP S S1 := kcP_t (show kcP S S from (kcP_r S)) kpcP_S1
      have kScU_S1 : kcU S S1 := kcU_t (show kcU S S from (kcU_r S)) kpcU_S1
      have kScW_S1 : kcW S S1 := kcW_t (show kcW S S from (kcW_r S)) kpcW_S1
      have nxr_length_S1 : (f_xr_length S1).toInt = (f_xr_length S).toInt := congrArg Int32.toInt kpcL_S1
      have nxr_length_S1 : (f_xr_length S1).toInt = (f_xr_length S).toInt := congrArg Int32.toInt kpcP_S1.1
      have nxr_place_S1 : (f_xr_place S1).toInt = (f_xr_place S).toInt := congrArg Int32.toInt kpcP_S1.2.1
      have nxe_underWay_S1 : (f_xe_underWay S1).toInt = (f_xe_underWay S).toInt := congrArg Int32.toInt kpcU_S1
      have nxp_columns_S1 : (f_xp_columns S1).toInt = (f_xp_columns S).toInt := congrArg Int32.toInt kpcW_S1.1
      have nxp_rows_S1 : (f_xp_rows S1).toInt = (f_xp_rows S).toInt := congrArg Int32.toInt kpcW_S1.2
      refine lv_iload_n hx hb d_Stack_roll_33 rfl (lv_at hl 1 rfl) ?_
      refine lv_if_le (tgt := 87) hx hb d_Stack_roll_34 (by decide) (fun c34_1 => ?_) (fun c34_1 => ?_)
      · have fc34_1 : rv1.toInt ≤ 0 := zt_le (show rv1.toInt = _ from rfl) tI_0 c34_1
        refine lv_iconst (v := 0) hx hb d_Stack_roll_87 (by decide) ?_
        exact j_iret F hr hlocks hK hS S1 ⟨⟨i_vst, i_vc0, i_vc1, i_vc2, i_vc3, i_vv0, i_vv1, i_vv2, i_vv3, i_vg, i_wct, i_wln, i_sd0, i_sd1, i_sd2, i_sd3, i_rln, i_rtx, i_rpl, i_rtk, i_cnv, i_pts, i_cik, i_und⟩, kScL_S1, kScP_S1, kScU_S1, kScW_S1⟩ hP hD d_Stack_roll_88
      · have fc34_1 : 0 < rv1.toInt := Int.not_le.mp (zt_nle (show rv1.toInt = _ from rfl) tI_0 c34_1)
        refine lv_aload_n hx hb d_Stack_roll_37 rfl (lv_at hl 2 rfl) ?_
        refine va_get (D := D) (ci := 0) (v := .int (f_xst_z S1)) (C := "PageScribe$Stack") (T := F_Stack) (N := 4) hx hb hts i_Stack hown hK hP 1 (ce_1 _ _ _) cl_0 3 (by decide) (hts _ k_1_50) (fun x9 h9 => u_same (hts _ k_1_51) x9 h9) rfl d_Stack_roll_38 ?_
        refine lv_iload_n hx hb d_Stack_roll_41 rfl (lv_at hl 1 rfl) ?_
        refine lv_isub hx hb d_Stack_roll_42 ?_
        refine lv_topi (fun x2 ex2 => ?_)
        have rx2 := zt_rng x2
        refine lv_istore_n (lv' := [(3, .int x2), (2, .int rv2), (1, .int rv1), (0, .ref (ad 1))]) hx hb d_Stack_roll_43 rfl hl (by decide) rfl (fun ls hl => ?_)
        refine lv_iload_n hx hb d_Stack_roll_44 rfl (lv_at hl 1 rfl) ?_
        refine lv_iload_n hx hb d_Stack_roll_45 rfl (lv_at hl 2 rfl) ?_
        refine j_ci (wc := []) (wr := (cW T ad S1)) hK hP hD hS hA [] csc rfl csc_all csc_nd (fun _ _ => List.not_mem_nil) (va_runS (As := [.int rv2, .int rv1]) (rest := []) F (c_Math_floorMod l D T rv2 rv1  H.size (show ¬ rv1.toInt = 0 by omega)) (j_cS (k := 2) hts k_4_82 k_1_21 k_4_80 k_4_81 (by decide +kernel) ⟨Nat.le_of_ble_eq_true rfl, Nat.le_of_ble_eq_true rfl⟩) (j_preS hK hP hD [] rfl (by decide) (fun _ _ _ _ h => h) (fun _ _ _ => trivial)) rfl rfl hl.1 rfl (lv_room (Nat.le_of_ble_eq_true rfl)) d_Stack_roll_46 ⟨Nat.le_of_ble_eq_true rfl, Nat.le_of_ble_eq_true rfl⟩) (fun rv4 u3 H locs hw4 hP hD hS => ?_)
        have hP : va_P D classes (cW T ad S1) H := hP
        have hD : va_D A (cW T ad S1) := hD
        have rrv4 := zt_rng rv4
        refine lv_istore (lv' := [(4, .int rv4), (3, .int x2), (2, .int rv2), (1, .int rv1), (0, .ref (ad 1))]) hx hb d_Stack_roll_49 hl (by decide) rfl (fun ls hl => ?_)
        refine lv_aload_n hx hb d_Stack_roll_51 rfl (lv_at hl 4 rfl) ?_
        refine lv_iload_n hx hb d_Stack_roll_52 rfl (lv_at hl 1 rfl) ?_
        refine lv_aload_n hx hb d_Stack_roll_53 rfl (lv_at hl 4 rfl) ?_
        refine va_get (D := D) (ci := 0) (v := .int (f_xst_z S1)) (C := "PageScribe$Stack") (T := F_Stack) (N := 4) hx hb hts i_Stack hown hK hP 1 (ce_1 _ _ _) cl_0 3 (by decide) (hts _ k_1_50) (fun x9 h9 => u_same (hts _ k_1_51) x9 h9) rfl d_Stack_roll_54 ?_
        refine lv_iconst (v := 1) hx hb d_Stack_roll_57 (by decide) ?_
        refine lv_isub hx hb d_Stack_roll_58 ?_
        refine lv_topi (fun x3 ex3 => ?_)
        have rx3 := zt_rng x3
        refine jc_cv (w := (fun u => u)) hK hP hD hS hA (va_runV (As := [.int x2, .int x3]) (rest := []) F (c_Stack_reverse l D T ad S1 x2 x3  H.size ⟨i_vst, i_vc0, i_vc1, i_vc2, i_vc3, i_vv0, i_vv1, i_vv2, i_vv3, i_vg, i_wct, i_wln, i_sd0, i_sd1, i_sd2, i_sd3, i_rln, i_rtx, i_rpl, i_rtk, i_cnv, i_pts, i_cik, i_und⟩) (j_cV (k := 2) (C := "PageScribe$Stack") hts k_4_86 k_1_3 k_4_83 k_4_85 k_0_22 (by decide +kernel) ⟨Nat.le_of_ble_eq_true rfl, Nat.le_of_ble_eq_true rfl⟩) (j_preV (q0 := 1) (ci := 0) hK hP hD csc csc_all csc_nd cl_0 (ce_1 _ _ _) (fun _ _ _ _ h => h) (fun _ _ _ => trivial)) rfl rfl hl.1 rfl (lv_room (Nat.le_of_ble_eq_true rfl)) d_Stack_roll_59 ⟨Nat.le_of_ble_eq_true rfl, Nat.le_of_ble_eq_true rfl⟩) (fun S2 H locs hw5 hP hD hS => ?_)
        have hP : va_P D classes (cW T ad S2) H := hP
        have hD : va_D A (cW T ad S2) := hD
        obtain ⟨⟨i_vst, i_vc0, i_vc1, i_vc2, i_vc3, i_vv0, i_vv1, i_vv2, i_vv3, i_vg, i_wct, i_wln, i_sd0, i_sd1, i_sd2, i_sd3, i_rln, i_rtx, i_rpl, i_rtk, i_cnv, i_pts, i_cik, i_und⟩, kpcL_S2, kpcP_S2, kpcU_S2, kpcW_S2⟩ := hw5
        have kScL_S2 : kcL S S2 := kcL_t (show kcL S S1 from kScL_S1) kpcL_S2
        have kScP_S2 : kcP S S2 := kcP_t (show kcP S S1 from kScP_S1) kpcP_S2
        have kScU_S2 : kcU S S2 := kcU_t (show kcU S S1 from kScU_S1) kpcU_S2
        have kScW_S2 : kcW S S2 := kcW_t (show kcW S S1 from kScW_S1) kpcW_S2
        have nxr_length_S2 : (f_xr_length S2).toInt = (f_xr_length S1).toInt := congrArg Int32.toInt kpcL_S2
        have nxr_length_S2 : (f_xr_length S2).toInt = (f_xr_length S1).toInt := congrArg Int32.toInt kpcP_S2.1
        have nxr_place_S2 : (f_xr_place S2).toInt = (f_xr_place S1).toInt := congrArg Int32.toInt kpcP_S2.2.1
        have nxe_underWay_S2 : (f_xe_underWay S2).toInt = (f_xe_underWay S1).toInt := congrArg Int32.toInt kpcU_S2
        have nxp_columns_S2 : (f_xp_columns S2).toInt = (f_xp_columns S1).toInt := congrArg Int32.toInt kpcW_S2.1
        have nxp_rows_S2 : (f_xp_rows S2).toInt = (f_xp_rows S1).toInt := congrArg Int32.toInt kpcW_S2.2
        refine lv_aload_n hx hb d_Stack_roll_62 rfl (lv_at hl 4 rfl) ?_
        refine lv_iload_n hx hb d_Stack_roll_63 rfl (lv_at hl 1 rfl) ?_
        refine lv_iload_n hx hb d_Stack_roll_64 rfl (lv_at hl 1 rfl) ?_
        refine lv_iload hx hb d_Stack_roll_65 (lv_at hl 0 rfl) ?_
        refine lv_iadd hx hb d_Stack_roll_67 ?_
        refine lv_topi (fun x4 ex4 => ?_)
        have rx4 := zt_rng x4
        refine lv_iconst (v := 1) hx hb d_Stack_roll_68 (by decide) ?_
        refine lv_isub hx hb d_Stack_roll_69 ?_
        refine lv_topi (fun x5 ex5 => ?_)
        have rx5 := zt_rng x5
        refine jc_cv (w := (fun u => u)) hK hP hD hS hA (va_runV (As := [.int x2, .int x5]) (rest := []) F (c_Stack_reverse l D T ad S2 x2 x5  H.size ⟨i_vst, i_vc0, i_vc1, i_vc2, i_vc3, i_vv0, i_vv1, i_vv2, i_vv3, i_vg, i_wct, i_wln, i_sd0, i_sd1, i_sd2, i_sd3, i_rln, i_rtx, i_rpl, i_rtk, i_cnv, i_pts, i_cik, i_und⟩) (j_cV (k := 2) (C := "PageScribe$Stack") hts k_4_86 k_1_3 k_4_83 k_4_85 k_0_22 (by decide +kernel) ⟨Nat.le_of_ble_eq_true rfl, Nat.le_of_ble_eq_true rfl⟩) (j_preV (q0 := 1) (ci := 0) hK hP hD csc csc_all csc_nd cl_0 (ce_1 _ _ _) (fun _ _ _ _ h => h) (fun _ _ _ => trivial)) rfl rfl hl.1 rfl (lv_room (Nat.le_of_ble_eq_true rfl)) d_Stack_roll_70 ⟨Nat.le_of_ble_eq_true rfl, Nat.le_of_ble_eq_true rfl⟩) (fun S3 H locs hw6 hP hD hS => ?_)
        have hP : va_P D classes (cW T ad S3) H := hP
        have hD : va_D A (cW T ad S3) := hD
        obtain ⟨⟨i_vst, i_vc0, i_vc1, i_vc2, i_vc3, i_vv0, i_vv1, i_vv2, i_vv3, i_vg, i_wct, i_wln, i_sd0, i_sd1, i_sd2, i_sd3, i_rln, i_rtx, i_rpl, i_rtk, i_cnv, i_pts, i_cik, i_und⟩, kpcL_S3, kpcP_S3, kpcU_S3, kpcW_S3⟩ := hw6
        have kScL_S3 : kcL S S3 := kcL_t (show kcL S S2 from kScL_S2) kpcL_S3
        have kScP_S3 : kcP S S3 := kcP_t (show kcP S S2 from kScP_S2) kpcP_S3
        have kScU_S3 : kcU S S3 := kcU_t (show kcU S S2 from kScU_S2) kpcU_S3
        have kScW_S3 : kcW S S3 := kcW_t (show kcW S S2 from kScW_S2) kpcW_S3
        have nxr_length_S3 : (f_xr_length S3).toInt = (f_xr_length S2).toInt := congrArg Int32.toInt kpcL_S3
        have nxr_length_S3 : (f_xr_length S3).toInt = (f_xr_length S2).toInt := congrArg Int32.toInt kpcP_S3.1
        have nxr_place_S3 : (f_xr_place S3).toInt = (f_xr_place S2).toInt := congrArg Int32.toInt kpcP_S3.2.1
        have nxe_underWay_S3 : (f_xe_underWay S3).toInt = (f_xe_underWay S2).toInt := congrArg Int32.toInt kpcU_S3
        have nxp_columns_S3 : (f_xp_columns S3).toInt = (f_xp_columns S2).toInt := congrArg Int32.toInt kpcW_S3.1
        have nxp_rows_S3 : (f_xp_rows S3).toInt = (f_xp_rows S2).toInt := congrArg Int32.toInt kpcW_S3.2
        refine lv_aload_n hx hb d_Stack_roll_73 rfl (lv_at hl 4 rfl) ?_
        refine lv_iload_n hx hb d_Stack_roll_74 rfl (lv_at hl 1 rfl) ?_
        refine lv_iload hx hb d_Stack_roll_75 (lv_at hl 0 rfl) ?_
        refine lv_iadd hx hb d_Stack_roll_77 ?_
        refine lv_topi (fun x6 ex6 => ?_)
        have rx6 := zt_rng x6
        refine lv_aload_n hx hb d_Stack_roll_78 rfl (lv_at hl 4 rfl) ?_
        refine va_get (D := D) (ci := 0) (v := .int (f_xst_z S3)) (C := "PageScribe$Stack") (T := F_Stack) (N := 4) hx hb hts i_Stack hown hK hP 1 (ce_1 _ _ _) cl_0 3 (by decide) (hts _ k_1_50) (fun x9 h9 => u_same (hts _ k_1_51) x9 h9) rfl d_Stack_roll_79 ?_
        refine lv_iconst (v := 1) hx hb d_Stack_roll_82 (by decide) ?_
        refine lv_isub hx hb d_Stack_roll_83 ?_
        refine lv_topi (fun x7 ex7 => ?_)
        have rx7 := zt_rng x7
        refine jc_cv (w := (fun u => u)) hK hP hD hS hA (va_runV (As := [.int x6, .int x7]) (rest := []) F (c_Stack_reverse l D T ad S3 x6 x7  H.size ⟨i_vst, i_vc0, i_vc1, i_vc2, i_vc3, i_vv0, i_vv1, i_vv2, i_vv3, i_vg, i_wct, i_wln, i_sd0, i_sd1, i_sd2, i_sd3, i_rln, i_rtx, i_rpl, i_rtk, i_cnv, i_pts, i_cik, i_und⟩) (j_cV (k := 2) (C := "PageScribe$Stack") hts k_4_86 k_1_3 k_4_83 k_4_85 k_0_22 (by decide +kernel) ⟨Nat.le_of_ble_eq_true rfl, Nat.le_of_ble_eq_true rfl⟩) (j_preV (q0 := 1) (ci := 0) hK hP hD csc csc_all csc_nd cl_0 (ce_1 _ _ _) (fun _ _ _ _ h => h) (fun _ _ _ => trivial)) rfl rfl hl.1 rfl (lv_room (Nat.le_of_ble_eq_true rfl)) d_Stack_roll_84 ⟨Nat.le_of_ble_eq_true rfl, Nat.le_of_ble_eq_true rfl⟩) (fun S4 H locs hw7 hP hD hS => ?_)
        have hP : va_P D classes (cW T ad S4) H := hP
        have hD : va_D A (cW T ad S4) := hD
        obtain ⟨⟨i_vst, i_vc0, i_vc1, i_vc2, i_vc3, i_vv0, i_vv1, i_vv2, i_vv3, i_vg, i_wct, i_wln, i_sd0, i_sd1, i_sd2, i_sd3, i_rln, i_rtx, i_rpl, i_rtk, i_cnv, i_pts, i_cik, i_und⟩, kpcL_S4, kpcP_S4, kpcU_S4, kpcW_S4⟩ := hw7
        have kScL_S4 : kcL S S4 := kcL_t (show kcL S S3 from kScL_S3) kpcL_S4
        have kScP_S4 : kcP S S4 := kcP_t (show kcP S S3 from kScP_S3) kpcP_S4
        have kScU_S4 : kcU S S4 := kcU_t (show kcU S S3 from kScU_S3) kpcU_S4
        have kScW_S4 : kcW S S4 := kcW_t (show kcW S S3 from kScW_S3) kpcW_S4
        have nxr_length_S4 : (f_xr_length S4).toInt = (f_xr_length S3).toInt := congrArg Int32.toInt kpcL_S4
        have nxr_length_S4 : (f_xr_length S4).toInt = (f_xr_length S3).toInt := congrArg Int32.toInt kpcP_S4.1
        have nxr_place_S4 : (f_xr_place S4).toInt = (f_xr_place S3).toInt := congrArg Int32.toInt kpcP_S4.2.1
        have nxe_underWay_S4 : (f_xe_underWay S4).toInt = (f_xe_underWay S3).toInt := congrArg Int32.toInt kpcU_S4
        have nxp_columns_S4 : (f_xp_columns S4).toInt = (f_xp_columns S3).toInt := congrArg Int32.toInt kpcW_S4.1
        have nxp_rows_S4 : (f_xp_rows S4).toInt = (f_xp_rows S3).toInt := congrArg Int32.toInt kpcW_S4.2
        refine lv_iconst (v := 0) hx hb d_Stack_roll_87 (by decide) ?_
        exact j_iret F hr hlocks hK hS S4 ⟨⟨i_vst, i_vc0, i_vc1, i_vc2, i_vc3, i_vv0, i_vv1, i_vv2, i_vv3, i_vg, i_wct, i_wln, i_sd0, i_sd1, i_sd2, i_sd3, i_rln, i_rtx, i_rpl, i_rtk, i_cnv, i_pts, i_cik, i_und⟩, kScL_S4, kScP_S4, kScU_S4, kScW_S4⟩ hP hD d_Stack_roll_88
    · have fc23_1 : x1.toInt < rv1.toInt := Int.not_le.mp (zt_nle (show rv1.toInt = _ from rfl) (show x1.toInt = _ from rfl) c23_1)
      refine lv_iconst (v := 4) hx hb d_Stack_roll_26 (by decide) ?_
      exact j_iret F hr hlocks hK hS S ⟨⟨i_vst, i_vc0, i_vc1, i_vc2, i_vc3, i_vv0, i_vv1, i_vv2, i_vv3, i_vg, i_wct, i_wln, i_sd0, i_sd1, i_sd2, i_sd3, i_rln, i_rtx, i_rpl, i_rtk, i_cnv, i_pts, i_cik, i_und⟩, (kcL_r S), (kcP_r S), (kcU_r S), (kcW_r S)⟩ hP hD d_Stack_roll_27
theorem d_Stack_shuffle_0 : decode prog_9_method_14_code 0 = .ok (.getstatic 63, 3) := by decide +kernel
theorem k_4_34 : Cond.fieldLink "PageScribe$Stack" 63 "PageScribe$1" "$SwitchMap$PageScribe$Op" "[I" ∈ gw := gw_of (tb_4 (List.mem_of_getElem? (i := 34) (by decide +kernel))) (by decide +kernel)
theorem d_Stack_shuffle_3 : decode prog_9_method_14_code 3 = .ok (.aload_n 1, 1) := by decide +kernel
theorem d_Stack_shuffle_4 : decode prog_9_method_14_code 4 = .ok (.invokevirtual 69, 3) := by decide +kernel
theorem k_4_41 : Cond.code ⟨"java/lang/Enum", "ordinal", "()I"⟩ prog_17_method_2_code 1 (some .int) ∈ gw := gw_of (tb_4 (List.mem_of_getElem? (i := 41) (by decide +kernel))) (by decide +kernel)
theorem k_1_24 : Cond.initialized "java/lang/Enum" ∈ gw := gw_of (tb_1 (List.mem_of_getElem? (i := 24) (by decide +kernel))) (by decide +kernel)
theorem k_4_36 : Cond.methodLink "PageScribe$Stack" 69 ⟨"PageScribe$Op", "ordinal", "()I"⟩ ∈ gw := gw_of (tb_4 (List.mem_of_getElem? (i := 36) (by decide +kernel))) (by decide +kernel)
theorem k_4_37 : Cond.sameMethod "PageScribe$Op" "java/lang/Enum" "ordinal" "()I" ∈ gw := gw_of (tb_4 (List.mem_of_getElem? (i := 37) (by decide +kernel))) (by decide +kernel)
theorem k_4_39 : Cond.selects "PageScribe$Op" ⟨"PageScribe$Op", "ordinal", "()I"⟩ ⟨"java/lang/Enum", "ordinal", "()I"⟩ ∈ gw := gw_of (tb_4 (List.mem_of_getElem? (i := 39) (by decide +kernel))) (by decide +kernel)
theorem k_4_40 : Cond.instanceMethod ⟨"java/lang/Enum", "ordinal", "()I"⟩ ∈ gw := gw_of (tb_4 (List.mem_of_getElem? (i := 40) (by decide +kernel))) (by decide +kernel)
theorem d_Stack_shuffle_7 : decode prog_9_method_14_code 7 = .ok (.iaload, 1) := by decide +kernel
theorem d_Stack_shuffle_8 : decode prog_9_method_14_code 8 = .ok (.tableswitch 125 1 9 #[52, 59, 77, 89, 94, 99, 104, 111, 120], 52) := by decide +kernel
theorem d_Stack_shuffle_60 : decode prog_9_method_14_code 60 = .ok (.aload_n 0, 1) := by decide +kernel
theorem d_Stack_shuffle_61 : decode prog_9_method_14_code 61 = .ok (.iconst 1, 1) := by decide +kernel
theorem d_Stack_shuffle_62 : decode prog_9_method_14_code 62 = .ok (.invokevirtual 39, 3) := by decide +kernel
theorem d_Stack_shuffle_65 : decode prog_9_method_14_code 65 = .ok (.iconst 0, 1) := by decide +kernel
theorem d_Stack_shuffle_66 : decode prog_9_method_14_code 66 = .ok (.ireturn, 1) := by decide +kernel
theorem d_Stack_shuffle_67 : decode prog_9_method_14_code 67 = .ok (.aload_n 0, 1) := by decide +kernel
theorem d_Stack_shuffle_68 : decode prog_9_method_14_code 68 = .ok (.aload_n 0, 1) := by decide +kernel
theorem d_Stack_shuffle_69 : decode prog_9_method_14_code 69 = .ok (.getfield 9, 3) := by decide +kernel
theorem d_Stack_shuffle_72 : decode prog_9_method_14_code 72 = .ok (.iconst 1, 1) := by decide +kernel
theorem d_Stack_shuffle_73 : decode prog_9_method_14_code 73 = .ok (.isub, 1) := by decide +kernel
theorem d_Stack_shuffle_74 : decode prog_9_method_14_code 74 = .ok (.aload_n 0, 1) := by decide +kernel
theorem d_Stack_shuffle_75 : decode prog_9_method_14_code 75 = .ok (.getfield 9, 3) := by decide +kernel
theorem d_Stack_shuffle_78 : decode prog_9_method_14_code 78 = .ok (.iconst 2, 1) := by decide +kernel
theorem d_Stack_shuffle_79 : decode prog_9_method_14_code 79 = .ok (.isub, 1) := by decide +kernel
theorem d_Stack_shuffle_80 : decode prog_9_method_14_code 80 = .ok (.invokevirtual 74, 3) := by decide +kernel
theorem d_Stack_shuffle_83 : decode prog_9_method_14_code 83 = .ok (.iconst 0, 1) := by decide +kernel
theorem d_Stack_shuffle_84 : decode prog_9_method_14_code 84 = .ok (.ireturn, 1) := by decide +kernel
theorem d_Stack_shuffle_85 : decode prog_9_method_14_code 85 = .ok (.aload_n 0, 1) := by decide +kernel
theorem d_Stack_shuffle_86 : decode prog_9_method_14_code 86 = .ok (.aload_n 0, 1) := by decide +kernel
theorem d_Stack_shuffle_87 : decode prog_9_method_14_code 87 = .ok (.aload_n 0, 1) := by decide +kernel
theorem d_Stack_shuffle_88 : decode prog_9_method_14_code 88 = .ok (.getfield 9, 3) := by decide +kernel
theorem d_Stack_shuffle_91 : decode prog_9_method_14_code 91 = .ok (.iconst 1, 1) := by decide +kernel
theorem d_Stack_shuffle_92 : decode prog_9_method_14_code 92 = .ok (.isub, 1) := by decide +kernel
theorem d_Stack_shuffle_93 : decode prog_9_method_14_code 93 = .ok (.invokevirtual 78, 3) := by decide +kernel
theorem d_Stack_shuffle_96 : decode prog_9_method_14_code 96 = .ok (.ireturn, 1) := by decide +kernel
theorem d_Stack_shuffle_97 : decode prog_9_method_14_code 97 = .ok (.aload_n 0, 1) := by decide +kernel
theorem d_Stack_shuffle_98 : decode prog_9_method_14_code 98 = .ok (.invokevirtual 82, 3) := by decide +kernel
theorem k_4_70 : Cond.code ⟨"PageScribe$Stack", "copyBelow", "()I"⟩ prog_9_method_15_code 4 (some .int) ∈ gw := gw_of (tb_4 (List.mem_of_getElem? (i := 70) (by decide +kernel))) (by decide +kernel)
theorem k_4_67 : Cond.methodLink "PageScribe$Stack" 82 ⟨"PageScribe$Stack", "copyBelow", "()I"⟩ ∈ gw := gw_of (tb_4 (List.mem_of_getElem? (i := 67) (by decide +kernel))) (by decide +kernel)
theorem k_4_69 : Cond.instanceMethod ⟨"PageScribe$Stack", "copyBelow", "()I"⟩ ∈ gw := gw_of (tb_4 (List.mem_of_getElem? (i := 69) (by decide +kernel))) (by decide +kernel)
theorem k_0_19 : Cond.selects "PageScribe$Stack" ⟨"PageScribe$Stack", "copyBelow", "()I"⟩ ⟨"PageScribe$Stack", "copyBelow", "()I"⟩ ∈ gw := gw_of (tb_0 (List.mem_of_getElem? (i := 19) (by decide +kernel))) (by decide +kernel)
theorem d_Stack_shuffle_101 : decode prog_9_method_14_code 101 = .ok (.ireturn, 1) := by decide +kernel
theorem d_Stack_shuffle_102 : decode prog_9_method_14_code 102 = .ok (.aload_n 0, 1) := by decide +kernel
theorem d_Stack_shuffle_103 : decode prog_9_method_14_code 103 = .ok (.invokevirtual 85, 3) := by decide +kernel
theorem k_4_75 : Cond.code ⟨"PageScribe$Stack", "pickBelow", "()I"⟩ prog_9_method_16_code 2 (some .int) ∈ gw := gw_of (tb_4 (List.mem_of_getElem? (i := 75) (by decide +kernel))) (by decide +kernel)
theorem k_4_72 : Cond.methodLink "PageScribe$Stack" 85 ⟨"PageScribe$Stack", "pickBelow", "()I"⟩ ∈ gw := gw_of (tb_4 (List.mem_of_getElem? (i := 72) (by decide +kernel))) (by decide +kernel)
theorem k_4_74 : Cond.instanceMethod ⟨"PageScribe$Stack", "pickBelow", "()I"⟩ ∈ gw := gw_of (tb_4 (List.mem_of_getElem? (i := 74) (by decide +kernel))) (by decide +kernel)
theorem k_0_20 : Cond.selects "PageScribe$Stack" ⟨"PageScribe$Stack", "pickBelow", "()I"⟩ ⟨"PageScribe$Stack", "pickBelow", "()I"⟩ ∈ gw := gw_of (tb_0 (List.mem_of_getElem? (i := 20) (by decide +kernel))) (by decide +kernel)
theorem d_Stack_shuffle_106 : decode prog_9_method_14_code 106 = .ok (.ireturn, 1) := by decide +kernel
theorem d_Stack_shuffle_107 : decode prog_9_method_14_code 107 = .ok (.aload_n 0, 1) := by decide +kernel
theorem d_Stack_shuffle_108 : decode prog_9_method_14_code 108 = .ok (.invokevirtual 88, 3) := by decide +kernel
theorem k_4_79 : Cond.code ⟨"PageScribe$Stack", "roll", "()I"⟩ prog_9_method_17_code 5 (some .int) ∈ gw := gw_of (tb_4 (List.mem_of_getElem? (i := 79) (by decide +kernel))) (by decide +kernel)
theorem k_4_76 : Cond.methodLink "PageScribe$Stack" 88 ⟨"PageScribe$Stack", "roll", "()I"⟩ ∈ gw := gw_of (tb_4 (List.mem_of_getElem? (i := 76) (by decide +kernel))) (by decide +kernel)
theorem k_4_78 : Cond.instanceMethod ⟨"PageScribe$Stack", "roll", "()I"⟩ ∈ gw := gw_of (tb_4 (List.mem_of_getElem? (i := 78) (by decide +kernel))) (by decide +kernel)
theorem k_0_21 : Cond.selects "PageScribe$Stack" ⟨"PageScribe$Stack", "roll", "()I"⟩ ⟨"PageScribe$Stack", "roll", "()I"⟩ ∈ gw := gw_of (tb_0 (List.mem_of_getElem? (i := 21) (by decide +kernel))) (by decide +kernel)
theorem d_Stack_shuffle_111 : decode prog_9_method_14_code 111 = .ok (.ireturn, 1) := by decide +kernel
theorem d_Stack_shuffle_112 : decode prog_9_method_14_code 112 = .ok (.aload_n 0, 1) := by decide +kernel
theorem d_Stack_shuffle_113 : decode prog_9_method_14_code 113 = .ok (.iconst 0, 1) := by decide +kernel
theorem d_Stack_shuffle_114 : decode prog_9_method_14_code 114 = .ok (.putfield 9, 3) := by decide +kernel
theorem d_Stack_shuffle_117 : decode prog_9_method_14_code 117 = .ok (.iconst 0, 1) := by decide +kernel
theorem d_Stack_shuffle_118 : decode prog_9_method_14_code 118 = .ok (.ireturn, 1) := by decide +kernel
theorem d_Stack_shuffle_119 : decode prog_9_method_14_code 119 = .ok (.aload_n 0, 1) := by decide +kernel
theorem d_Stack_shuffle_120 : decode prog_9_method_14_code 120 = .ok (.aload_n 0, 1) := by decide +kernel
theorem d_Stack_shuffle_121 : decode prog_9_method_14_code 121 = .ok (.getfield 9, 3) := by decide +kernel
theorem d_Stack_shuffle_124 : decode prog_9_method_14_code 124 = .ok (.invokevirtual 91, 3) := by decide +kernel
theorem k_4_90 : Cond.code ⟨"PageScribe$Stack", "pushInt", "(I)I"⟩ prog_9_method_7_code 2 (some .int) ∈ gw := gw_of (tb_4 (List.mem_of_getElem? (i := 90) (by decide +kernel))) (by decide +kernel)
theorem k_4_87 : Cond.methodLink "PageScribe$Stack" 91 ⟨"PageScribe$Stack", "pushInt", "(I)I"⟩ ∈ gw := gw_of (tb_4 (List.mem_of_getElem? (i := 87) (by decide +kernel))) (by decide +kernel)
theorem k_4_88 : Cond.instanceMethod ⟨"PageScribe$Stack", "pushInt", "(I)I"⟩ ∈ gw := gw_of (tb_4 (List.mem_of_getElem? (i := 88) (by decide +kernel))) (by decide +kernel)
theorem k_4_89 : Cond.selects "PageScribe$Stack" ⟨"PageScribe$Stack", "pushInt", "(I)I"⟩ ⟨"PageScribe$Stack", "pushInt", "(I)I"⟩ ∈ gw := gw_of (tb_4 (List.mem_of_getElem? (i := 89) (by decide +kernel))) (by decide +kernel)
theorem d_Stack_shuffle_127 : decode prog_9_method_14_code 127 = .ok (.ireturn, 1) := by decide +kernel
theorem d_Stack_shuffle_128 : decode prog_9_method_14_code 128 = .ok (.aload_n 0, 1) := by decide +kernel
theorem d_Stack_shuffle_129 : decode prog_9_method_14_code 129 = .ok (.invokevirtual 94, 3) := by decide +kernel
theorem k_4_95 : Cond.code ⟨"PageScribe$Stack", "clearToMark", "()I"⟩ prog_9_method_20_code 2 (some .int) ∈ gw := gw_of (tb_4 (List.mem_of_getElem? (i := 95) (by decide +kernel))) (by decide +kernel)
theorem k_4_92 : Cond.methodLink "PageScribe$Stack" 94 ⟨"PageScribe$Stack", "clearToMark", "()I"⟩ ∈ gw := gw_of (tb_4 (List.mem_of_getElem? (i := 92) (by decide +kernel))) (by decide +kernel)
theorem k_4_94 : Cond.instanceMethod ⟨"PageScribe$Stack", "clearToMark", "()I"⟩ ∈ gw := gw_of (tb_4 (List.mem_of_getElem? (i := 94) (by decide +kernel))) (by decide +kernel)
theorem k_0_23 : Cond.selects "PageScribe$Stack" ⟨"PageScribe$Stack", "clearToMark", "()I"⟩ ⟨"PageScribe$Stack", "clearToMark", "()I"⟩ ∈ gw := gw_of (tb_0 (List.mem_of_getElem? (i := 23) (by decide +kernel))) (by decide +kernel)
theorem d_Stack_shuffle_132 : decode prog_9_method_14_code 132 = .ok (.ireturn, 1) := by decide +kernel
theorem d_Stack_shuffle_133 : decode prog_9_method_14_code 133 = .ok (.aload_n 0, 1) := by decide +kernel
theorem d_Stack_shuffle_134 : decode prog_9_method_14_code 134 = .ok (.iconst 4, 1) := by decide +kernel
theorem d_Stack_shuffle_135 : decode prog_9_method_14_code 135 = .ok (.iconst 0, 1) := by decide +kernel
theorem d_Stack_shuffle_136 : decode prog_9_method_14_code 136 = .ok (.dconst 0, 1) := by decide +kernel
theorem d_Stack_shuffle_137 : decode prog_9_method_14_code 137 = .ok (.invokevirtual 35, 3) := by decide +kernel
theorem d_Stack_shuffle_140 : decode prog_9_method_14_code 140 = .ok (.ireturn, 1) := by decide +kernel
set_option maxHeartbeats 4000000 in
set_option maxRecDepth 100000 in
theorem c_Stack_shuffle (l : Launch) (D : va_G) (T : Nat → ClassId) (ad : Nat → Nat) (g : GE) (Bq : Nat → Prop) (S : CS) (op : Nat) (sz : Nat) (hi_op : op < 72) (hI : CIv S) : Met l ⟨"PageScribe$Stack", "shuffle", "(LPageScribe$Op;)I"⟩ (wy ⟨"PageScribe$Stack", "shuffle", "(LPageScribe$Op;)I"⟩ prog_9_method_14_code 2 (some .int)) ({ frames := 4, cells := 0, slots := 0, locals := 280 }) (va_Pc [.ref (ad 1), .ref (g_en g op)] (Pw D T (cW T ad S) sz (EC g Bq ad))) (va_Qi (fun (r : Int32) (u : CS) => CIv u ∧ kcL S u ∧ kcP S u ∧ kcU S u ∧ kcW S u) (fun u t => Bw D T (va_A (cW T ad S) sz) (cW T ad u) t) (va_A (cW T ad S) sz)) 0 0 (va_A (cW T ad S) sz) := by
  refine j_met (y := ⟨"PageScribe$Stack", "shuffle", "(LPageScribe$Op;)I"⟩) (b := prog_9_method_14_code) (n := 2) (ret := (some .int)) (av := [.ref (ad 1), .ref (g_en g op)]) (Qc := fun A => va_Qi (fun (r : Int32) (u : CS) => CIv u ∧ kcL S u ∧ kcP S u ∧ kcU S u ∧ kcW S u) (fun u t => Bw D T A (cW T ad u) t) A) (by decide +kernel) (Nat.le_of_ble_eq_true rfl) (fun p e s m args below meth c A ls F hr hlocks hnm hK hP hD hS hA hN hE hl => ?_)
  obtain ⟨hx, hb, hml, hown, hts⟩ := id F
  have hl : lv_has ls 2 [(0, .ref (ad 1)), (1, .ref (g_en g op))] := hl
  obtain ⟨i_vst, i_vc0, i_vc1, i_vc2, i_vc3, i_vv0, i_vv1, i_vv2, i_vv3, i_vg, i_wct, i_wln, i_sd0, i_sd1, i_sd2, i_sd3, i_rln, i_rtx, i_rpl, i_rtk, i_cnv, i_pts, i_cik, i_und⟩ := id hI
  have hAB : ∀ q, A q → Bq q := EC.ab hE hN
  have hEV := hE.1.narrow hAB
  refine va_gets hx hb hEV.2.2.1.1 hS hown (hts _ k_4_34) (fun _ h9 => h9) d_Stack_shuffle_0 ?_
  refine lv_aload_n hx hb d_Stack_shuffle_3 rfl (lv_at hl 1 rfl) ?_
  refine jc_ci (w := (fun _ => S)) hK hP hD hS hA (va_runU (As := []) (rest := [.ref (g_tS g)]) F (c_Enum_ordinal l D T ad g Bq S op  s.heap.size hi_op) (j_cU (k := 0) (C := "PageScribe$Op") (owner := "java/lang/Enum") (x := ⟨"PageScribe$Op", "ordinal", "()I"⟩) hts k_4_41 k_4_36 k_4_37 k_4_39 k_4_40 k_1_24 rfl (by decide +kernel) ⟨Nat.le_of_ble_eq_true rfl, Nat.le_of_ble_eq_true rfl⟩) (jc_preO (j_preS hK hP hD csc csc_all csc_nd (fun _ _ _ _ h => EC.calling h) (fun U hU hW => EC.at hS hAB hU hW hE)) (hEV.1 _ hi_op).1.1 hS) rfl rfl hl.1 rfl (lv_room (Nat.le_of_ble_eq_true rfl)) d_Stack_shuffle_4 ⟨Nat.le_of_ble_eq_true rfl, Nat.le_of_ble_eq_true rfl⟩) (fun rv1 u1 H locs hw1 hP hD hS => ?_)
  have hP : va_P D classes (cW T ad S) H := hP
  have hD : va_D A (cW T ad S) := hD
  have qhw1 : rv1.toInt = (op : Int) := hw1
  have rrv1 := zt_rng rv1
  refine va_ti hx hb hEV.2.2.1.2 hS (zt_in (show rv1.toInt = _ from rfl) (by omega) (by omega)) rfl d_Stack_shuffle_7 ?_
  refine lv_topi (fun x1 ex1 => ?_)
  have rx1 := zt_rng x1
  by_cases h_1_1 : x1.toInt = 1
  · refine lv_tableIn (off := 52) (tgt := 60) hx hb d_Stack_shuffle_8 (by omega) (by omega) (by rw [show x1.toInt = 1 from h_1_1]; decide +kernel) (by decide) ?_
    refine lv_aload_n hx hb d_Stack_shuffle_60 rfl (lv_at hl 0 rfl) ?_
    refine lv_iconst (v := 1) hx hb d_Stack_shuffle_61 (by decide) ?_
    refine jc_cv (w := (fun u => u)) hK hP hD hS hA (va_runU (As := [.int 1]) (rest := []) F (c_Row_drop l D T ad S (1 : Int32)  H.size ⟨i_vst, i_vc0, i_vc1, i_vc2, i_vc3, i_vv0, i_vv1, i_vv2, i_vv3, i_vg, i_wct, i_wln, i_sd0, i_sd1, i_sd2, i_sd3, i_rln, i_rtx, i_rpl, i_rtk, i_cnv, i_pts, i_cik, i_und⟩) (j_cU (k := 1) (C := "PageScribe$Stack") (owner := "PageScribe$Row") (x := ⟨"PageScribe$Stack", "drop", "(I)V"⟩) hts k_4_47 k_4_42 k_4_43 k_4_45 k_4_46 k_1_2 rfl (by decide +kernel) ⟨Nat.le_of_ble_eq_true rfl, Nat.le_of_ble_eq_true rfl⟩) (j_preV (q0 := 1) (ci := 0) hK hP hD csc csc_all csc_nd cl_0 (ce_1 _ _ _) (fun _ _ _ _ h => h) (fun _ _ _ => trivial)) rfl rfl hl.1 rfl (lv_room (Nat.le_of_ble_eq_true rfl)) d_Stack_shuffle_62 ⟨Nat.le_of_ble_eq_true rfl, Nat.le_of_ble_eq_true rfl⟩) (fun S1 H locs hw2 hP hD hS => ?_)
    have hP : va_P D classes (cW T ad S1) H := hP
    have hD : va_D A (cW T ad S1) := hD
    obtain ⟨⟨i_vst, i_vc0, i_vc1, i_vc2, i_vc3, i_vv0, i_vv1, i_vv2, i_vv3, i_vg, i_wct, i_wln, i_sd0, i_sd1, i_sd2, i_sd3, i_rln, i_rtx, i_rpl, i_rtk, i_cnv, i_pts, i_cik, i_und⟩, kpcL_S1, kpcP_S1, kpcU_S1, kpcW_S1⟩ := hw2
    have kScL_S1 : kcL S S1 := kcL_t (show kcL S S from (kcL_r S)) kpcL_S1
    have kScP_S1 : kcP S S1 := kcP_t (show kcP S S from (kcP_r S)) kpcP_S1
    have kScU_S1 : kcU S S1 := kcU_t (show kcU S S from (kcU_r S)) kpcU_S1
    have kScW_S1 : kcW S S1 := kcW_t (show kcW S S from (kcW_r S)) kpcW_S1
    have nxr_length_S1 : (f_xr_length S1).toInt = (f_xr_length S).toInt := congrArg Int32.toInt kpcL_S1
    have nxr_length_S1 : (f_xr_length S1).toInt = (f_xr_length S).toInt := congrArg Int32.toInt kpcP_S1.1
    have nxr_place_S1 : (f_xr_place S1).toInt = (f_xr_place S).toInt := congrArg Int32.toInt kpcP_S1.2.1
    have nxe_underWay_S1 : (f_xe_underWay S1).toInt = (f_xe_underWay S).toInt := congrArg Int32.toInt kpcU_S1
    have nxp_columns_S1 : (f_xp_columns S1).toInt = (f_xp_columns S).toInt := congrArg Int32.toInt kpcW_S1.1
    have nxp_rows_S1 : (f_xp_rows S1).toInt = (f_xp_rows S).toInt := congrArg Int32.toInt kpcW_S1.2
    refine lv_iconst (v := 0) hx hb d_Stack_shuffle_65 (by decide) ?_
    exact j_iret F hr hlocks hK hS S1 ⟨⟨i_vst, i_vc0, i_vc1, i_vc2, i_vc3, i_vv0, i_vv1, i_vv2, i_vv3, i_vg, i_wct, i_wln, i_sd0, i_sd1, i_sd2, i_sd3, i_rln, i_rtx, i_rpl, i_rtk, i_cnv, i_pts, i_cik, i_und⟩, kScL_S1, kScP_S1, kScU_S1, kScW_S1⟩ hP hD d_Stack_shuffle_66
  by_cases h_2_1 : x1.toInt = 2
  · refine lv_tableIn (off := 59) (tgt := 67) hx hb d_Stack_shuffle_8 (by omega) (by omega) (by rw [show x1.toInt = 2 from h_2_1]; decide +kernel) (by decide) ?_
    refine lv_aload_n hx hb d_Stack_shuffle_67 rfl (lv_at hl 0 rfl) ?_
    refine lv_aload_n hx hb d_Stack_shuffle_68 rfl (lv_at hl 0 rfl) ?_
    refine va_get (D := D) (ci := 0) (v := .int (f_xst_z S)) (C := "PageScribe$Stack") (T := F_Stack) (N := 4) hx hb hts i_Stack hown hK hP 1 (ce_1 _ _ _) cl_0 3 (by decide) (hts _ k_1_50) (fun x9 h9 => u_same (hts _ k_1_51) x9 h9) rfl d_Stack_shuffle_69 ?_
    refine lv_iconst (v := 1) hx hb d_Stack_shuffle_72 (by decide) ?_
    refine lv_isub hx hb d_Stack_shuffle_73 ?_
    refine lv_topi (fun x2 ex2 => ?_)
    have rx2 := zt_rng x2
    refine lv_aload_n hx hb d_Stack_shuffle_74 rfl (lv_at hl 0 rfl) ?_
    refine va_get (D := D) (ci := 0) (v := .int (f_xst_z S)) (C := "PageScribe$Stack") (T := F_Stack) (N := 4) hx hb hts i_Stack hown hK hP 1 (ce_1 _ _ _) cl_0 3 (by decide) (hts _ k_1_50) (fun x9 h9 => u_same (hts _ k_1_51) x9 h9) rfl d_Stack_shuffle_75 ?_
    refine lv_iconst (v := 2) hx hb d_Stack_shuffle_78 (by decide) ?_
    refine lv_isub hx hb d_Stack_shuffle_79 ?_
    refine lv_topi (fun x3 ex3 => ?_)
    have rx3 := zt_rng x3
    refine jc_cv (w := (fun u => u)) hK hP hD hS hA (va_runV (As := [.int x2, .int x3]) (rest := []) F (c_Stack_swap l D T ad S x2 x3  H.size ⟨i_vst, i_vc0, i_vc1, i_vc2, i_vc3, i_vv0, i_vv1, i_vv2, i_vv3, i_vg, i_wct, i_wln, i_sd0, i_sd1, i_sd2, i_sd3, i_rln, i_rtx, i_rpl, i_rtk, i_cnv, i_pts, i_cik, i_und⟩) (j_cV (k := 2) (C := "PageScribe$Stack") hts k_4_52 k_1_3 k_4_49 k_4_51 k_0_18 (by decide +kernel) ⟨Nat.le_of_ble_eq_true rfl, Nat.le_of_ble_eq_true rfl⟩) (j_preV (q0 := 1) (ci := 0) hK hP hD csc csc_all csc_nd cl_0 (ce_1 _ _ _) (fun _ _ _ _ h => h) (fun _ _ _ => trivial)) rfl rfl hl.1 rfl (lv_room (Nat.le_of_ble_eq_true rfl)) d_Stack_shuffle_80 ⟨Nat.le_of_ble_eq_true rfl, Nat.le_of_ble_eq_true rfl⟩) (fun S2 H locs hw3 hP hD hS => ?_)
    have hP : va_P D classes (cW T ad S2) H := hP
    have hD : va_D A (cW T ad S2) := hD
    obtain ⟨⟨i_vst, i_vc0, i_vc1, i_vc2, i_vc3, i_vv0, i_vv1, i_vv2, i_vv3, i_vg, i_wct, i_wln, i_sd0, i_sd1, i_sd2, i_sd3, i_rln, i_rtx, i_rpl, i_rtk, i_cnv, i_pts, i_cik, i_und⟩, kpcL_S2, kpcP_S2, kpcU_S2, kpcW_S2⟩ := hw3
    have kScL_S2 : kcL S S2 := kcL_t (show kcL S S from (kcL_r S)) kpcL_S2
    have kScP_S2 : kcP S S2 := kcP_t (show kcP S S from (kcP_r S)) kpcP_S2
    have kScU_S2 : kcU S S2 := kcU_t (show kcU S S from (kcU_r S)) kpcU_S2
    have kScW_S2 : kcW S S2 := kcW_t (show kcW S S from (kcW_r S)) kpcW_S2
    have nxr_length_S2 : (f_xr_length S2).toInt = (f_xr_length S).toInt := congrArg Int32.toInt kpcL_S2
    have nxr_length_S2 : (f_xr_length S2).toInt = (f_xr_length S).toInt := congrArg Int32.toInt kpcP_S2.1
    have nxr_place_S2 : (f_xr_place S2).toInt = (f_xr_place S).toInt := congrArg Int32.toInt kpcP_S2.2.1
    have nxe_underWay_S2 : (f_xe_underWay S2).toInt = (f_xe_underWay S).toInt := congrArg Int32.toInt kpcU_S2
    have nxp_columns_S2 : (f_xp_columns S2).toInt = (f_xp_columns S).toInt := congrArg Int32.toInt kpcW_S2.1
    have nxp_rows_S2 : (f_xp_rows S2).toInt = (f_xp_rows S).toInt := congrArg Int32.toInt kpcW_S2.2
    refine lv_iconst (v := 0) hx hb d_Stack_shuffle_83 (by decide) ?_
    exact j_iret F hr hlocks hK hS S2 ⟨⟨i_vst, i_vc0, i_vc1, i_vc2, i_vc3, i_vv0, i_vv1, i_vv2, i_vv3, i_vg, i_wct, i_wln, i_sd0, i_sd1, i_sd2, i_sd3, i_rln, i_rtx, i_rpl, i_rtk, i_cnv, i_pts, i_cik, i_und⟩, kScL_S2, kScP_S2, kScU_S2, kScW_S2⟩ hP hD d_Stack_shuffle_84
  by_cases h_3_1 : x1.toInt = 3
  · refine lv_tableIn (off := 77) (tgt := 85) hx hb d_Stack_shuffle_8 (by omega) (by omega) (by rw [show x1.toInt = 3 from h_3_1]; decide +kernel) (by decide) ?_
    refine lv_aload_n hx hb d_Stack_shuffle_85 rfl (lv_at hl 0 rfl) ?_
    refine lv_aload_n hx hb d_Stack_shuffle_86 rfl (lv_at hl 0 rfl) ?_
    refine lv_aload_n hx hb d_Stack_shuffle_87 rfl (lv_at hl 0 rfl) ?_
    refine va_get (D := D) (ci := 0) (v := .int (f_xst_z S)) (C := "PageScribe$Stack") (T := F_Stack) (N := 4) hx hb hts i_Stack hown hK hP 1 (ce_1 _ _ _) cl_0 3 (by decide) (hts _ k_1_50) (fun x9 h9 => u_same (hts _ k_1_51) x9 h9) rfl d_Stack_shuffle_88 ?_
    refine lv_iconst (v := 1) hx hb d_Stack_shuffle_91 (by decide) ?_
    refine lv_isub hx hb d_Stack_shuffle_92 ?_
    refine lv_topi (fun x4 ex4 => ?_)
    have rx4 := zt_rng x4
    refine jc_ci (w := (fun u => u)) hK hP hD hS hA (va_runU (As := [.ref (ad 1), .int x4]) (rest := []) F (c_Row_pushFrom_1_1 l D T ad S x4  H.size ⟨i_vst, i_vc0, i_vc1, i_vc2, i_vc3, i_vv0, i_vv1, i_vv2, i_vv3, i_vg, i_wct, i_wln, i_sd0, i_sd1, i_sd2, i_sd3, i_rln, i_rtx, i_rpl, i_rtk, i_cnv, i_pts, i_cik, i_und⟩) (j_cU (k := 2) (C := "PageScribe$Stack") (owner := "PageScribe$Row") (x := ⟨"PageScribe$Stack", "pushFrom", "(LPageScribe$Row;I)I"⟩) hts k_3_96 k_4_63 k_4_64 k_4_66 k_3_92 k_1_2 rfl (by decide +kernel) ⟨Nat.le_of_ble_eq_true rfl, Nat.le_of_ble_eq_true rfl⟩) (j_preV (q0 := 1) (ci := 0) hK hP hD csc csc_all csc_nd cl_0 (ce_1 _ _ _) (fun _ _ _ _ h => h) (fun _ _ _ => trivial)) rfl rfl hl.1 rfl (lv_room (Nat.le_of_ble_eq_true rfl)) d_Stack_shuffle_93 ⟨Nat.le_of_ble_eq_true rfl, Nat.le_of_ble_eq_true rfl⟩) (fun rv4 S3 H locs hw4 hP hD hS => ?_)
    have hP : va_P D classes (cW T ad S3) H := hP
    have hD : va_D A (cW T ad S3) := hD
    obtain ⟨⟨i_vst, i_vc0, i_vc1, i_vc2, i_vc3, i_vv0, i_vv1, i_vv2, i_vv3, i_vg, i_wct, i_wln, i_sd0, i_sd1, i_sd2, i_sd3, i_rln, i_rtx, i_rpl, i_rtk, i_cnv, i_pts, i_cik, i_und⟩, kpcL_S3, kpcP_S3, kpcU_S3, kpcW_S3⟩ := hw4
    have kScL_S3 : kcL S S3 := kcL_t (show kcL S S from (kcL_r S)) kpcL_S3
    have kScP_S3 : kcP S S3 := kcP_t (show kcP S S from (kcP_r S)) kpcP_S3
    have kScU_S3 : kcU S S3 := kcU_t (show kcU S S from (kcU_r S)) kpcU_S3
    have kScW_S3 : kcW S S3 := kcW_t (show kcW S S from (kcW_r S)) kpcW_S3
    have nxr_length_S3 : (f_xr_length S3).toInt = (f_xr_length S).toInt := congrArg Int32.toInt kpcL_S3
    have nxr_length_S3 : (f_xr_length S3).toInt = (f_xr_length S).toInt := congrArg Int32.toInt kpcP_S3.1
    have nxr_place_S3 : (f_xr_place S3).toInt = (f_xr_place S).toInt := congrArg Int32.toInt kpcP_S3.2.1
    have nxe_underWay_S3 : (f_xe_underWay S3).toInt = (f_xe_underWay S).toInt := congrArg Int32.toInt kpcU_S3
    have nxp_columns_S3 : (f_xp_columns S3).toInt = (f_xp_columns S).toInt := congrArg Int32.toInt kpcW_S3.1
    have nxp_rows_S3 : (f_xp_rows S3).toInt = (f_xp_rows S).toInt := congrArg Int32.toInt kpcW_S3.2
    have rrv4 := zt_rng rv4
    exact j_iret F hr hlocks hK hS S3 ⟨⟨i_vst, i_vc0, i_vc1, i_vc2, i_vc3, i_vv0, i_vv1, i_vv2, i_vv3, i_vg, i_wct, i_wln, i_sd0, i_sd1, i_sd2, i_sd3, i_rln, i_rtx, i_rpl, i_rtk, i_cnv, i_pts, i_cik, i_und⟩, kScL_S3, kScP_S3, kScU_S3, kScW_S3⟩ hP hD d_Stack_shuffle_96
  by_cases h_4_1 : x1.toInt = 4
  · refine lv_tableIn (off := 89) (tgt := 97) hx hb d_Stack_shuffle_8 (by omega) (by omega) (by rw [show x1.toInt = 4 from h_4_1]; decide +kernel) (by decide) ?_
    refine lv_aload_n hx hb d_Stack_shuffle_97 rfl (lv_at hl 0 rfl) ?_
    refine jc_ci (w := (fun u => u)) hK hP hD hS hA (va_runV (As := []) (rest := []) F (c_Stack_copyBelow l D T ad S  H.size ⟨i_vst, i_vc0, i_vc1, i_vc2, i_vc3, i_vv0, i_vv1, i_vv2, i_vv3, i_vg, i_wct, i_wln, i_sd0, i_sd1, i_sd2, i_sd3, i_rln, i_rtx, i_rpl, i_rtk, i_cnv, i_pts, i_cik, i_und⟩) (j_cV (k := 0) (C := "PageScribe$Stack") hts k_4_70 k_1_3 k_4_67 k_4_69 k_0_19 (by decide +kernel) ⟨Nat.le_of_ble_eq_true rfl, Nat.le_of_ble_eq_true rfl⟩) (j_preV (q0 := 1) (ci := 0) hK hP hD csc csc_all csc_nd cl_0 (ce_1 _ _ _) (fun _ _ _ _ h => h) (fun _ _ _ => trivial)) rfl rfl hl.1 rfl (lv_room (Nat.le_of_ble_eq_true rfl)) d_Stack_shuffle_98 ⟨Nat.le_of_ble_eq_true rfl, Nat.le_of_ble_eq_true rfl⟩) (fun rv5 S4 H locs hw5 hP hD hS => ?_)
    have hP : va_P D classes (cW T ad S4) H := hP
    have hD : va_D A (cW T ad S4) := hD
    obtain ⟨⟨i_vst, i_vc0, i_vc1, i_vc2, i_vc3, i_vv0, i_vv1, i_vv2, i_vv3, i_vg, i_wct, i_wln, i_sd0, i_sd1, i_sd2, i_sd3, i_rln, i_rtx, i_rpl, i_rtk, i_cnv, i_pts, i_cik, i_und⟩, kpcL_S4, kpcP_S4, kpcU_S4, kpcW_S4⟩ := hw5
    have kScL_S4 : kcL S S4 := kcL_t (show kcL S S from (kcL_r S)) kpcL_S4
    have kScP_S4 : kcP S S4 := kcP_t (show kcP S S from (kcP_r S)) kpcP_S4
    have kScU_S4 : kcU S S4 := kcU_t (show kcU S S from (kcU_r S)) kpcU_S4
    have kScW_S4 : kcW S S4 := kcW_t (show kcW S S from (kcW_r S)) kpcW_S4
    have nxr_length_S4 : (f_xr_length S4).toInt = (f_xr_length S).toInt := congrArg Int32.toInt kpcL_S4
    have nxr_length_S4 : (f_xr_length S4).toInt = (f_xr_length S).toInt := congrArg Int32.toInt kpcP_S4.1
    have nxr_place_S4 : (f_xr_place S4).toInt = (f_xr_place S).toInt := congrArg Int32.toInt kpcP_S4.2.1
    have nxe_underWay_S4 : (f_xe_underWay S4).toInt = (f_xe_underWay S).toInt := congrArg Int32.toInt kpcU_S4
    have nxp_columns_S4 : (f_xp_columns S4).toInt = (f_xp_columns S).toInt := congrArg Int32.toInt kpcW_S4.1
    have nxp_rows_S4 : (f_xp_rows S4).toInt = (f_xp_rows S).toInt := congrArg Int32.toInt kpcW_S4.2
    have rrv5 := zt_rng rv5
    exact j_iret F hr hlocks hK hS S4 ⟨⟨i_vst, i_vc0, i_vc1, i_vc2, i_vc3, i_vv0, i_vv1, i_vv2, i_vv3, i_vg, i_wct, i_wln, i_sd0, i_sd1, i_sd2, i_sd3, i_rln, i_rtx, i_rpl, i_rtk, i_cnv, i_pts, i_cik, i_und⟩, kScL_S4, kScP_S4, kScU_S4, kScW_S4⟩ hP hD d_Stack_shuffle_101
  by_cases h_5_1 : x1.toInt = 5
  · refine lv_tableIn (off := 94) (tgt := 102) hx hb d_Stack_shuffle_8 (by omega) (by omega) (by rw [show x1.toInt = 5 from h_5_1]; decide +kernel) (by decide) ?_
    refine lv_aload_n hx hb d_Stack_shuffle_102 rfl (lv_at hl 0 rfl) ?_
    refine jc_ci (w := (fun u => u)) hK hP hD hS hA (va_runV (As := []) (rest := []) F (c_Stack_pickBelow l D T ad S  H.size ⟨i_vst, i_vc0, i_vc1, i_vc2, i_vc3, i_vv0, i_vv1, i_vv2, i_vv3, i_vg, i_wct, i_wln, i_sd0, i_sd1, i_sd2, i_sd3, i_rln, i_rtx, i_rpl, i_rtk, i_cnv, i_pts, i_cik, i_und⟩) (j_cV (k := 0) (C := "PageScribe$Stack") hts k_4_75 k_1_3 k_4_72 k_4_74 k_0_20 (by decide +kernel) ⟨Nat.le_of_ble_eq_true rfl, Nat.le_of_ble_eq_true rfl⟩) (j_preV (q0 := 1) (ci := 0) hK hP hD csc csc_all csc_nd cl_0 (ce_1 _ _ _) (fun _ _ _ _ h => h) (fun _ _ _ => trivial)) rfl rfl hl.1 rfl (lv_room (Nat.le_of_ble_eq_true rfl)) d_Stack_shuffle_103 ⟨Nat.le_of_ble_eq_true rfl, Nat.le_of_ble_eq_true rfl⟩) (fun rv6 S5 H locs hw6 hP hD hS => ?_)
    have hP : va_P D classes (cW T ad S5) H := hP
    have hD : va_D A (cW T ad S5) := hD
    obtain ⟨⟨i_vst, i_vc0, i_vc1, i_vc2, i_vc3, i_vv0, i_vv1, i_vv2, i_vv3, i_vg, i_wct, i_wln, i_sd0, i_sd1, i_sd2, i_sd3, i_rln, i_rtx, i_rpl, i_rtk, i_cnv, i_pts, i_cik, i_und⟩, kpcL_S5, kpcP_S5, kpcU_S5, kpcW_S5⟩ := hw6
    have kScL_S5 : kcL S S5 := kcL_t (show kcL S S from (kcL_r S)) kpcL_S5
    have kScP_S5 : kcP S S5 := kcP_t (show kcP S S from (kcP_r S)) kpcP_S5
    have kScU_S5 : kcU S S5 := kcU_t (show kcU S S from (kcU_r S)) kpcU_S5
    have kScW_S5 : kcW S S5 := kcW_t (show kcW S S from (kcW_r S)) kpcW_S5
    have nxr_length_S5 : (f_xr_length S5).toInt = (f_xr_length S).toInt := congrArg Int32.toInt kpcL_S5
    have nxr_length_S5 : (f_xr_length S5).toInt = (f_xr_length S).toInt := congrArg Int32.toInt kpcP_S5.1
    have nxr_place_S5 : (f_xr_place S5).toInt = (f_xr_place S).toInt := congrArg Int32.toInt kpcP_S5.2.1
    have nxe_underWay_S5 : (f_xe_underWay S5).toInt = (f_xe_underWay S).toInt := congrArg Int32.toInt kpcU_S5
    have nxp_columns_S5 : (f_xp_columns S5).toInt = (f_xp_columns S).toInt := congrArg Int32.toInt kpcW_S5.1
    have nxp_rows_S5 : (f_xp_rows S5).toInt = (f_xp_rows S).toInt := congrArg Int32.toInt kpcW_S5.2
    have rrv6 := zt_rng rv6
    exact j_iret F hr hlocks hK hS S5 ⟨⟨i_vst, i_vc0, i_vc1, i_vc2, i_vc3, i_vv0, i_vv1, i_vv2, i_vv3, i_vg, i_wct, i_wln, i_sd0, i_sd1, i_sd2, i_sd3, i_rln, i_rtx, i_rpl, i_rtk, i_cnv, i_pts, i_cik, i_und⟩, kScL_S5, kScP_S5, kScU_S5, kScW_S5⟩ hP hD d_Stack_shuffle_106
  by_cases h_6_1 : x1.toInt = 6
  · refine lv_tableIn (off := 99) (tgt := 107) hx hb d_Stack_shuffle_8 (by omega) (by omega) (by rw [show x1.toInt = 6 from h_6_1]; decide +kernel) (by decide) ?_
    refine lv_aload_n hx hb d_Stack_shuffle_107 rfl (lv_at hl 0 rfl) ?_
    refine jc_ci (w := (fun u => u)) hK hP hD hS hA (va_runV (As := []) (rest := []) F (c_Stack_roll l D T ad S  H.size ⟨i_vst, i_vc0, i_vc1, i_vc2, i_vc3, i_vv0, i_vv1, i_vv2, i_vv3, i_vg, i_wct, i_wln, i_sd0, i_sd1, i_sd2, i_sd3, i_rln, i_rtx, i_rpl, i_rtk, i_cnv, i_pts, i_cik, i_und⟩) (j_cV (k := 0) (C := "PageScribe$Stack") hts k_4_79 k_1_3 k_4_76 k_4_78 k_0_21 (by decide +kernel) ⟨Nat.le_of_ble_eq_true rfl, Nat.le_of_ble_eq_true rfl⟩) (j_preV (q0 := 1) (ci := 0) hK hP hD csc csc_all csc_nd cl_0 (ce_1 _ _ _) (fun _ _ _ _ h => h) (fun _ _ _ => trivial)) rfl rfl hl.1 rfl (lv_room (Nat.le_of_ble_eq_true rfl)) d_Stack_shuffle_108 ⟨Nat.le_of_ble_eq_true rfl, Nat.le_of_ble_eq_true rfl⟩) (fun rv7 S6 H locs hw7 hP hD hS => ?_)
    have hP : va_P D classes (cW T ad S6) H := hP
    have hD : va_D A (cW T ad S6) := hD
    obtain ⟨⟨i_vst, i_vc0, i_vc1, i_vc2, i_vc3, i_vv0, i_vv1, i_vv2, i_vv3, i_vg, i_wct, i_wln, i_sd0, i_sd1, i_sd2, i_sd3, i_rln, i_rtx, i_rpl, i_rtk, i_cnv, i_pts, i_cik, i_und⟩, kpcL_S6, kpcP_S6, kpcU_S6, kpcW_S6⟩ := hw7
    have kScL_S6 : kcL S S6 := kcL_t (show kcL S S from (kcL_r S)) kpcL_S6
    have kScP_S6 : kcP S S6 := kcP_t (show kcP S S from (kcP_r S)) kpcP_S6
    have kScU_S6 : kcU S S6 := kcU_t (show kcU S S from (kcU_r S)) kpcU_S6
    have kScW_S6 : kcW S S6 := kcW_t (show kcW S S from (kcW_r S)) kpcW_S6
    have nxr_length_S6 : (f_xr_length S6).toInt = (f_xr_length S).toInt := congrArg Int32.toInt kpcL_S6
    have nxr_length_S6 : (f_xr_length S6).toInt = (f_xr_length S).toInt := congrArg Int32.toInt kpcP_S6.1
    have nxr_place_S6 : (f_xr_place S6).toInt = (f_xr_place S).toInt := congrArg Int32.toInt kpcP_S6.2.1
    have nxe_underWay_S6 : (f_xe_underWay S6).toInt = (f_xe_underWay S).toInt := congrArg Int32.toInt kpcU_S6
    have nxp_columns_S6 : (f_xp_columns S6).toInt = (f_xp_columns S).toInt := congrArg Int32.toInt kpcW_S6.1
    have nxp_rows_S6 : (f_xp_rows S6).toInt = (f_xp_rows S).toInt := congrArg Int32.toInt kpcW_S6.2
    have rrv7 := zt_rng rv7
    exact j_iret F hr hlocks hK hS S6 ⟨⟨i_vst, i_vc0, i_vc1, i_vc2, i_vc3, i_vv0, i_vv1, i_vv2, i_vv3, i_vg, i_wct, i_wln, i_sd0, i_sd1, i_sd2, i_sd3, i_rln, i_rtx, i_rpl, i_rtk, i_cnv, i_pts, i_cik, i_und⟩, kScL_S6, kScP_S6, kScU_S6, kScW_S6⟩ hP hD d_Stack_shuffle_111
  by_cases h_7_1 : x1.toInt = 7
  · refine lv_tableIn (off := 104) (tgt := 112) hx hb d_Stack_shuffle_8 (by omega) (by omega) (by rw [show x1.toInt = 7 from h_7_1]; decide +kernel) (by decide) ?_
    refine lv_aload_n hx hb d_Stack_shuffle_112 rfl (lv_at hl 0 rfl) ?_
    refine lv_iconst (v := 0) hx hb d_Stack_shuffle_113 (by decide) ?_
    refine va_put (D := D) (ci := 0) (v := .int 0) (ty := .int) (C := "PageScribe$Stack") (T := F_Stack) (N := 4) hx hb hts i_Stack t_Stack t_Stack_ok n_Stack hown hK hP hD hS 1 (ce_1 _ _ _) cl_0 3 (by decide) (hts _ k_1_50) (fun x9 h9 => u_same (hts _ k_1_51) x9 h9) rfl (by decide +kernel) rfl rfl (Nat.le_of_ble_eq_true rfl) d_Stack_shuffle_114 (fun H locs hP hD hS => ?_)
    rw [cp_xst_z] at hP hD
    have hP : va_P D classes (cW T ad ((((a_xst_k S), (a_xst_n S), (a_xst_r S), 0, (a_xw_letters S), (a_xw_lengths S), (f_xw_count S)), S.2.1, S.2.2.1, S.2.2.2.1, S.2.2.2.2.1, S.2.2.2.2.2.1, S.2.2.2.2.2.2.1, S.2.2.2.2.2.2.2.1, S.2.2.2.2.2.2.2.2) : CS)) H := hP
    have hD : va_D A (cW T ad ((((a_xst_k S), (a_xst_n S), (a_xst_r S), 0, (a_xw_letters S), (a_xw_lengths S), (f_xw_count S)), S.2.1, S.2.2.1, S.2.2.2.1, S.2.2.2.2.1, S.2.2.2.2.2.1, S.2.2.2.2.2.2.1, S.2.2.2.2.2.2.2.1, S.2.2.2.2.2.2.2.2) : CS)) := hD
    refine lv_iconst (v := 0) hx hb d_Stack_shuffle_117 (by decide) ?_
    exact j_iret F hr hlocks hK hS ((((a_xst_k S), (a_xst_n S), (a_xst_r S), 0, (a_xw_letters S), (a_xw_lengths S), (f_xw_count S)), S.2.1, S.2.2.1, S.2.2.2.1, S.2.2.2.2.1, S.2.2.2.2.2.1, S.2.2.2.2.2.2.1, S.2.2.2.2.2.2.2.1, S.2.2.2.2.2.2.2.2) : CS) ⟨⟨i_vst, i_vc0, i_vc1, i_vc2, i_vc3, i_vv0, i_vv1, i_vv2, i_vv3, i_vg, i_wct, i_wln, i_sd0, i_sd1, i_sd2, i_sd3, i_rln, i_rtx, i_rpl, i_rtk, i_cnv, i_pts, i_cik, i_und⟩, (kcL_r S), (kcP_r S), (kcU_r S), (kcW_r S)⟩ hP hD d_Stack_shuffle_118
  by_cases h_8_1 : x1.toInt = 8
  · refine lv_tableIn (off := 111) (tgt := 119) hx hb d_Stack_shuffle_8 (by omega) (by omega) (by rw [show x1.toInt = 8 from h_8_1]; decide +kernel) (by decide) ?_
    refine lv_aload_n hx hb d_Stack_shuffle_119 rfl (lv_at hl 0 rfl) ?_
    refine lv_aload_n hx hb d_Stack_shuffle_120 rfl (lv_at hl 0 rfl) ?_
    refine va_get (D := D) (ci := 0) (v := .int (f_xst_z S)) (C := "PageScribe$Stack") (T := F_Stack) (N := 4) hx hb hts i_Stack hown hK hP 1 (ce_1 _ _ _) cl_0 3 (by decide) (hts _ k_1_50) (fun x9 h9 => u_same (hts _ k_1_51) x9 h9) rfl d_Stack_shuffle_121 ?_
    refine jc_ci (w := (fun u => u)) hK hP hD hS hA (va_runV (As := [.int (f_xst_z S)]) (rest := []) F (c_Stack_pushInt l D T ad S (f_xst_z S)  H.size ⟨i_vst, i_vc0, i_vc1, i_vc2, i_vc3, i_vv0, i_vv1, i_vv2, i_vv3, i_vg, i_wct, i_wln, i_sd0, i_sd1, i_sd2, i_sd3, i_rln, i_rtx, i_rpl, i_rtk, i_cnv, i_pts, i_cik, i_und⟩) (j_cV (k := 1) (C := "PageScribe$Stack") hts k_4_90 k_1_3 k_4_87 k_4_88 k_4_89 (by decide +kernel) ⟨Nat.le_of_ble_eq_true rfl, Nat.le_of_ble_eq_true rfl⟩) (j_preV (q0 := 1) (ci := 0) hK hP hD csc csc_all csc_nd cl_0 (ce_1 _ _ _) (fun _ _ _ _ h => h) (fun _ _ _ => trivial)) rfl rfl hl.1 rfl (lv_room (Nat.le_of_ble_eq_true rfl)) d_Stack_shuffle_124 ⟨Nat.le_of_ble_eq_true rfl, Nat.le_of_ble_eq_true rfl⟩) (fun rv8 S7 H locs hw8 hP hD hS => ?_)
    have hP : va_P D classes (cW T ad S7) H := hP
    have hD : va_D A (cW T ad S7) := hD
    obtain ⟨⟨i_vst, i_vc0, i_vc1, i_vc2, i_vc3, i_vv0, i_vv1, i_vv2, i_vv3, i_vg, i_wct, i_wln, i_sd0, i_sd1, i_sd2, i_sd3, i_rln, i_rtx, i_rpl, i_rtk, i_cnv, i_pts, i_cik, i_und⟩, kpcL_S7, kpcP_S7, kpcU_S7, kpcW_S7⟩ := hw8
    have kScL_S7 : kcL S S7 := kcL_t (show kcL S S from (kcL_r S)) kpcL_S7
    have kScP_S7 : kcP S S7 := kcP_t (show kcP S S from (kcP_r S)) kpcP_S7
    have kScU_S7 : kcU S S7 := kcU_t (show kcU S S from (kcU_r S)) kpcU_S7
    have kScW_S7 : kcW S S7 := kcW_t (show kcW S S from (kcW_r S)) kpcW_S7
    have nxr_length_S7 : (f_xr_length S7).toInt = (f_xr_length S).toInt := congrArg Int32.toInt kpcL_S7
    have nxr_length_S7 : (f_xr_length S7).toInt = (f_xr_length S).toInt := congrArg Int32.toInt kpcP_S7.1
    have nxr_place_S7 : (f_xr_place S7).toInt = (f_xr_place S).toInt := congrArg Int32.toInt kpcP_S7.2.1
    have nxe_underWay_S7 : (f_xe_underWay S7).toInt = (f_xe_underWay S).toInt := congrArg Int32.toInt kpcU_S7
    have nxp_columns_S7 : (f_xp_columns S7).toInt = (f_xp_columns S).toInt := congrArg Int32.toInt kpcW_S7.1
    have nxp_rows_S7 : (f_xp_rows S7).toInt = (f_xp_rows S).toInt := congrArg Int32.toInt kpcW_S7.2
    have rrv8 := zt_rng rv8
    exact j_iret F hr hlocks hK hS S7 ⟨⟨i_vst, i_vc0, i_vc1, i_vc2, i_vc3, i_vv0, i_vv1, i_vv2, i_vv3, i_vg, i_wct, i_wln, i_sd0, i_sd1, i_sd2, i_sd3, i_rln, i_rtx, i_rpl, i_rtk, i_cnv, i_pts, i_cik, i_und⟩, kScL_S7, kScP_S7, kScU_S7, kScW_S7⟩ hP hD d_Stack_shuffle_127
  by_cases h_9_1 : x1.toInt = 9
  · refine lv_tableIn (off := 120) (tgt := 128) hx hb d_Stack_shuffle_8 (by omega) (by omega) (by rw [show x1.toInt = 9 from h_9_1]; decide +kernel) (by decide) ?_
    refine lv_aload_n hx hb d_Stack_shuffle_128 rfl (lv_at hl 0 rfl) ?_
    refine jc_ci (w := (fun u => u)) hK hP hD hS hA (va_runV (As := []) (rest := []) F (c_Stack_clearToMark l D T ad S  H.size ⟨i_vst, i_vc0, i_vc1, i_vc2, i_vc3, i_vv0, i_vv1, i_vv2, i_vv3, i_vg, i_wct, i_wln, i_sd0, i_sd1, i_sd2, i_sd3, i_rln, i_rtx, i_rpl, i_rtk, i_cnv, i_pts, i_cik, i_und⟩) (j_cV (k := 0) (C := "PageScribe$Stack") hts k_4_95 k_1_3 k_4_92 k_4_94 k_0_23 (by decide +kernel) ⟨Nat.le_of_ble_eq_true rfl, Nat.le_of_ble_eq_true rfl⟩) (j_preV (q0 := 1) (ci := 0) hK hP hD csc csc_all csc_nd cl_0 (ce_1 _ _ _) (fun _ _ _ _ h => h) (fun _ _ _ => trivial)) rfl rfl hl.1 rfl (lv_room (Nat.le_of_ble_eq_true rfl)) d_Stack_shuffle_129 ⟨Nat.le_of_ble_eq_true rfl, Nat.le_of_ble_eq_true rfl⟩) (fun rv9 S8 H locs hw9 hP hD hS => ?_)
    have hP : va_P D classes (cW T ad S8) H := hP
    have hD : va_D A (cW T ad S8) := hD
    obtain ⟨⟨i_vst, i_vc0, i_vc1, i_vc2, i_vc3, i_vv0, i_vv1, i_vv2, i_vv3, i_vg, i_wct, i_wln, i_sd0, i_sd1, i_sd2, i_sd3, i_rln, i_rtx, i_rpl, i_rtk, i_cnv, i_pts, i_cik, i_und⟩, kpcL_S8, kpcP_S8, kpcU_S8, kpcW_S8⟩ := hw9
    have kScL_S8 : kcL S S8 := kcL_t (show kcL S S from (kcL_r S)) kpcL_S8
    have kScP_S8 : kcP S S8 := kcP_t (show kcP S S from (kcP_r S)) kpcP_S8
    have kScU_S8 : kcU S S8 := kcU_t (show kcU S S from (kcU_r S)) kpcU_S8
    have kScW_S8 : kcW S S8 := kcW_t (show kcW S S from (kcW_r S)) kpcW_S8
    have nxr_length_S8 : (f_xr_length S8).toInt = (f_xr_length S).toInt := congrArg Int32.toInt kpcL_S8
    have nxr_length_S8 : (f_xr_length S8).toInt = (f_xr_length S).toInt := congrArg Int32.toInt kpcP_S8.1
    have nxr_place_S8 : (f_xr_place S8).toInt = (f_xr_place S).toInt := congrArg Int32.toInt kpcP_S8.2.1
    have nxe_underWay_S8 : (f_xe_underWay S8).toInt = (f_xe_underWay S).toInt := congrArg Int32.toInt kpcU_S8
    have nxp_columns_S8 : (f_xp_columns S8).toInt = (f_xp_columns S).toInt := congrArg Int32.toInt kpcW_S8.1
    have nxp_rows_S8 : (f_xp_rows S8).toInt = (f_xp_rows S).toInt := congrArg Int32.toInt kpcW_S8.2
    have rrv9 := zt_rng rv9
    exact j_iret F hr hlocks hK hS S8 ⟨⟨i_vst, i_vc0, i_vc1, i_vc2, i_vc3, i_vv0, i_vv1, i_vv2, i_vv3, i_vg, i_wct, i_wln, i_sd0, i_sd1, i_sd2, i_sd3, i_rln, i_rtx, i_rpl, i_rtk, i_cnv, i_pts, i_cik, i_und⟩, kScL_S8, kScP_S8, kScU_S8, kScW_S8⟩ hP hD d_Stack_shuffle_132
  refine lv_tableOut (tgt := 133) hx hb d_Stack_shuffle_8 (by omega) (by decide) ?_
  refine lv_aload_n hx hb d_Stack_shuffle_133 rfl (lv_at hl 0 rfl) ?_
  refine lv_iconst (v := 4) hx hb d_Stack_shuffle_134 (by decide) ?_
  refine lv_iconst (v := 0) hx hb d_Stack_shuffle_135 (by decide) ?_
  refine lv_dconst0 hx hb d_Stack_shuffle_136 ?_
  have := tD_0
  refine jc_ci (w := (fun u => u)) hK hP hD hS hA (va_runU (As := [.int 4, .int 0, .double 0]) (rest := []) F (c_Row_push l D T ad S (4 : Int32) (0 : Int32) 0  H.size ⟨i_vst, i_vc0, i_vc1, i_vc2, i_vc3, i_vv0, i_vv1, i_vv2, i_vv3, i_vg, i_wct, i_wln, i_sd0, i_sd1, i_sd2, i_sd3, i_rln, i_rtx, i_rpl, i_rtk, i_cnv, i_pts, i_cik, i_und⟩ (show dB 0 by have := tI_4; have := tI_0; omega)) (j_cU (k := 3) (C := "PageScribe$Stack") (owner := "PageScribe$Row") (x := ⟨"PageScribe$Stack", "push", "(IID)I"⟩) hts k_2_104 k_4_91 k_2_100 k_2_102 k_2_103 k_1_2 rfl (by decide +kernel) ⟨Nat.le_of_ble_eq_true rfl, Nat.le_of_ble_eq_true rfl⟩) (j_preV (q0 := 1) (ci := 0) hK hP hD csc csc_all csc_nd cl_0 (ce_1 _ _ _) (fun _ _ _ _ h => h) (fun _ _ _ => trivial)) rfl rfl hl.1 rfl (lv_room (Nat.le_of_ble_eq_true rfl)) d_Stack_shuffle_137 ⟨Nat.le_of_ble_eq_true rfl, Nat.le_of_ble_eq_true rfl⟩) (fun rv10 S9 H locs hw10 hP hD hS => ?_)
  have hP : va_P D classes (cW T ad S9) H := hP
  have hD : va_D A (cW T ad S9) := hD
  obtain ⟨⟨i_vst, i_vc0, i_vc1, i_vc2, i_vc3, i_vv0, i_vv1, i_vv2, i_vv3, i_vg, i_wct, i_wln, i_sd0, i_sd1, i_sd2, i_sd3, i_rln, i_rtx, i_rpl, i_rtk, i_cnv, i_pts, i_cik, i_und⟩, kpcL_S9, kpcP_S9, kpcU_S9, kpcW_S9⟩ := hw10
  have kScL_S9 : kcL S S9 := kcL_t (show kcL S S from (kcL_r S)) kpcL_S9
  have kScP_S9 : kcP S S9 := kcP_t (show kcP S S from (kcP_r S)) kpcP_S9
  have kScU_S9 : kcU S S9 := kcU_t (show kcU S S from (kcU_r S)) kpcU_S9
  have kScW_S9 : kcW S S9 := kcW_t (show kcW S S from (kcW_r S)) kpcW_S9
  have nxr_length_S9 : (f_xr_length S9).toInt = (f_xr_length S).toInt := congrArg Int32.toInt kpcL_S9
  have nxr_length_S9 : (f_xr_length S9).toInt = (f_xr_length S).toInt := congrArg Int32.toInt kpcP_S9.1
  have nxr_place_S9 : (f_xr_place S9).toInt = (f_xr_place S).toInt := congrArg Int32.toInt kpcP_S9.2.1
  have nxe_underWay_S9 : (f_xe_underWay S9).toInt = (f_xe_underWay S).toInt := congrArg Int32.toInt kpcU_S9
  have nxp_columns_S9 : (f_xp_columns S9).toInt = (f_xp_columns S).toInt := congrArg Int32.toInt kpcW_S9.1
  have nxp_rows_S9 : (f_xp_rows S9).toInt = (f_xp_rows S).toInt := congrArg Int32.toInt kpcW_S9.2
  have rrv10 := zt_rng rv10
  exact j_iret F hr hlocks hK hS S9 ⟨⟨i_vst, i_vc0, i_vc1, i_vc2, i_vc3, i_vv0, i_vv1, i_vv2, i_vv3, i_vg, i_wct, i_wln, i_sd0, i_sd1, i_sd2, i_sd3, i_rln, i_rtx, i_rpl, i_rtk, i_cnv, i_pts, i_cik, i_und⟩, kScL_S9, kScP_S9, kScU_S9, kScW_S9⟩ hP hD d_Stack_shuffle_140
