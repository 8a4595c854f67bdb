theorem d_Ps_write_0 : decode prog_1_method_2_code 0 = .ok (.aload_n 0, 1) := by decide +kernel
theorem d_Ps_write_1 : decode prog_1_method_2_code 1 = .ok (.getfield 41, 3) := by decide +kernel
theorem k_2_61 : Cond.fieldLink "PageScribe" 41 "PageScribe" "reader" "LPageScribe$Reader;" ∈ gw := gw_of (tb_2 (List.mem_of_getElem? (i := 61) (by decide +kernel))) (by decide +kernel)
theorem d_Ps_write_4 : decode prog_1_method_2_code 4 = .ok (.lload_n 1, 1) := by decide +kernel
theorem d_Ps_write_5 : decode prog_1_method_2_code 5 = .ok (.invokevirtual 63, 3) := by decide +kernel
theorem k_2_84 : Cond.code ⟨"PageScribe$Reader", "append", "(J)Z"⟩ prog_7_method_2_code 6 (some .boolean) ∈ gw := gw_of (tb_2 (List.mem_of_getElem? (i := 84) (by decide +kernel))) (by decide +kernel)
theorem k_2_81 : Cond.methodLink "PageScribe" 63 ⟨"PageScribe$Reader", "append", "(J)Z"⟩ ∈ gw := gw_of (tb_2 (List.mem_of_getElem? (i := 81) (by decide +kernel))) (by decide +kernel)
theorem k_2_82 : Cond.instanceMethod ⟨"PageScribe$Reader", "append", "(J)Z"⟩ ∈ gw := gw_of (tb_2 (List.mem_of_getElem? (i := 82) (by decide +kernel))) (by decide +kernel)
theorem k_2_83 : Cond.selects "PageScribe$Reader" ⟨"PageScribe$Reader", "append", "(J)Z"⟩ ⟨"PageScribe$Reader", "append", "(J)Z"⟩ ∈ gw := gw_of (tb_2 (List.mem_of_getElem? (i := 83) (by decide +kernel))) (by decide +kernel)
theorem d_Ps_write_8 : decode prog_1_method_2_code 8 = .ok (.ireturn, 1) := by decide +kernel
set_option maxHeartbeats 4000000 in
set_option maxRecDepth 100000 in
theorem c_Ps_write (l : Launch) (D : va_G) (T : Nat → ClassId) (ad : Nat → Nat) (S : CS) (v0 : Int64) (sz : Nat)  (hI : CIv S) : Met l ⟨"PageScribe", "write", "(J)Z"⟩ (wy ⟨"PageScribe", "write", "(J)Z"⟩ prog_1_method_2_code 3 (some .boolean)) ({ frames := 1, cells := 0, slots := 0, locals := 70 }) (va_Pc [.ref (ad 0), .long v0] (Pw D T (cW T ad S) sz E0)) (va_Qi (fun (r : Int32) (u : CS) => CIv u ∧ ((r.toInt = 1 ∧ wrP (byA v0) (f_xr_length S).toInt ∧ (f_xr_length u).toInt = (f_xr_length S).toInt + cntB (byA v0) 8) ∨ (r.toInt = 0 ∧ ¬ wrP (byA v0) (f_xr_length S).toInt ∧ (f_xr_length u) = (f_xr_length S)))) (fun u t => Bw D T (va_A (cW T ad S) sz) (cW T ad u) t) (va_A (cW T ad S) sz)) 0 0 (va_A (cW T ad S) sz) := by
  refine j_met (y := ⟨"PageScribe", "write", "(J)Z"⟩) (b := prog_1_method_2_code) (n := 3) (ret := (some .boolean)) (av := [.ref (ad 0), .long v0]) (Qc := fun A => va_Qi (fun (r : Int32) (u : CS) => CIv u ∧ ((r.toInt = 1 ∧ wrP (byA v0) (f_xr_length S).toInt ∧ (f_xr_length u).toInt = (f_xr_length S).toInt + cntB (byA v0) 8) ∨ (r.toInt = 0 ∧ ¬ wrP (byA v0) (f_xr_length S).toInt ∧ (f_xr_length u) = (f_xr_length S)))) (fun u t => Bw D T A (cW T ad u) t) A) (by decide +kernel) (Nat.le_of_ble_eq_true rfl) (fun p e s m args below meth c A ls F hr hlocks hnm hK hP hD hS hA hN hE hl => ?_)
  obtain ⟨hx, hb, hml, hown, hts⟩ := id F
  have hl : lv_has ls 3 [(0, .ref (ad 0)), (1, .long v0)] := hl
  obtain ⟨i_vst, i_vc0, i_vc1, i_vc2, i_vc3, i_vv0, i_vv1, i_vv2, i_vv3, i_vg, i_wct, i_wln, i_sd0, i_sd1, i_sd2, i_sd3, i_rln, i_rtx, i_rpl, i_rtk, i_cnv, i_pts, i_cik, i_und⟩ := id hI
  refine lv_aload_n hx hb d_Ps_write_0 rfl (lv_at hl 0 rfl) ?_
  refine va_get (D := D) (ci := 10) (v := .ref (ad 60)) (C := "PageScribe") (T := F_Ps) (N := 6) hx hb hts i_Ps hown hK hP 0 (ce_0 _ _ _) cl_10 3 (by decide) (hts _ k_2_61) (fun _ h9 => h9) rfl d_Ps_write_1 ?_
  refine lv_lload_n hx hb d_Ps_write_4 rfl (lv_at hl 1 rfl) ?_
  refine jc_ci (w := (fun u => u)) hK hP hD hS hA (va_runV (As := [.long v0]) (rest := []) F (c_Reader_append l D T ad S v0  s.heap.size ⟨i_vst, i_vc0, i_vc1, i_vc2, i_vc3, i_vv0, i_vv1, i_vv2, i_vv3, i_vg, i_wct, i_wln, i_sd0, i_sd1, i_sd2, i_sd3, i_rln, i_rtx, i_rpl, i_rtk, i_cnv, i_pts, i_cik, i_und⟩) (j_cV (k := 1) (C := "PageScribe$Reader") hts k_2_84 k_1_7 k_2_81 k_2_82 k_2_83 (by decide +kernel) ⟨Nat.le_of_ble_eq_true rfl, Nat.le_of_ble_eq_true rfl⟩) (j_preV (q0 := 60) (ci := 5) hK hP hD csc csc_all csc_nd cl_5 (ce_60 _ _ _) (fun _ _ _ _ h => h) (fun _ _ _ => trivial)) rfl rfl hl.1 rfl (lv_room (Nat.le_of_ble_eq_true rfl)) d_Ps_write_5 ⟨Nat.le_of_ble_eq_true rfl, Nat.le_of_ble_eq_true rfl⟩) (fun rv1 S1 H locs hw1 hP hD hS => ?_)
  have hP : va_P D classes (cW T ad S1) H := hP
  have hD : va_D A (cW T ad S1) := hD
  obtain ⟨⟨i_vst, i_vc0, i_vc1, i_vc2, i_vc3, i_vv0, i_vv1, i_vv2, i_vv3, i_vg, i_wct, i_wln, i_sd0, i_sd1, i_sd2, i_sd3, i_rln, i_rtx, i_rpl, i_rtk, i_cnv, i_pts, i_cik, i_und⟩, kpcU_S1, kpcW_S1, qqhw1⟩ := hw1
  have kScU_S1 : kcU S S1 := kcU_t (show kcU S S from (kcU_r S)) kpcU_S1
  have kScW_S1 : kcW S S1 := kcW_t (show kcW S S from (kcW_r S)) kpcW_S1
  have nxe_underWay_S1 : (f_xe_underWay S1).toInt = (f_xe_underWay S).toInt := congrArg Int32.toInt kpcU_S1
  have nxp_columns_S1 : (f_xp_columns S1).toInt = (f_xp_columns S).toInt := congrArg Int32.toInt kpcW_S1.1
  have nxp_rows_S1 : (f_xp_rows S1).toInt = (f_xp_rows S).toInt := congrArg Int32.toInt kpcW_S1.2
  have qhw1 : (rv1.toInt = 1 ∧ wrP (byA v0) (f_xr_length S).toInt ∧ (f_xr_length S1).toInt = (f_xr_length S).toInt + cntB (byA v0) 8) ∨ (rv1.toInt = 0 ∧ ¬ wrP (byA v0) (f_xr_length S).toInt ∧ (f_xr_length S1) = (f_xr_length S)) := qqhw1
  have rrv1 := zt_rng rv1
  exact j_zret F hr (zt_bo (by rcases (by assumption : (_ ∧ _ ∧ _) ∨ _) with q | q <;> omega)) hlocks hK hS S1 ⟨⟨i_vst, i_vc0, i_vc1, i_vc2, i_vc3, i_vv0, i_vv1, i_vv2, i_vv3, i_vg, i_wct, i_wln, i_sd0, i_sd1, i_sd2, i_sd3, i_rln, i_rtx, i_rpl, i_rtk, i_cnv, i_pts, i_cik, i_und⟩, (show (rv1.toInt = 1 ∧ wrP (byA v0) (f_xr_length S).toInt ∧ (f_xr_length S1).toInt = (f_xr_length S).toInt + cntB (byA v0) 8) ∨ (rv1.toInt = 0 ∧ ¬ wrP (byA v0) (f_xr_length S).toInt ∧ (f_xr_length S1) = (f_xr_length S)) by assumption)⟩ hP hD d_Ps_write_8
theorem d_Ps_run_0 : decode prog_1_method_3_code 0 = .ok (.iload_n 1, 1) := by decide +kernel
theorem d_Ps_run_1 : decode prog_1_method_3_code 1 = .ok (.iconst 1, 1) := by decide +kernel
theorem d_Ps_run_2 : decode prog_1_method_3_code 2 = .ok (.if_icmp .lt 10, 3) := by decide +kernel
theorem d_Ps_run_5 : decode prog_1_method_3_code 5 = .ok (.iload_n 1, 1) := by decide +kernel
theorem d_Ps_run_6 : decode prog_1_method_3_code 6 = .ok (.sipush 500, 3) := by decide +kernel
theorem d_Ps_run_9 : decode prog_1_method_3_code 9 = .ok (.if_icmp .le 13, 3) := by decide +kernel
theorem d_Ps_run_22 : decode prog_1_method_3_code 22 = .ok (.aload_n 0, 1) := by decide +kernel
theorem d_Ps_run_23 : decode prog_1_method_3_code 23 = .ok (.getfield 59, 3) := by decide +kernel
theorem k_2_63 : Cond.fieldLink "PageScribe" 59 "PageScribe" "engine" "LPageScribe$Engine;" ∈ gw := gw_of (tb_2 (List.mem_of_getElem? (i := 63) (by decide +kernel))) (by decide +kernel)
theorem d_Ps_run_26 : decode prog_1_method_3_code 26 = .ok (.iload_n 1, 1) := by decide +kernel
theorem d_Ps_run_27 : decode prog_1_method_3_code 27 = .ok (.invokevirtual 74, 3) := by decide +kernel
theorem k_3_61 : Cond.code ⟨"PageScribe$Engine", "begin", "(I)V"⟩ prog_4_method_2_code 2 none ∈ gw := gw_of (tb_3 (List.mem_of_getElem? (i := 61) (by decide +kernel))) (by decide +kernel)
theorem k_3_58 : Cond.methodLink "PageScribe" 74 ⟨"PageScribe$Engine", "begin", "(I)V"⟩ ∈ gw := gw_of (tb_3 (List.mem_of_getElem? (i := 58) (by decide +kernel))) (by decide +kernel)
theorem k_3_59 : Cond.instanceMethod ⟨"PageScribe$Engine", "begin", "(I)V"⟩ ∈ gw := gw_of (tb_3 (List.mem_of_getElem? (i := 59) (by decide +kernel))) (by decide +kernel)
theorem k_3_60 : Cond.selects "PageScribe$Engine" ⟨"PageScribe$Engine", "begin", "(I)V"⟩ ⟨"PageScribe$Engine", "begin", "(I)V"⟩ ∈ gw := gw_of (tb_3 (List.mem_of_getElem? (i := 60) (by decide +kernel))) (by decide +kernel)
theorem d_Ps_run_30 : decode prog_1_method_3_code 30 = .ok (.iconst 0, 1) := by decide +kernel
theorem d_Ps_run_31 : decode prog_1_method_3_code 31 = .ok (.istore_n 2, 1) := by decide +kernel
theorem d_Ps_run_32 : decode prog_1_method_3_code 32 = .ok (.iconst 0, 1) := by decide +kernel
theorem d_Ps_run_33 : decode prog_1_method_3_code 33 = .ok (.istore_n 3, 1) := by decide +kernel
theorem d_Ps_run_34 : decode prog_1_method_3_code 34 = .ok (.iload_n 3, 1) := by decide +kernel
theorem d_Ps_run_35 : decode prog_1_method_3_code 35 = .ok (.bipush 120, 2) := by decide +kernel
theorem d_Ps_run_37 : decode prog_1_method_3_code 37 = .ok (.if_icmp .ge 64, 3) := by decide +kernel
theorem d_Ps_run_101 : decode prog_1_method_3_code 101 = .ok (.aload_n 0, 1) := by decide +kernel
theorem d_Ps_run_102 : decode prog_1_method_3_code 102 = .ok (.getfield 41, 3) := by decide +kernel
theorem d_Ps_run_105 : decode prog_1_method_3_code 105 = .ok (.invokevirtual 101, 3) := by decide +kernel
theorem k_6_23 : Cond.code ⟨"PageScribe$Reader", "empty", "()V"⟩ prog_7_method_3_code 1 none ∈ gw := gw_of (tb_6 (List.mem_of_getElem? (i := 23) (by decide +kernel))) (by decide +kernel)
theorem k_6_20 : Cond.methodLink "PageScribe" 101 ⟨"PageScribe$Reader", "empty", "()V"⟩ ∈ gw := gw_of (tb_6 (List.mem_of_getElem? (i := 20) (by decide +kernel))) (by decide +kernel)
theorem k_6_21 : Cond.instanceMethod ⟨"PageScribe$Reader", "empty", "()V"⟩ ∈ gw := gw_of (tb_6 (List.mem_of_getElem? (i := 21) (by decide +kernel))) (by decide +kernel)
theorem k_6_22 : Cond.selects "PageScribe$Reader" ⟨"PageScribe$Reader", "empty", "()V"⟩ ⟨"PageScribe$Reader", "empty", "()V"⟩ ∈ gw := gw_of (tb_6 (List.mem_of_getElem? (i := 22) (by decide +kernel))) (by decide +kernel)
theorem d_Ps_run_108 : decode prog_1_method_3_code 108 = .ok (.aload_n 0, 1) := by decide +kernel
theorem d_Ps_run_109 : decode prog_1_method_3_code 109 = .ok (.getfield 59, 3) := by decide +kernel
theorem d_Ps_run_112 : decode prog_1_method_3_code 112 = .ok (.iload_n 2, 1) := by decide +kernel
theorem d_Ps_run_113 : decode prog_1_method_3_code 113 = .ok (.invokevirtual 104, 3) := by decide +kernel
theorem k_6_24 : Cond.methodLink "PageScribe" 104 ⟨"PageScribe$Engine", "note", "(I)V"⟩ ∈ gw := gw_of (tb_6 (List.mem_of_getElem? (i := 24) (by decide +kernel))) (by decide +kernel)
theorem d_Ps_run_116 : decode prog_1_method_3_code 116 = .ok (.iload_n 2, 1) := by decide +kernel
theorem d_Ps_run_117 : decode prog_1_method_3_code 117 = .ok (.ireturn, 1) := by decide +kernel
theorem d_Ps_run_40 : decode prog_1_method_3_code 40 = .ok (.iload_n 2, 1) := by decide +kernel
theorem d_Ps_run_41 : decode prog_1_method_3_code 41 = .ok (.ifCond .ne 60, 3) := by decide +kernel
theorem d_Ps_run_44 : decode prog_1_method_3_code 44 = .ok (.aload_n 0, 1) := by decide +kernel
theorem d_Ps_run_45 : decode prog_1_method_3_code 45 = .ok (.getfield 41, 3) := by decide +kernel
theorem d_Ps_run_48 : decode prog_1_method_3_code 48 = .ok (.invokevirtual 78, 3) := by decide +kernel
theorem k_3_62 : Cond.methodLink "PageScribe" 78 ⟨"PageScribe$Reader", "findToken", "()Z"⟩ ∈ gw := gw_of (tb_3 (List.mem_of_getElem? (i := 62) (by decide +kernel))) (by decide +kernel)
theorem d_Ps_run_51 : decode prog_1_method_3_code 51 = .ok (.ifCond .eq 50, 3) := by decide +kernel
theorem d_Ps_run_54 : decode prog_1_method_3_code 54 = .ok (.aload_n 0, 1) := by decide +kernel
theorem d_Ps_run_55 : decode prog_1_method_3_code 55 = .ok (.getfield 41, 3) := by decide +kernel
theorem d_Ps_run_58 : decode prog_1_method_3_code 58 = .ok (.invokevirtual 82, 3) := by decide +kernel
theorem k_3_69 : Cond.code ⟨"PageScribe$Reader", "next", "()I"⟩ prog_7_method_6_code 1 (some .int) ∈ gw := gw_of (tb_3 (List.mem_of_getElem? (i := 69) (by decide +kernel))) (by decide +kernel)
theorem k_3_66 : Cond.methodLink "PageScribe" 82 ⟨"PageScribe$Reader", "next", "()I"⟩ ∈ gw := gw_of (tb_3 (List.mem_of_getElem? (i := 66) (by decide +kernel))) (by decide +kernel)
theorem k_3_67 : Cond.instanceMethod ⟨"PageScribe$Reader", "next", "()I"⟩ ∈ gw := gw_of (tb_3 (List.mem_of_getElem? (i := 67) (by decide +kernel))) (by decide +kernel)
theorem k_3_68 : Cond.selects "PageScribe$Reader" ⟨"PageScribe$Reader", "next", "()I"⟩ ⟨"PageScribe$Reader", "next", "()I"⟩ ∈ gw := gw_of (tb_3 (List.mem_of_getElem? (i := 68) (by decide +kernel))) (by decide +kernel)
theorem d_Ps_run_61 : decode prog_1_method_3_code 61 = .ok (.istore_n 2, 1) := by decide +kernel
theorem d_Ps_run_62 : decode prog_1_method_3_code 62 = .ok (.iload_n 2, 1) := by decide +kernel
theorem d_Ps_run_63 : decode prog_1_method_3_code 63 = .ok (.ifCond .ne 32, 3) := by decide +kernel
theorem d_Ps_run_95 : decode prog_1_method_3_code 95 = .ok (.iinc 3 1, 3) := by decide +kernel
theorem d_Ps_run_98 : decode prog_1_method_3_code 98 = .ok (.goto (-64), 3) := by decide +kernel
theorem d_Ps_run_66 : decode prog_1_method_3_code 66 = .ok (.aload_n 0, 1) := by decide +kernel
theorem d_Ps_run_67 : decode prog_1_method_3_code 67 = .ok (.getfield 59, 3) := by decide +kernel
theorem d_Ps_run_70 : decode prog_1_method_3_code 70 = .ok (.aload_n 0, 1) := by decide +kernel
theorem d_Ps_run_71 : decode prog_1_method_3_code 71 = .ok (.getfield 41, 3) := by decide +kernel
theorem d_Ps_run_74 : decode prog_1_method_3_code 74 = .ok (.getfield 86, 3) := by decide +kernel
theorem k_1_173 : Cond.fieldLink "PageScribe" 86 "PageScribe$Reader" "tokenKind" "I" ∈ gw := gw_of (tb_1 (List.mem_of_getElem? (i := 173) (by decide +kernel))) (by decide +kernel)
theorem d_Ps_run_77 : decode prog_1_method_3_code 77 = .ok (.aload_n 0, 1) := by decide +kernel
theorem d_Ps_run_78 : decode prog_1_method_3_code 78 = .ok (.getfield 41, 3) := by decide +kernel
theorem d_Ps_run_81 : decode prog_1_method_3_code 81 = .ok (.getfield 90, 3) := by decide +kernel
theorem k_1_175 : Cond.fieldLink "PageScribe" 90 "PageScribe$Reader" "tokenNumber" "I" ∈ gw := gw_of (tb_1 (List.mem_of_getElem? (i := 175) (by decide +kernel))) (by decide +kernel)
theorem d_Ps_run_84 : decode prog_1_method_3_code 84 = .ok (.aload_n 0, 1) := by decide +kernel
theorem d_Ps_run_85 : decode prog_1_method_3_code 85 = .ok (.getfield 41, 3) := by decide +kernel
theorem d_Ps_run_88 : decode prog_1_method_3_code 88 = .ok (.getfield 93, 3) := by decide +kernel
theorem k_1_177 : Cond.fieldLink "PageScribe" 93 "PageScribe$Reader" "tokenReal" "D" ∈ gw := gw_of (tb_1 (List.mem_of_getElem? (i := 177) (by decide +kernel))) (by decide +kernel)
theorem d_Ps_run_91 : decode prog_1_method_3_code 91 = .ok (.invokevirtual 97, 3) := by decide +kernel
theorem d_Ps_run_94 : decode prog_1_method_3_code 94 = .ok (.istore_n 2, 1) := by decide +kernel
set_option maxHeartbeats 4000000 in
set_option maxRecDepth 100000 in
theorem c_Ps_run (l : Launch) (D : va_G) (T : Nat → ClassId) (ad : Nat → Nat) (g : GE) (Bq : Nat → Prop) (S : CS) (p0 : Int32) (sz : Nat)  (hI : CIv S) (h1 : 1 ≤ p0.toInt ∧ p0.toInt ≤ 500) : Met l ⟨"PageScribe", "run", "(I)I"⟩ (wy ⟨"PageScribe", "run", "(I)I"⟩ prog_1_method_3_code 4 (some .int)) ({ frames := 92, cells := 0, slots := 0, locals := 6440 }) (va_Pc [.ref (ad 0), .int p0] (Pw D T (cW T ad S) sz (EC g Bq ad))) (va_Qi (fun (r : Int32) (u : CS) => CIv u ∧ ((f_xr_length u).toInt = 0)) (fun u t => Bw D T (va_A (cW T ad S) sz) (cW T ad u) t) (va_A (cW T ad S) sz)) 0 0 (va_A (cW T ad S) sz) := by
  refine j_met (y := ⟨"PageScribe", "run", "(I)I"⟩) (b := prog_1_method_3_code) (n := 4) (ret := (some .int)) (av := [.ref (ad 0), .int p0]) (Qc := fun A => va_Qi (fun (r : Int32) (u : CS) => CIv u ∧ ((f_xr_length u).toInt = 0)) (fun u t => Bw D T A (cW T ad u) t) A) (by decide +kernel) (Nat.le_of_ble_eq_true rfl) (fun p e s m args below meth c A ls F hr hlocks hnm hK hP hD hS hA hN hE hl => ?_)
  obtain ⟨hx, hb, hml, hown, hts⟩ := id F
  have hl : lv_has ls 4 [(0, .ref (ad 0)), (1, .int p0)] := hl
  obtain ⟨i_vst, i_vc0, i_vc1, i_vc2, i_vc3, i_vv0, i_vv1, i_vv2, i_vv3, i_vg, i_wct, i_wln, i_sd0, i_sd1, i_sd2, i_sd3, i_rln, i_rtx, i_rpl, i_rtk, i_cnv, i_pts, i_cik, i_und⟩ := id hI
  have hAB : ∀ q, A q → Bq q := EC.ab hE hN
  have hEV := hE.1.narrow hAB
  have rp0 := zt_rng p0
  refine lv_iload_n hx hb d_Ps_run_0 rfl (lv_at hl 1 rfl) ?_
  refine lv_iconst (v := 1) hx hb d_Ps_run_1 (by decide) ?_
  refine lv_icmp_lt (tgt := 12) hx hb d_Ps_run_2 (by decide) (fun c2_1 => ?_) (fun c2_1 => ?_)
  · have fc2_1 : p0.toInt < 1 := zt_lt (show p0.toInt = _ from rfl) tI_1 c2_1
    exfalso; omega
  · have fc2_1 : 1 ≤ p0.toInt := Int.not_lt.mp (zt_nlt (show p0.toInt = _ from rfl) tI_1 c2_1)
    refine lv_iload_n hx hb d_Ps_run_5 rfl (lv_at hl 1 rfl) ?_
    refine lv_sipush (v := 500) hx hb d_Ps_run_6 (by decide) ?_
    refine lv_icmp_le (tgt := 22) hx hb d_Ps_run_9 (by decide) (fun c9_1 => ?_) (fun c9_1 => ?_)
    · have fc9_1 : p0.toInt ≤ 500 := zt_le (show p0.toInt = _ from rfl) tI_500 c9_1
      refine lv_aload_n hx hb d_Ps_run_22 rfl (lv_at hl 0 rfl) ?_
      refine va_get (D := D) (ci := 10) (v := .ref (ad 72)) (C := "PageScribe") (T := F_Ps) (N := 6) hx hb hts i_Ps hown hK hP 0 (ce_0 _ _ _) cl_10 5 (by decide) (hts _ k_2_63) (fun _ h9 => h9) rfl d_Ps_run_23 ?_
      refine lv_iload_n hx hb d_Ps_run_26 rfl (lv_at hl 1 rfl) ?_
      refine jc_cv (w := (fun u => u)) hK hP hD hS hA (va_runV (As := [.int p0]) (rest := []) F (c_Engine_begin l D T ad S p0  s.heap.size ⟨i_vst, i_vc0, i_vc1, i_vc2, i_vc3, i_vv0, i_vv1, i_vv2, i_vv3, i_vg, i_wct, i_wln, i_sd0, i_sd1, i_sd2, i_sd3, i_rln, i_rtx, i_rpl, i_rtk, i_cnv, i_pts, i_cik, i_und⟩) (j_cV (k := 1) (C := "PageScribe$Engine") hts k_3_61 k_1_9 k_3_58 k_3_59 k_3_60 (by decide +kernel) ⟨Nat.le_of_ble_eq_true rfl, Nat.le_of_ble_eq_true rfl⟩) (j_preV (q0 := 72) (ci := 7) hK hP hD csc csc_all csc_nd cl_7 (ce_72 _ _ _) (fun _ _ _ _ h => h) (fun _ _ _ => trivial)) rfl rfl hl.1 rfl (lv_room (Nat.le_of_ble_eq_true rfl)) d_Ps_run_27 ⟨Nat.le_of_ble_eq_true rfl, Nat.le_of_ble_eq_true rfl⟩) (fun S1 H locs hw1 hP hD hS => ?_)
      have hP : va_P D classes (cW T ad S1) H := hP
      have hD : va_D A (cW T ad S1) := hD
      obtain ⟨⟨i_vst, i_vc0, i_vc1, i_vc2, i_vc3, i_vv0, i_vv1, i_vv2, i_vv3, i_vg, i_wct, i_wln, i_sd0, i_sd1, i_sd2, i_sd3, i_rln, i_rtx, i_rpl, i_rtk, i_cnv, i_pts, i_cik, i_und⟩, kpcL_S1, kpcP_S1, kpcU_S1, kpcW_S1⟩ := hw1
      have kScL_S1 : kcL S S1 := kcL_t (show kcL S S from (kcL_r S)) kpcL_S1
      have kScP_S1 : kcP S S1 := kcP_t (show kcP S S from (kcP_r S)) kpcP_S1
      have kScU_S1 : kcU S S1 := kcU_t (show kcU S S from (kcU_r S)) kpcU_S1
      have kScW_S1 : kcW S S1 := kcW_t (show kcW S S from (kcW_r S)) kpcW_S1
      have nxr_length_S1 : (f_xr_length S1).toInt = (f_xr_length S).toInt := congrArg Int32.toInt kpcL_S1
      have nxr_length_S1 : (f_xr_length S1).toInt = (f_xr_length S).toInt := congrArg Int32.toInt kpcP_S1.1
      have nxr_place_S1 : (f_xr_place S1).toInt = (f_xr_place S).toInt := congrArg Int32.toInt kpcP_S1.2.1
      have nxe_underWay_S1 : (f_xe_underWay S1).toInt = (f_xe_underWay S).toInt := congrArg Int32.toInt kpcU_S1
      have nxp_columns_S1 : (f_xp_columns S1).toInt = (f_xp_columns S).toInt := congrArg Int32.toInt kpcW_S1.1
      have nxp_rows_S1 : (f_xp_rows S1).toInt = (f_xp_rows S).toInt := congrArg Int32.toInt kpcW_S1.2
      refine lv_iconst (v := 0) hx hb d_Ps_run_30 (by decide) ?_
      refine lv_istore_n (lv' := [(2, .int 0), (0, .ref (ad 0)), (1, .int p0)]) hx hb d_Ps_run_31 rfl hl (by decide) rfl (fun ls hl => ?_)
      refine lv_iconst (v := 0) hx hb d_Ps_run_32 (by decide) ?_
      refine lv_istore_n (lv' := [(3, .int 0), (2, .int 0), (0, .ref (ad 0)), (1, .int p0)]) hx hb d_Ps_run_33 rfl hl (by decide) rfl (fun ls hl => ?_)
      refine j_loop (α := CS × Int32 × Int32) (fun k x H locs ls => (0 ≤ x.2.2.toInt ∧ x.2.2.toInt ≤ 120 ∧ 120 ≤ x.2.2.toInt + ((k : Nat) : Int)) ∧ CIv x.1 ∧ va_P D classes (cW T ad x.1) H ∧ va_D A (cW T ad x.1) ∧ va_S A s.heap H locs ∧ lv_has ls 4 [(3, .int x.2.2), (2, .int x.2.1), (0, .ref (ad 0)), (1, .int p0)]) (fun _ _ ls => F0 m 34 ls []) (fun k x H locs ls hI9 ih => ?_) 120 (S1, (0 : Int32), (0 : Int32)) _ _ _ ⟨(show 0 ≤ (0 : Int32).toInt ∧ (0 : Int32).toInt ≤ 120 ∧ 120 ≤ (0 : Int32).toInt + ((120 : Nat) : Int) by have := tI_0; have := tI_0; omega), ⟨i_vst, i_vc0, i_vc1, i_vc2, i_vc3, i_vv0, i_vv1, i_vv2, i_vv3, i_vg, i_wct, i_wln, i_sd0, i_sd1, i_sd2, i_sd3, i_rln, i_rtx, i_rpl, i_rtk, i_cnv, i_pts, i_cik, i_und⟩, hP, hD, hS, lv_sub hl [0, 1, 2, 3] rfl⟩
      obtain ⟨S2, e, i⟩ := x
      obtain ⟨hf1, hIx, hP, hD, hS, hl⟩ := hI9
      obtain ⟨i_vst, i_vc0, i_vc1, i_vc2, i_vc3, i_vv0, i_vv1, i_vv2, i_vv3, i_vg, i_wct, i_wln, i_sd0, i_sd1, i_sd2, i_sd3, i_rln, i_rtx, i_rpl, i_rtk, i_cnv, i_pts, i_cik, i_und⟩ := (show CIv S2 from hIx)
      have hf1 : 0 ≤ i.toInt ∧ i.toInt ≤ 120 ∧ 120 ≤ i.toInt + ((k : Nat) : Int) := hf1
      have hP : va_P D classes (cW T ad S2) H := hP
      have hD : va_D A (cW T ad S2) := hD
      have hl : lv_has ls 4 [(3, .int i), (2, .int e), (0, .ref (ad 0)), (1, .int p0)] := hl
      refine lv_iload_n hx hb d_Ps_run_34 rfl (lv_at hl 0 rfl) ?_
      refine lv_bipush (v := 120) hx hb d_Ps_run_35 (by decide) ?_
      refine lv_icmp_ge (tgt := 101) hx hb d_Ps_run_37 (by decide) (fun c37_1 => ?_) (fun c37_1 => ?_)
      · have fc37_1 : 120 ≤ i.toInt := zt_le tI_120 (show i.toInt = _ from rfl) c37_1
        refine lv_aload_n hx hb d_Ps_run_101 rfl (lv_at hl 2 rfl) ?_
        refine va_get (D := D) (ci := 10) (v := .ref (ad 60)) (C := "PageScribe") (T := F_Ps) (N := 6) hx hb hts i_Ps hown hK hP 0 (ce_0 _ _ _) cl_10 3 (by decide) (hts _ k_2_61) (fun _ h9 => h9) rfl d_Ps_run_102 ?_
        refine jc_cv (w := (fun u => u)) hK hP hD hS hA (va_runV (As := []) (rest := []) F (c_Reader_empty l D T ad S2  H.size ⟨i_vst, i_vc0, i_vc1, i_vc2, i_vc3, i_vv0, i_vv1, i_vv2, i_vv3, i_vg, i_wct, i_wln, i_sd0, i_sd1, i_sd2, i_sd3, i_rln, i_rtx, i_rpl, i_rtk, i_cnv, i_pts, i_cik, i_und⟩) (j_cV (k := 0) (C := "PageScribe$Reader") hts k_6_23 k_1_7 k_6_20 k_6_21 k_6_22 (by decide +kernel) ⟨Nat.le_of_ble_eq_true rfl, Nat.le_of_ble_eq_true rfl⟩) (j_preV (q0 := 60) (ci := 5) hK hP hD csc csc_all csc_nd cl_5 (ce_60 _ _ _) (fun _ _ _ _ h => h) (fun _ _ _ => trivial)) rfl rfl hl.1 rfl (lv_room (Nat.le_of_ble_eq_true rfl)) d_Ps_run_105 ⟨Nat.le_of_ble_eq_true rfl, Nat.le_of_ble_eq_true rfl⟩) (fun S3 H locs hw2 hP hD hS => ?_)
        have hP : va_P D classes (cW T ad S3) H := hP
        have hD : va_D A (cW T ad S3) := hD
        obtain ⟨⟨i_vst, i_vc0, i_vc1, i_vc2, i_vc3, i_vv0, i_vv1, i_vv2, i_vv3, i_vg, i_wct, i_wln, i_sd0, i_sd1, i_sd2, i_sd3, i_rln, i_rtx, i_rpl, i_rtk, i_cnv, i_pts, i_cik, i_und⟩, kpcU_S3, kpcW_S3, qqhw2⟩ := hw2
        have nxe_underWay_S3 : (f_xe_underWay S3).toInt = (f_xe_underWay S2).toInt := congrArg Int32.toInt kpcU_S3
        have nxp_columns_S3 : (f_xp_columns S3).toInt = (f_xp_columns S2).toInt := congrArg Int32.toInt kpcW_S3.1
        have nxp_rows_S3 : (f_xp_rows S3).toInt = (f_xp_rows S2).toInt := congrArg Int32.toInt kpcW_S3.2
        have qhw2 : (f_xr_length S3).toInt = 0 := qqhw2
        refine lv_aload_n hx hb d_Ps_run_108 rfl (lv_at hl 2 rfl) ?_
        refine va_get (D := D) (ci := 10) (v := .ref (ad 72)) (C := "PageScribe") (T := F_Ps) (N := 6) hx hb hts i_Ps hown hK hP 0 (ce_0 _ _ _) cl_10 5 (by decide) (hts _ k_2_63) (fun _ h9 => h9) rfl d_Ps_run_109 ?_
        refine lv_iload_n hx hb d_Ps_run_112 rfl (lv_at hl 1 rfl) ?_
        refine jc_cv (w := (fun u => u)) hK hP hD hS hA (va_runV (As := [.int e]) (rest := []) F (c_Engine_note l D T ad S3 e  H.size ⟨i_vst, i_vc0, i_vc1, i_vc2, i_vc3, i_vv0, i_vv1, i_vv2, i_vv3, i_vg, i_wct, i_wln, i_sd0, i_sd1, i_sd2, i_sd3, i_rln, i_rtx, i_rpl, i_rtk, i_cnv, i_pts, i_cik, i_und⟩) (j_cV (k := 1) (C := "PageScribe$Engine") hts k_6_14 k_1_9 k_6_24 k_6_12 k_6_13 (by decide +kernel) ⟨Nat.le_of_ble_eq_true rfl, Nat.le_of_ble_eq_true rfl⟩) (j_preV (q0 := 72) (ci := 7) hK hP hD csc csc_all csc_nd cl_7 (ce_72 _ _ _) (fun _ _ _ _ h => h) (fun _ _ _ => trivial)) rfl rfl hl.1 rfl (lv_room (Nat.le_of_ble_eq_true rfl)) d_Ps_run_113 ⟨Nat.le_of_ble_eq_true rfl, Nat.le_of_ble_eq_true rfl⟩) (fun S4 H locs hw3 hP hD hS => ?_)
        have hP : va_P D classes (cW T ad S4) H := hP
        have hD : va_D A (cW T ad S4) := hD
        obtain ⟨⟨i_vst, i_vc0, i_vc1, i_vc2, i_vc3, i_vv0, i_vv1, i_vv2, i_vv3, i_vg, i_wct, i_wln, i_sd0, i_sd1, i_sd2, i_sd3, i_rln, i_rtx, i_rpl, i_rtk, i_cnv, i_pts, i_cik, i_und⟩, kpcL_S4, kpcP_S4, kpcU_S4, kpcW_S4⟩ := hw3
        have nxr_length_S4 : (f_xr_length S4).toInt = (f_xr_length S3).toInt := congrArg Int32.toInt kpcL_S4
        have nxr_length_S4 : (f_xr_length S4).toInt = (f_xr_length S3).toInt := congrArg Int32.toInt kpcP_S4.1
        have nxr_place_S4 : (f_xr_place S4).toInt = (f_xr_place S3).toInt := congrArg Int32.toInt kpcP_S4.2.1
        have nxe_underWay_S4 : (f_xe_underWay S4).toInt = (f_xe_underWay S3).toInt := congrArg Int32.toInt kpcU_S4
        have nxp_columns_S4 : (f_xp_columns S4).toInt = (f_xp_columns S3).toInt := congrArg Int32.toInt kpcW_S4.1
        have nxp_rows_S4 : (f_xp_rows S4).toInt = (f_xp_rows S3).toInt := congrArg Int32.toInt kpcW_S4.2
        refine lv_iload_n hx hb d_Ps_run_116 rfl (lv_at hl 1 rfl) ?_
        exact j_iret F hr hlocks hK hS S4 ⟨⟨i_vst, i_vc0, i_vc1, i_vc2, i_vc3, i_vv0, i_vv1, i_vv2, i_vv3, i_vg, i_wct, i_wln, i_sd0, i_sd1, i_sd2, i_sd3, i_rln, i_rtx, i_rpl, i_rtk, i_cnv, i_pts, i_cik, i_und⟩, (show (f_xr_length S4).toInt = 0 by omega)⟩ hP hD d_Ps_run_117
      · have fc37_1 : i.toInt < 120 := Int.not_le.mp (zt_nle tI_120 (show i.toInt = _ from rfl) c37_1)
        refine lv_iload_n hx hb d_Ps_run_40 rfl (lv_at hl 1 rfl) ?_
        refine lv_if_ne (tgt := 101) hx hb d_Ps_run_41 (by decide) (fun c41_1 => ?_) (fun c41_1 => ?_)
        · first | have fc41_1 : e.toInt < 0 := (by have := zt_ne (show e.toInt = _ from rfl) tI_0 c41_1; omega) | have fc41_1 : 0 < e.toInt := (by have := zt_ne (show e.toInt = _ from rfl) tI_0 c41_1; omega) | skip
          refine lv_aload_n hx hb d_Ps_run_101 rfl (lv_at hl 2 rfl) ?_
          refine va_get (D := D) (ci := 10) (v := .ref (ad 60)) (C := "PageScribe") (T := F_Ps) (N := 6) hx hb hts i_Ps hown hK hP 0 (ce_0 _ _ _) cl_10 3 (by decide) (hts _ k_2_61) (fun _ h9 => h9) rfl d_Ps_run_102 ?_
          refine jc_cv (w := (fun u => u)) hK hP hD hS hA (va_runV (As := []) (rest := []) F (c_Reader_empty l D T ad S2  H.size ⟨i_vst, i_vc0, i_vc1, i_vc2, i_vc3, i_vv0, i_vv1, i_vv2, i_vv3, i_vg, i_wct, i_wln, i_sd0, i_sd1, i_sd2, i_sd3, i_rln, i_rtx, i_rpl, i_rtk, i_cnv, i_pts, i_cik, i_und⟩) (j_cV (k := 0) (C := "PageScribe$Reader") hts k_6_23 k_1_7 k_6_20 k_6_21 k_6_22 (by decide +kernel) ⟨Nat.le_of_ble_eq_true rfl, Nat.le_of_ble_eq_true rfl⟩) (j_preV (q0 := 60) (ci := 5) hK hP hD csc csc_all csc_nd cl_5 (ce_60 _ _ _) (fun _ _ _ _ h => h) (fun _ _ _ => trivial)) rfl rfl hl.1 rfl (lv_room (Nat.le_of_ble_eq_true rfl)) d_Ps_run_105 ⟨Nat.le_of_ble_eq_true rfl, Nat.le_of_ble_eq_true rfl⟩) (fun S5 H locs hw4 hP hD hS => ?_)
          have hP : va_P D classes (cW T ad S5) H := hP
          have hD : va_D A (cW T ad S5) := hD
          obtain ⟨⟨i_vst, i_vc0, i_vc1, i_vc2, i_vc3, i_vv0, i_vv1, i_vv2, i_vv3, i_vg, i_wct, i_wln, i_sd0, i_sd1, i_sd2, i_sd3, i_rln, i_rtx, i_rpl, i_rtk, i_cnv, i_pts, i_cik, i_und⟩, kpcU_S5, kpcW_S5, qqhw4⟩ := hw4
          have nxe_underWay_S5 : (f_xe_underWay S5).toInt = (f_xe_underWay S2).toInt := congrArg Int32.toInt kpcU_S5
          have nxp_columns_S5 : (f_xp_columns S5).toInt = (f_xp_columns S2).toInt := congrArg Int32.toInt kpcW_S5.1
          have nxp_rows_S5 : (f_xp_rows S5).toInt = (f_xp_rows S2).toInt := congrArg Int32.toInt kpcW_S5.2
          have qhw4 : (f_xr_length S5).toInt = 0 := qqhw4
          refine lv_aload_n hx hb d_Ps_run_108 rfl (lv_at hl 2 rfl) ?_
          refine va_get (D := D) (ci := 10) (v := .ref (ad 72)) (C := "PageScribe") (T := F_Ps) (N := 6) hx hb hts i_Ps hown hK hP 0 (ce_0 _ _ _) cl_10 5 (by decide) (hts _ k_2_63) (fun _ h9 => h9) rfl d_Ps_run_109 ?_
          refine lv_iload_n hx hb d_Ps_run_112 rfl (lv_at hl 1 rfl) ?_
          refine jc_cv (w := (fun u => u)) hK hP hD hS hA (va_runV (As := [.int e]) (rest := []) F (c_Engine_note l D T ad S5 e  H.size ⟨i_vst, i_vc0, i_vc1, i_vc2, i_vc3, i_vv0, i_vv1, i_vv2, i_vv3, i_vg, i_wct, i_wln, i_sd0, i_sd1, i_sd2, i_sd3, i_rln, i_rtx, i_rpl, i_rtk, i_cnv, i_pts, i_cik, i_und⟩) (j_cV (k := 1) (C := "PageScribe$Engine") hts k_6_14 k_1_9 k_6_24 k_6_12 k_6_13 (by decide +kernel) ⟨Nat.le_of_ble_eq_true rfl, Nat.le_of_ble_eq_true rfl⟩) (j_preV (q0 := 72) (ci := 7) hK hP hD csc csc_all csc_nd cl_7 (ce_72 _ _ _) (fun _ _ _ _ h => h) (fun _ _ _ => trivial)) rfl rfl hl.1 rfl (lv_room (Nat.le_of_ble_eq_true rfl)) d_Ps_run_113 ⟨Nat.le_of_ble_eq_true rfl, Nat.le_of_ble_eq_true rfl⟩) (fun S6 H locs hw5 hP hD hS => ?_)
          have hP : va_P D classes (cW T ad S6) H := hP
          have hD : va_D A (cW T ad S6) := hD
          obtain ⟨⟨i_vst, i_vc0, i_vc1, i_vc2, i_vc3, i_vv0, i_vv1, i_vv2, i_vv3, i_vg, i_wct, i_wln, i_sd0, i_sd1, i_sd2, i_sd3, i_rln, i_rtx, i_rpl, i_rtk, i_cnv, i_pts, i_cik, i_und⟩, kpcL_S6, kpcP_S6, kpcU_S6, kpcW_S6⟩ := hw5
          have nxr_length_S6 : (f_xr_length S6).toInt = (f_xr_length S5).toInt := congrArg Int32.toInt kpcL_S6
          have nxr_length_S6 : (f_xr_length S6).toInt = (f_xr_length S5).toInt := congrArg Int32.toInt kpcP_S6.1
          have nxr_place_S6 : (f_xr_place S6).toInt = (f_xr_place S5).toInt := congrArg Int32.toInt kpcP_S6.2.1
          have nxe_underWay_S6 : (f_xe_underWay S6).toInt = (f_xe_underWay S5).toInt := congrArg Int32.toInt kpcU_S6
          have nxp_columns_S6 : (f_xp_columns S6).toInt = (f_xp_columns S5).toInt := congrArg Int32.toInt kpcW_S6.1
          have nxp_rows_S6 : (f_xp_rows S6).toInt = (f_xp_rows S5).toInt := congrArg Int32.toInt kpcW_S6.2
          refine lv_iload_n hx hb d_Ps_run_116 rfl (lv_at hl 1 rfl) ?_
          exact j_iret F hr hlocks hK hS S6 ⟨⟨i_vst, i_vc0, i_vc1, i_vc2, i_vc3, i_vv0, i_vv1, i_vv2, i_vv3, i_vg, i_wct, i_wln, i_sd0, i_sd1, i_sd2, i_sd3, i_rln, i_rtx, i_rpl, i_rtk, i_cnv, i_pts, i_cik, i_und⟩, (show (f_xr_length S6).toInt = 0 by omega)⟩ hP hD d_Ps_run_117
        · have fc41_1 : e.toInt = 0 := zt_eq (show e.toInt = _ from rfl) tI_0 c41_1
          refine lv_aload_n hx hb d_Ps_run_44 rfl (lv_at hl 2 rfl) ?_
          refine va_get (D := D) (ci := 10) (v := .ref (ad 60)) (C := "PageScribe") (T := F_Ps) (N := 6) hx hb hts i_Ps hown hK hP 0 (ce_0 _ _ _) cl_10 3 (by decide) (hts _ k_2_61) (fun _ h9 => h9) rfl d_Ps_run_45 ?_
          refine jc_ci (w := (fun u => u)) hK hP hD hS hA (va_runV (As := []) (rest := []) F (c_Reader_findToken l D T ad S2  H.size ⟨i_vst, i_vc0, i_vc1, i_vc2, i_vc3, i_vv0, i_vv1, i_vv2, i_vv3, i_vg, i_wct, i_wln, i_sd0, i_sd1, i_sd2, i_sd3, i_rln, i_rtx, i_rpl, i_rtk, i_cnv, i_pts, i_cik, i_und⟩) (j_cV (k := 0) (C := "PageScribe$Reader") hts k_3_65 k_1_7 k_3_62 k_3_63 k_3_64 (by decide +kernel) ⟨Nat.le_of_ble_eq_true rfl, Nat.le_of_ble_eq_true rfl⟩) (j_preV (q0 := 60) (ci := 5) hK hP hD csc csc_all csc_nd cl_5 (ce_60 _ _ _) (fun _ _ _ _ h => h) (fun _ _ _ => trivial)) rfl rfl hl.1 rfl (lv_room (Nat.le_of_ble_eq_true rfl)) d_Ps_run_48 ⟨Nat.le_of_ble_eq_true rfl, Nat.le_of_ble_eq_true rfl⟩) (fun rv6 S7 H locs hw6 hP hD hS => ?_)
          have hP : va_P D classes (cW T ad S7) H := hP
          have hD : va_D A (cW T ad S7) := hD
          obtain ⟨⟨i_vst, i_vc0, i_vc1, i_vc2, i_vc3, i_vv0, i_vv1, i_vv2, i_vv3, i_vg, i_wct, i_wln, i_sd0, i_sd1, i_sd2, i_sd3, i_rln, i_rtx, i_rpl, i_rtk, i_cnv, i_pts, i_cik, i_und⟩, kpcL_S7, kpcU_S7, kpcW_S7, qqhw6⟩ := hw6
          have nxr_length_S7 : (f_xr_length S7).toInt = (f_xr_length S2).toInt := congrArg Int32.toInt kpcL_S7
          have nxe_underWay_S7 : (f_xe_underWay S7).toInt = (f_xe_underWay S2).toInt := congrArg Int32.toInt kpcU_S7
          have nxp_columns_S7 : (f_xp_columns S7).toInt = (f_xp_columns S2).toInt := congrArg Int32.toInt kpcW_S7.1
          have nxp_rows_S7 : (f_xp_rows S7).toInt = (f_xp_rows S2).toInt := congrArg Int32.toInt kpcW_S7.2
          have qhw6 : (((rv6.toInt = 1 ∧ (f_xr_place S7).toInt < (f_xr_length S7).toInt) ∨ rv6.toInt = 0) ∧ (((f_xr_place S2).toInt < (f_xr_length S2).toInt ∧ ¬ ((a_xr_text S2) (f_xr_place S2).toInt.toNat).toInt = 32) → (f_xr_place S7).toInt = (f_xr_place S2).toInt ∧ rv6.toInt = 1)) ∧ (a_xr_text S7) = (a_xr_text S2) := qqhw6
          have rrv6 := zt_rng rv6
          refine lv_if_eq (tgt := 101) hx hb d_Ps_run_51 (by decide) (fun c51_1 => ?_) (fun c51_1 => ?_)
          · have fc51_1 : rv6.toInt = 0 := zt_eq (show rv6.toInt = _ from rfl) tI_0 c51_1
            refine lv_aload_n hx hb d_Ps_run_101 rfl (lv_at hl 2 rfl) ?_
            refine va_get (D := D) (ci := 10) (v := .ref (ad 60)) (C := "PageScribe") (T := F_Ps) (N := 6) hx hb hts i_Ps hown hK hP 0 (ce_0 _ _ _) cl_10 3 (by decide) (hts _ k_2_61) (fun _ h9 => h9) rfl d_Ps_run_102 ?_
            refine jc_cv (w := (fun u => u)) hK hP hD hS hA (va_runV (As := []) (rest := []) F (c_Reader_empty l D T ad S7  H.size ⟨i_vst, i_vc0, i_vc1, i_vc2, i_vc3, i_vv0, i_vv1, i_vv2, i_vv3, i_vg, i_wct, i_wln, i_sd0, i_sd1, i_sd2, i_sd3, i_rln, i_rtx, i_rpl, i_rtk, i_cnv, i_pts, i_cik, i_und⟩) (j_cV (k := 0) (C := "PageScribe$Reader") hts k_6_23 k_1_7 k_6_20 k_6_21 k_6_22 (by decide +kernel) ⟨Nat.le_of_ble_eq_true rfl, Nat.le_of_ble_eq_true rfl⟩) (j_preV (q0 := 60) (ci := 5) hK hP hD csc csc_all csc_nd cl_5 (ce_60 _ _ _) (fun _ _ _ _ h => h) (fun _ _ _ => trivial)) rfl rfl hl.1 rfl (lv_room (Nat.le_of_ble_eq_true rfl)) d_Ps_run_105 ⟨Nat.le_of_ble_eq_true rfl, Nat.le_of_ble_eq_true rfl⟩) (fun S8 H locs hw7 hP hD hS => ?_)
            have hP : va_P D classes (cW T ad S8) H := hP
            have hD : va_D A (cW T ad S8) := hD
            obtain ⟨⟨i_vst, i_vc0, i_vc1, i_vc2, i_vc3, i_vv0, i_vv1, i_vv2, i_vv3, i_vg, i_wct, i_wln, i_sd0, i_sd1, i_sd2, i_sd3, i_rln, i_rtx, i_rpl, i_rtk, i_cnv, i_pts, i_cik, i_und⟩, kpcU_S8, kpcW_S8, qqhw7⟩ := hw7
            have nxe_underWay_S8 : (f_xe_underWay S8).toInt = (f_xe_underWay S7).toInt := congrArg Int32.toInt kpcU_S8
            have nxp_columns_S8 : (f_xp_columns S8).toInt = (f_xp_columns S7).toInt := congrArg Int32.toInt kpcW_S8.1
            have nxp_rows_S8 : (f_xp_rows S8).toInt = (f_xp_rows S7).toInt := congrArg Int32.toInt kpcW_S8.2
            have qhw7 : (f_xr_length S8).toInt = 0 := qqhw7
            refine lv_aload_n hx hb d_Ps_run_108 rfl (lv_at hl 2 rfl) ?_
            refine va_get (D := D) (ci := 10) (v := .ref (ad 72)) (C := "PageScribe") (T := F_Ps) (N := 6) hx hb hts i_Ps hown hK hP 0 (ce_0 _ _ _) cl_10 5 (by decide) (hts _ k_2_63) (fun _ h9 => h9) rfl d_Ps_run_109 ?_
            refine lv_iload_n hx hb d_Ps_run_112 rfl (lv_at hl 1 rfl) ?_
            refine jc_cv (w := (fun u => u)) hK hP hD hS hA (va_runV (As := [.int e]) (rest := []) F (c_Engine_note l D T ad S8 e  H.size ⟨i_vst, i_vc0, i_vc1, i_vc2, i_vc3, i_vv0, i_vv1, i_vv2, i_vv3, i_vg, i_wct, i_wln, i_sd0, i_sd1, i_sd2, i_sd3, i_rln, i_rtx, i_rpl, i_rtk, i_cnv, i_pts, i_cik, i_und⟩) (j_cV (k := 1) (C := "PageScribe$Engine") hts k_6_14 k_1_9 k_6_24 k_6_12 k_6_13 (by decide +kernel) ⟨Nat.le_of_ble_eq_true rfl, Nat.le_of_ble_eq_true rfl⟩) (j_preV (q0 := 72) (ci := 7) hK hP hD csc csc_all csc_nd cl_7 (ce_72 _ _ _) (fun _ _ _ _ h => h) (fun _ _ _ => trivial)) rfl rfl hl.1 rfl (lv_room (Nat.le_of_ble_eq_true rfl)) d_Ps_run_113 ⟨Nat.le_of_ble_eq_true rfl, Nat.le_of_ble_eq_true rfl⟩) (fun S9 H locs hw8 hP hD hS => ?_)
            have hP : va_P D classes (cW T ad S9) H := hP
            have hD : va_D A (cW T ad S9) := hD
            obtain ⟨⟨i_vst, i_vc0, i_vc1, i_vc2, i_vc3, i_vv0, i_vv1, i_vv2, i_vv3, i_vg, i_wct, i_wln, i_sd0, i_sd1, i_sd2, i_sd3, i_rln, i_rtx, i_rpl, i_rtk, i_cnv, i_pts, i_cik, i_und⟩, kpcL_S9, kpcP_S9, kpcU_S9, kpcW_S9⟩ := hw8
            have nxr_length_S9 : (f_xr_length S9).toInt = (f_xr_length S8).toInt := congrArg Int32.toInt kpcL_S9
            have nxr_length_S9 : (f_xr_length S9).toInt = (f_xr_length S8).toInt := congrArg Int32.toInt kpcP_S9.1
            have nxr_place_S9 : (f_xr_place S9).toInt = (f_xr_place S8).toInt := congrArg Int32.toInt kpcP_S9.2.1
            have nxe_underWay_S9 : (f_xe_underWay S9).toInt = (f_xe_underWay S8).toInt := congrArg Int32.toInt kpcU_S9
            have nxp_columns_S9 : (f_xp_columns S9).toInt = (f_xp_columns S8).toInt := congrArg Int32.toInt kpcW_S9.1
            have nxp_rows_S9 : (f_xp_rows S9).toInt = (f_xp_rows S8).toInt := congrArg Int32.toInt kpcW_S9.2
            refine lv_iload_n hx hb d_Ps_run_116 rfl (lv_at hl 1 rfl) ?_
            exact j_iret F hr hlocks hK hS S9 ⟨⟨i_vst, i_vc0, i_vc1, i_vc2, i_vc3, i_vv0, i_vv1, i_vv2, i_vv3, i_vg, i_wct, i_wln, i_sd0, i_sd1, i_sd2, i_sd3, i_rln, i_rtx, i_rpl, i_rtk, i_cnv, i_pts, i_cik, i_und⟩, (show (f_xr_length S9).toInt = 0 by omega)⟩ hP hD d_Ps_run_117
          · first | have fc51_1 : rv6.toInt < 0 := (by have := zt_ne (show rv6.toInt = _ from rfl) tI_0 c51_1; omega) | have fc51_1 : 0 < rv6.toInt := (by have := zt_ne (show rv6.toInt = _ from rfl) tI_0 c51_1; omega) | skip
            refine lv_aload_n hx hb d_Ps_run_54 rfl (lv_at hl 2 rfl) ?_
            refine va_get (D := D) (ci := 10) (v := .ref (ad 60)) (C := "PageScribe") (T := F_Ps) (N := 6) hx hb hts i_Ps hown hK hP 0 (ce_0 _ _ _) cl_10 3 (by decide) (hts _ k_2_61) (fun _ h9 => h9) rfl d_Ps_run_55 ?_
            refine jc_ci (w := (fun u => u)) hK hP hD hS hA (va_runV (As := []) (rest := []) F (c_Reader_next l D T ad g Bq S7  H.size ⟨i_vst, i_vc0, i_vc1, i_vc2, i_vc3, i_vv0, i_vv1, i_vv2, i_vv3, i_vg, i_wct, i_wln, i_sd0, i_sd1, i_sd2, i_sd3, i_rln, i_rtx, i_rpl, i_rtk, i_cnv, i_pts, i_cik, i_und⟩ (show 0 ≤ (f_xr_place S7).toInt ∧ (f_xr_place S7).toInt < (f_xr_length S7).toInt by omega)) (j_cV (k := 0) (C := "PageScribe$Reader") hts k_3_69 k_1_7 k_3_66 k_3_67 k_3_68 (by decide +kernel) ⟨Nat.le_of_ble_eq_true rfl, Nat.le_of_ble_eq_true rfl⟩) (j_preV (q0 := 60) (ci := 5) hK hP hD csc csc_all csc_nd cl_5 (ce_60 _ _ _) (fun _ _ _ _ h => EC.calling h) (fun U hU hW => EC.at hS hAB hU hW hE)) rfl rfl hl.1 rfl (lv_room (Nat.le_of_ble_eq_true rfl)) d_Ps_run_58 ⟨Nat.le_of_ble_eq_true rfl, Nat.le_of_ble_eq_true rfl⟩) (fun rv9 S10 H locs hw9 hP hD hS => ?_)
            have hP : va_P D classes (cW T ad S10) H := hP
            have hD : va_D A (cW T ad S10) := hD
            obtain ⟨⟨i_vst, i_vc0, i_vc1, i_vc2, i_vc3, i_vv0, i_vv1, i_vv2, i_vv3, i_vg, i_wct, i_wln, i_sd0, i_sd1, i_sd2, i_sd3, i_rln, i_rtx, i_rpl, i_rtk, i_cnv, i_pts, i_cik, i_und⟩, kpcL_S10, kpcU_S10, kpcW_S10⟩ := hw9
            have nxr_length_S10 : (f_xr_length S10).toInt = (f_xr_length S7).toInt := congrArg Int32.toInt kpcL_S10
            have nxe_underWay_S10 : (f_xe_underWay S10).toInt = (f_xe_underWay S7).toInt := congrArg Int32.toInt kpcU_S10
            have nxp_columns_S10 : (f_xp_columns S10).toInt = (f_xp_columns S7).toInt := congrArg Int32.toInt kpcW_S10.1
            have nxp_rows_S10 : (f_xp_rows S10).toInt = (f_xp_rows S7).toInt := congrArg Int32.toInt kpcW_S10.2
            have rrv9 := zt_rng rv9
            refine lv_istore_n (lv' := [(2, .int rv9), (3, .int i), (0, .ref (ad 0)), (1, .int p0)]) hx hb d_Ps_run_61 rfl hl (by decide) rfl (fun ls hl => ?_)
            refine lv_iload_n hx hb d_Ps_run_62 rfl (lv_at hl 0 rfl) ?_
            refine lv_if_ne (tgt := 95) hx hb d_Ps_run_63 (by decide) (fun c63_1 => ?_) (fun c63_1 => ?_)
            · first | have fc63_1 : rv9.toInt < 0 := (by have := zt_ne (show rv9.toInt = _ from rfl) tI_0 c63_1; omega) | have fc63_1 : 0 < rv9.toInt := (by have := zt_ne (show rv9.toInt = _ from rfl) tI_0 c63_1; omega) | skip
              refine lv_iinc (v := (i + 1)) (lv' := [(3, .int (i + 1)), (2, .int rv9), (0, .ref (ad 0)), (1, .int p0)]) hx hb d_Ps_run_95 hl (k := 1) rfl (by first | rfl | decide) (by decide) rfl (fun ls hl => ?_)
              obtain ⟨x1, ex1⟩ : ∃ z, z = (i + 1) := ⟨_, rfl⟩
              rw [← ex1] at hl
              have fx1 : x1.toInt = (i.toInt + 1) := by rw [ex1]; exact (zt_add (show i.toInt = _ from rfl) tI_1 (by omega) (by omega)).trans (by omega)
              have hl : lv_has ls 4 [(3, .int x1), (2, .int rv9), (0, .ref (ad 0)), (1, .int p0)] := hl
              refine lv_goto (tgt := 34) hx hb d_Ps_run_98 (by decide) ?_
              exact ih (k - 1) (S10, rv9, x1) _ _ _ (by omega) ⟨(show 0 ≤ x1.toInt ∧ x1.toInt ≤ 120 ∧ 120 ≤ x1.toInt + (((k - 1) : Nat) : Int) by omega), ⟨i_vst, i_vc0, i_vc1, i_vc2, i_vc3, i_vv0, i_vv1, i_vv2, i_vv3, i_vg, i_wct, i_wln, i_sd0, i_sd1, i_sd2, i_sd3, i_rln, i_rtx, i_rpl, i_rtk, i_cnv, i_pts, i_cik, i_und⟩, hP, hD, hS, lv_sub hl [0, 1, 2, 3] rfl⟩
            · have fc63_1 : rv9.toInt = 0 := zt_eq (show rv9.toInt = _ from rfl) tI_0 c63_1
              refine lv_aload_n hx hb d_Ps_run_66 rfl (lv_at hl 2 rfl) ?_
              refine va_get (D := D) (ci := 10) (v := .ref (ad 72)) (C := "PageScribe") (T := F_Ps) (N := 6) hx hb hts i_Ps hown hK hP 0 (ce_0 _ _ _) cl_10 5 (by decide) (hts _ k_2_63) (fun _ h9 => h9) rfl d_Ps_run_67 ?_
              refine lv_aload_n hx hb d_Ps_run_70 rfl (lv_at hl 2 rfl) ?_
              refine va_get (D := D) (ci := 10) (v := .ref (ad 60)) (C := "PageScribe") (T := F_Ps) (N := 6) hx hb hts i_Ps hown hK hP 0 (ce_0 _ _ _) cl_10 3 (by decide) (hts _ k_2_61) (fun _ h9 => h9) rfl d_Ps_run_71 ?_
              refine va_get (D := D) (ci := 5) (v := .int (f_xr_tokenKind S10)) (C := "PageScribe$Reader") (T := F_Reader) (N := 10) hx hb hts i_Reader hown hK hP 60 (ce_60 _ _ _) cl_5 5 (by decide) (hts _ k_1_173) (fun _ h9 => h9) rfl d_Ps_run_74 ?_
              refine lv_aload_n hx hb d_Ps_run_77 rfl (lv_at hl 2 rfl) ?_
              refine va_get (D := D) (ci := 10) (v := .ref (ad 60)) (C := "PageScribe") (T := F_Ps) (N := 6) hx hb hts i_Ps hown hK hP 0 (ce_0 _ _ _) cl_10 3 (by decide) (hts _ k_2_61) (fun _ h9 => h9) rfl d_Ps_run_78 ?_
              refine va_get (D := D) (ci := 5) (v := .int (f_xr_tokenNumber S10)) (C := "PageScribe$Reader") (T := F_Reader) (N := 10) hx hb hts i_Reader hown hK hP 60 (ce_60 _ _ _) cl_5 6 (by decide) (hts _ k_1_175) (fun _ h9 => h9) rfl d_Ps_run_81 ?_
              refine lv_aload_n hx hb d_Ps_run_84 rfl (lv_at hl 2 rfl) ?_
              refine va_get (D := D) (ci := 10) (v := .ref (ad 60)) (C := "PageScribe") (T := F_Ps) (N := 6) hx hb hts i_Ps hown hK hP 0 (ce_0 _ _ _) cl_10 3 (by decide) (hts _ k_2_61) (fun _ h9 => h9) rfl d_Ps_run_85 ?_
              refine va_get (D := D) (ci := 5) (v := .double (f_xr_tokenReal S10)) (C := "PageScribe$Reader") (T := F_Reader) (N := 10) hx hb hts i_Reader hown hK hP 60 (ce_60 _ _ _) cl_5 7 (by decide) (hts _ k_1_177) (fun _ h9 => h9) rfl d_Ps_run_88 ?_
              refine jc_ci (w := (fun u => u)) hK hP hD hS hA (va_runVN (As := [.int (f_xr_tokenKind S10), .int (f_xr_tokenNumber S10), .double (f_xr_tokenReal S10)]) (rest := []) F (c_Engine_dv l D T ad g Bq 8 S10 (f_xr_tokenKind S10) (f_xr_tokenNumber S10) (f_xr_tokenReal S10)  H.size ⟨i_vst, i_vc0, i_vc1, i_vc2, i_vc3, i_vv0, i_vv1, i_vv2, i_vv3, i_vg, i_wct, i_wln, i_sd0, i_sd1, i_sd2, i_sd3, i_rln, i_rtx, i_rpl, i_rtk, i_cnv, i_pts, i_cik, i_und⟩ (show 8 ≤ (f_xe_underWay S10).toInt + ((8 : Nat) : Int) by omega) (show dB (f_xr_tokenReal S10) by omega)) (j_cVN (k := 3) (C := "PageScribe$Engine") hts k_3_167 k_1_9 (hE.2.2.2 (Cond.methodLinkNest "PageScribe" 97 ⟨"PageScribe$Engine", "doValue", "(IID)I"⟩ "PageScribe") (List.mem_of_getElem? (i := 3) rfl)) k_3_166 k_0_13 (by decide +kernel) ⟨Nat.le_of_ble_eq_true rfl, Nat.le_of_ble_eq_true rfl⟩) (j_preV (q0 := 72) (ci := 7) hK hP hD csc csc_all csc_nd cl_7 (ce_72 _ _ _) (fun _ _ _ _ h => EC.calling h) (fun U hU hW => EC.at hS hAB hU hW hE)) rfl rfl hl.1 rfl (lv_room (Nat.le_of_ble_eq_true rfl)) d_Ps_run_91 ⟨Nat.le_of_ble_eq_true rfl, Nat.le_of_ble_eq_true rfl⟩) (fun rv10 S11 H locs hw10 hP hD hS => ?_)
              have hP : va_P D classes (cW T ad S11) H := hP
              have hD : va_D A (cW T ad S11) := hD
              obtain ⟨⟨i_vst, i_vc0, i_vc1, i_vc2, i_vc3, i_vv0, i_vv1, i_vv2, i_vv3, i_vg, i_wct, i_wln, i_sd0, i_sd1, i_sd2, i_sd3, i_rln, i_rtx, i_rpl, i_rtk, i_cnv, i_pts, i_cik, i_und⟩, kpcL_S11, kpcP_S11, kpcU_S11, kpcW_S11⟩ := hw10
              have nxr_length_S11 : (f_xr_length S11).toInt = (f_xr_length S10).toInt := congrArg Int32.toInt kpcL_S11
              have nxr_length_S11 : (f_xr_length S11).toInt = (f_xr_length S10).toInt := congrArg Int32.toInt kpcP_S11.1
              have nxr_place_S11 : (f_xr_place S11).toInt = (f_xr_place S10).toInt := congrArg Int32.toInt kpcP_S11.2.1
              have nxe_underWay_S11 : (f_xe_underWay S11).toInt = (f_xe_underWay S10).toInt := congrArg Int32.toInt kpcU_S11
              have nxp_columns_S11 : (f_xp_columns S11).toInt = (f_xp_columns S10).toInt := congrArg Int32.toInt kpcW_S11.1
              have nxp_rows_S11 : (f_xp_rows S11).toInt = (f_xp_rows S10).toInt := congrArg Int32.toInt kpcW_S11.2
              have rrv10 := zt_rng rv10
              refine lv_istore_n (lv' := [(2, .int rv10), (3, .int i), (0, .ref (ad 0)), (1, .int p0)]) hx hb d_Ps_run_94 rfl hl (by decide) rfl (fun ls hl => ?_)
              refine lv_iinc (v := (i + 1)) (lv' := [(3, .int (i + 1)), (2, .int rv10), (0, .ref (ad 0)), (1, .int p0)]) hx hb d_Ps_run_95 hl (k := 1) rfl (by first | rfl | decide) (by decide) rfl (fun ls hl => ?_)
              obtain ⟨x2, ex2⟩ : ∃ z, z = (i + 1) := ⟨_, rfl⟩
              rw [← ex2] at hl
              have fx2 : x2.toInt = (i.toInt + 1) := by rw [ex2]; exact (zt_add (show i.toInt = _ from rfl) tI_1 (by omega) (by omega)).trans (by omega)
              have hl : lv_has ls 4 [(3, .int x2), (2, .int rv10), (0, .ref (ad 0)), (1, .int p0)] := hl
              refine lv_goto (tgt := 34) hx hb d_Ps_run_98 (by decide) ?_
              exact ih (k - 1) (S11, rv10, x2) _ _ _ (by omega) ⟨(show 0 ≤ x2.toInt ∧ x2.toInt ≤ 120 ∧ 120 ≤ x2.toInt + (((k - 1) : Nat) : Int) by omega), ⟨i_vst, i_vc0, i_vc1, i_vc2, i_vc3, i_vv0, i_vv1, i_vv2, i_vv3, i_vg, i_wct, i_wln, i_sd0, i_sd1, i_sd2, i_sd3, i_rln, i_rtx, i_rpl, i_rtk, i_cnv, i_pts, i_cik, i_und⟩, hP, hD, hS, lv_sub hl [0, 1, 2, 3] rfl⟩
    · have fc9_1 : 500 < p0.toInt := Int.not_le.mp (zt_nle (show p0.toInt = _ from rfl) tI_500 c9_1)
      exfalso; omega
theorem d_Ps_steps_0 : decode prog_1_method_4_code 0 = .ok (.aload_n 0, 1) := by decide +kernel
theorem d_Ps_steps_1 : decode prog_1_method_4_code 1 = .ok (.getfield 59, 3) := by decide +kernel
theorem d_Ps_steps_4 : decode prog_1_method_4_code 4 = .ok (.getfield 107, 3) := by decide +kernel
theorem k_2_29 : Cond.fieldLink "PageScribe" 107 "PageScribe$Engine" "stepsDone" "I" ∈ gw := gw_of (tb_2 (List.mem_of_getElem? (i := 29) (by decide +kernel))) (by decide +kernel)
theorem d_Ps_steps_7 : decode prog_1_method_4_code 7 = .ok (.ireturn, 1) := by decide +kernel
set_option maxHeartbeats 4000000 in
set_option maxRecDepth 100000 in
theorem c_Ps_steps (l : Launch) (D : va_G) (T : Nat → ClassId) (ad : Nat → Nat) (S : CS)  (sz : Nat)  : Met l ⟨"PageScribe", "steps", "()I"⟩ (wy ⟨"PageScribe", "steps", "()I"⟩ prog_1_method_4_code 1 (some .int)) ({ frames := 0, cells := 0, slots := 0, locals := 0 }) (va_Pc [.ref (ad 0)] (Pw D T (cW T ad S) sz E0)) (va_Qi (fun (r : Int32) (u : Unit) => True) (fun u t => Bw D T (va_A (cW T ad S) sz) (cW T ad S) t) (va_A (cW T ad S) sz)) 0 0 (va_A (cW T ad S) sz) := by
  refine j_met (y := ⟨"PageScribe", "steps", "()I"⟩) (b := prog_1_method_4_code) (n := 1) (ret := (some .int)) (av := [.ref (ad 0)]) (Qc := fun A => va_Qi (fun (r : Int32) (u : Unit) => True) (fun u t => Bw D T A (cW T ad S) t) A) (by decide +kernel) (Nat.le_of_ble_eq_true rfl) (fun p e s m args below meth c A ls F hr hlocks hnm hK hP hD hS hA hN hE hl => ?_)
  obtain ⟨hx, hb, hml, hown, hts⟩ := id F
  have hl : lv_has ls 1 [(0, .ref (ad 0))] := hl
  refine lv_aload_n hx hb d_Ps_steps_0 rfl (lv_at hl 0 rfl) ?_
  refine va_get (D := D) (ci := 10) (v := .ref (ad 72)) (C := "PageScribe") (T := F_Ps) (N := 6) hx hb hts i_Ps hown hK hP 0 (ce_0 _ _ _) cl_10 5 (by decide) (hts _ k_2_63) (fun _ h9 => h9) rfl d_Ps_steps_1 ?_
  refine va_get (D := D) (ci := 7) (v := .int (f_xe_stepsDone S)) (C := "PageScribe$Engine") (T := F_Engine) (N := 11) hx hb hts i_Engine hown hK hP 72 (ce_72 _ _ _) cl_7 6 (by decide) (hts _ k_2_29) (fun _ h9 => h9) rfl d_Ps_steps_4 ?_
  exact j_iret F hr hlocks hK hS () trivial hP hD d_Ps_steps_7
theorem d_Ps_fault_0 : decode prog_1_method_5_code 0 = .ok (.aload_n 0, 1) := by decide +kernel
theorem d_Ps_fault_1 : decode prog_1_method_5_code 1 = .ok (.getfield 59, 3) := by decide +kernel
theorem d_Ps_fault_4 : decode prog_1_method_5_code 4 = .ok (.getfield 110, 3) := by decide +kernel
theorem k_2_31 : Cond.fieldLink "PageScribe" 110 "PageScribe$Engine" "latestFault" "I" ∈ gw := gw_of (tb_2 (List.mem_of_getElem? (i := 31) (by decide +kernel))) (by decide +kernel)
theorem d_Ps_fault_7 : decode prog_1_method_5_code 7 = .ok (.ireturn, 1) := by decide +kernel
set_option maxHeartbeats 4000000 in
set_option maxRecDepth 100000 in
theorem c_Ps_fault (l : Launch) (D : va_G) (T : Nat → ClassId) (ad : Nat → Nat) (S : CS)  (sz : Nat)  : Met l ⟨"PageScribe", "fault", "()I"⟩ (wy ⟨"PageScribe", "fault", "()I"⟩ prog_1_method_5_code 1 (some .int)) ({ frames := 0, cells := 0, slots := 0, locals := 0 }) (va_Pc [.ref (ad 0)] (Pw D T (cW T ad S) sz E0)) (va_Qi (fun (r : Int32) (u : Unit) => True) (fun u t => Bw D T (va_A (cW T ad S) sz) (cW T ad S) t) (va_A (cW T ad S) sz)) 0 0 (va_A (cW T ad S) sz) := by
  refine j_met (y := ⟨"PageScribe", "fault", "()I"⟩) (b := prog_1_method_5_code) (n := 1) (ret := (some .int)) (av := [.ref (ad 0)]) (Qc := fun A => va_Qi (fun (r : Int32) (u : Unit) => True) (fun u t => Bw D T A (cW T ad S) t) A) (by decide +kernel) (Nat.le_of_ble_eq_true rfl) (fun p e s m args below meth c A ls F hr hlocks hnm hK hP hD hS hA hN hE hl => ?_)
  obtain ⟨hx, hb, hml, hown, hts⟩ := id F
  have hl : lv_has ls 1 [(0, .ref (ad 0))] := hl
  refine lv_aload_n hx hb d_Ps_fault_0 rfl (lv_at hl 0 rfl) ?_
  refine va_get (D := D) (ci := 10) (v := .ref (ad 72)) (C := "PageScribe") (T := F_Ps) (N := 6) hx hb hts i_Ps hown hK hP 0 (ce_0 _ _ _) cl_10 5 (by decide) (hts _ k_2_63) (fun _ h9 => h9) rfl d_Ps_fault_1 ?_
  refine va_get (D := D) (ci := 7) (v := .int (f_xe_latestFault S)) (C := "PageScribe$Engine") (T := F_Engine) (N := 11) hx hb hts i_Engine hown hK hP 72 (ce_72 _ _ _) cl_7 7 (by decide) (hts _ k_2_31) (fun _ h9 => h9) rfl d_Ps_fault_4 ?_
  exact j_iret F hr hlocks hK hS () trivial hP hD d_Ps_fault_7
theorem d_Ps_depth_0 : decode prog_1_method_7_code 0 = .ok (.aload_n 0, 1) := by decide +kernel
theorem d_Ps_depth_1 : decode prog_1_method_7_code 1 = .ok (.getfield 12, 3) := by decide +kernel
theorem k_2_58 : Cond.fieldLink "PageScribe" 12 "PageScribe" "stack" "LPageScribe$Stack;" ∈ gw := gw_of (tb_2 (List.mem_of_getElem? (i := 58) (by decide +kernel))) (by decide +kernel)
theorem d_Ps_depth_4 : decode prog_1_method_7_code 4 = .ok (.getfield 120, 3) := by decide +kernel
theorem k_1_55 : Cond.fieldLink "PageScribe" 120 "PageScribe$Stack" "size" "I" ∈ gw := gw_of (tb_1 (List.mem_of_getElem? (i := 55) (by decide +kernel))) (by decide +kernel)
theorem d_Ps_depth_7 : decode prog_1_method_7_code 7 = .ok (.ireturn, 1) := by decide +kernel
set_option maxHeartbeats 4000000 in
set_option maxRecDepth 100000 in
theorem c_Ps_depth (l : Launch) (D : va_G) (T : Nat → ClassId) (ad : Nat → Nat) (S : CS)  (sz : Nat)  : Met l ⟨"PageScribe", "depth", "()I"⟩ (wy ⟨"PageScribe", "depth", "()I"⟩ prog_1_method_7_code 1 (some .int)) ({ frames := 0, cells := 0, slots := 0, locals := 0 }) (va_Pc [.ref (ad 0)] (Pw D T (cW T ad S) sz E0)) (va_Qi (fun (r : Int32) (u : Unit) => True) (fun u t => Bw D T (va_A (cW T ad S) sz) (cW T ad S) t) (va_A (cW T ad S) sz)) 0 0 (va_A (cW T ad S) sz) := by
  refine j_met (y := ⟨"PageScribe", "depth", "()I"⟩) (b := prog_1_method_7_code) (n := 1) (ret := (some .int)) (av := [.ref (ad 0)]) (Qc := fun A => va_Qi (fun (r : Int32) (u : Unit) => True) (fun u t => Bw D T A (cW T ad S) t) A) (by decide +kernel) (Nat.le_of_ble_eq_true rfl) (fun p e s m args below meth c A ls F hr hlocks hnm hK hP hD hS hA hN hE hl => ?_)
  obtain ⟨hx, hb, hml, hown, hts⟩ := id F
  have hl : lv_has ls 1 [(0, .ref (ad 0))] := hl
  refine lv_aload_n hx hb d_Ps_depth_0 rfl (lv_at hl 0 rfl) ?_
  refine va_get (D := D) (ci := 10) (v := .ref (ad 1)) (C := "PageScribe") (T := F_Ps) (N := 6) hx hb hts i_Ps hown hK hP 0 (ce_0 _ _ _) cl_10 0 (by decide) (hts _ k_2_58) (fun _ h9 => h9) rfl d_Ps_depth_1 ?_
  refine va_get (D := D) (ci := 0) (v := .int (f_xst_z S)) (C := "PageScribe$Stack") (T := F_Stack) (N := 4) hx hb hts i_Stack hown hK hP 1 (ce_1 _ _ _) cl_0 3 (by decide) (hts _ k_1_55) (fun x9 h9 => u_same (hts _ k_1_51) x9 h9) rfl d_Ps_depth_4 ?_
  exact j_iret F hr hlocks hK hS () trivial hP hD d_Ps_depth_7
theorem d_Ps_feed_0 : decode prog_1_method_6_code 0 = .ok (.dload_n 1, 1) := by decide +kernel
theorem d_Ps_feed_1 : decode prog_1_method_6_code 1 = .ok (.ldc2_w 113, 3) := by decide +kernel
theorem k_2_97 : Cond.constantDouble "PageScribe" 113 (14009883241494872064 : UInt64) ∈ gw := gw_of (tb_2 (List.mem_of_getElem? (i := 97) (by decide +kernel))) (by decide +kernel)
theorem d_Ps_feed_4 : decode prog_1_method_6_code 4 = .ok (.dcmp .l, 1) := by decide +kernel
theorem d_Ps_feed_5 : decode prog_1_method_6_code 5 = .ok (.ifCond .lt 28, 3) := by decide +kernel
theorem d_Ps_feed_33 : decode prog_1_method_6_code 33 = .ok (.iconst 0, 1) := by decide +kernel
theorem d_Ps_feed_34 : decode prog_1_method_6_code 34 = .ok (.ireturn, 1) := by decide +kernel
theorem d_Ps_feed_8 : decode prog_1_method_6_code 8 = .ok (.dload_n 1, 1) := by decide +kernel
theorem d_Ps_feed_9 : decode prog_1_method_6_code 9 = .ok (.ldc2_w 115, 3) := by decide +kernel
theorem k_2_98 : Cond.constantDouble "PageScribe" 115 (4786511204640096256 : UInt64) ∈ gw := gw_of (tb_2 (List.mem_of_getElem? (i := 98) (by decide +kernel))) (by decide +kernel)
theorem d_Ps_feed_12 : decode prog_1_method_6_code 12 = .ok (.dcmp .g, 1) := by decide +kernel
theorem d_Ps_feed_13 : decode prog_1_method_6_code 13 = .ok (.ifCond .gt 20, 3) := by decide +kernel
theorem d_Ps_feed_16 : decode prog_1_method_6_code 16 = .ok (.aload_n 0, 1) := by decide +kernel
theorem d_Ps_feed_17 : decode prog_1_method_6_code 17 = .ok (.getfield 12, 3) := by decide +kernel
theorem d_Ps_feed_20 : decode prog_1_method_6_code 20 = .ok (.iconst 1, 1) := by decide +kernel
theorem d_Ps_feed_21 : decode prog_1_method_6_code 21 = .ok (.iconst 0, 1) := by decide +kernel
theorem d_Ps_feed_22 : decode prog_1_method_6_code 22 = .ok (.dload_n 1, 1) := by decide +kernel
theorem d_Ps_feed_23 : decode prog_1_method_6_code 23 = .ok (.invokevirtual 117, 3) := by decide +kernel
theorem k_2_99 : Cond.methodLink "PageScribe" 117 ⟨"PageScribe$Stack", "push", "(IID)I"⟩ ∈ gw := gw_of (tb_2 (List.mem_of_getElem? (i := 99) (by decide +kernel))) (by decide +kernel)
theorem d_Ps_feed_26 : decode prog_1_method_6_code 26 = .ok (.ifCond .ne 7, 3) := by decide +kernel
theorem d_Ps_feed_29 : decode prog_1_method_6_code 29 = .ok (.iconst 1, 1) := by decide +kernel
theorem d_Ps_feed_30 : decode prog_1_method_6_code 30 = .ok (.goto 4, 3) := by decide +kernel
set_option maxHeartbeats 4000000 in
set_option maxRecDepth 100000 in
theorem c_Ps_feed (l : Launch) (D : va_G) (T : Nat → ClassId) (ad : Nat → Nat) (S : CS) (d0 : UInt64) (sz : Nat)  (hI : CIv S) (h1 : dN d0) : Met l ⟨"PageScribe", "feed", "(D)Z"⟩ (wy ⟨"PageScribe", "feed", "(D)Z"⟩ prog_1_method_6_code 3 (some .boolean)) ({ frames := 1, cells := 0, slots := 0, locals := 70 }) (va_Pc [.ref (ad 0), .double d0] (Pw D T (cW T ad S) sz E0)) (va_Qi (fun (r : Int32) (u : CS) => CIv u ∧ kcL S u) (fun u t => Bw D T (va_A (cW T ad S) sz) (cW T ad u) t) (va_A (cW T ad S) sz)) 0 0 (va_A (cW T ad S) sz) := by
  refine j_met (y := ⟨"PageScribe", "feed", "(D)Z"⟩) (b := prog_1_method_6_code) (n := 3) (ret := (some .boolean)) (av := [.ref (ad 0), .double d0]) (Qc := fun A => va_Qi (fun (r : Int32) (u : CS) => CIv u ∧ kcL S u) (fun u t => Bw D T A (cW T ad u) t) A) (by decide +kernel) (Nat.le_of_ble_eq_true rfl) (fun p e s m args below meth c A ls F hr hlocks hnm hK hP hD hS hA hN hE hl => ?_)
  obtain ⟨hx, hb, hml, hown, hts⟩ := id F
  have hl : lv_has ls 3 [(0, .ref (ad 0)), (1, .double d0)] := hl
  obtain ⟨i_vst, i_vc0, i_vc1, i_vc2, i_vc3, i_vv0, i_vv1, i_vv2, i_vv3, i_vg, i_wct, i_wln, i_sd0, i_sd1, i_sd2, i_sd3, i_rln, i_rtx, i_rpl, i_rtk, i_cnv, i_pts, i_cik, i_und⟩ := id hI
  refine lv_dload_n hx hb d_Ps_feed_0 rfl (lv_at hl 1 rfl) ?_
  refine lv_ldc2d (v := 14009883241494872064) hx hb hown (hts _ k_2_97) d_Ps_feed_1 ?_
  have := tD_14009883241494872064
  refine lv_dcmp hx hb d_Ps_feed_4 ?_
  refine lv_topi (fun x1 ex1 => ?_)
  refine lv_if_lt (tgt := 33) hx hb d_Ps_feed_5 (by decide) (fun c5_1 => ?_) (fun c5_1 => ?_)
  · have fc5_1 : x1.toInt < 0 := zt_lt (show x1.toInt = _ from rfl) tI_0 c5_1
    have vc5_1 : dk d0 < dk 14009883241494872064 := by have := zr_dcmp (a := d0) (b := 14009883241494872064) ex1 (show dN d0 by omega) (show dN 14009883241494872064 by omega); have := zt_lt (show x1.toInt = _ from rfl) tI_0 c5_1; omega
    refine lv_iconst (v := 0) hx hb d_Ps_feed_33 (by decide) ?_
    exact j_zret F hr (by decide +kernel) hlocks hK hS S ⟨⟨i_vst, i_vc0, i_vc1, i_vc2, i_vc3, i_vv0, i_vv1, i_vv2, i_vv3, i_vg, i_wct, i_wln, i_sd0, i_sd1, i_sd2, i_sd3, i_rln, i_rtx, i_rpl, i_rtk, i_cnv, i_pts, i_cik, i_und⟩, (kcL_r S)⟩ hP hD d_Ps_feed_34
  · have fc5_1 : 0 ≤ x1.toInt := Int.not_lt.mp (zt_nlt (show x1.toInt = _ from rfl) tI_0 c5_1)
    have vc5_1 : dk d0 ≥ dk 14009883241494872064 := by have := zr_dcmp (a := d0) (b := 14009883241494872064) ex1 (show dN d0 by omega) (show dN 14009883241494872064 by omega); have := Int.not_lt.mp (zt_nlt (show x1.toInt = _ from rfl) tI_0 c5_1); omega
    refine lv_dload_n hx hb d_Ps_feed_8 rfl (lv_at hl 1 rfl) ?_
    refine lv_ldc2d (v := 4786511204640096256) hx hb hown (hts _ k_2_98) d_Ps_feed_9 ?_
    have := tD_4786511204640096256
    refine lv_dcmp hx hb d_Ps_feed_12 ?_
    refine lv_topi (fun x2 ex2 => ?_)
    refine lv_if_gt (tgt := 33) hx hb d_Ps_feed_13 (by decide) (fun c13_1 => ?_) (fun c13_1 => ?_)
    · have fc13_1 : 0 < x2.toInt := zt_lt tI_0 (show x2.toInt = _ from rfl) c13_1
      have vc13_1 : dk d0 > dk 4786511204640096256 := by have := zr_dcmp (a := d0) (b := 4786511204640096256) ex2 (show dN d0 by omega) (show dN 4786511204640096256 by omega); have := zt_lt tI_0 (show x2.toInt = _ from rfl) c13_1; omega
      refine lv_iconst (v := 0) hx hb d_Ps_feed_33 (by decide) ?_
      exact j_zret F hr (by decide +kernel) hlocks hK hS S ⟨⟨i_vst, i_vc0, i_vc1, i_vc2, i_vc3, i_vv0, i_vv1, i_vv2, i_vv3, i_vg, i_wct, i_wln, i_sd0, i_sd1, i_sd2, i_sd3, i_rln, i_rtx, i_rpl, i_rtk, i_cnv, i_pts, i_cik, i_und⟩, (kcL_r S)⟩ hP hD d_Ps_feed_34
    · have fc13_1 : x2.toInt ≤ 0 := Int.not_lt.mp (zt_nlt tI_0 (show x2.toInt = _ from rfl) c13_1)
      have vc13_1 : dk d0 ≤ dk 4786511204640096256 := by have := zr_dcmp (a := d0) (b := 4786511204640096256) ex2 (show dN d0 by omega) (show dN 4786511204640096256 by omega); have := Int.not_lt.mp (zt_nlt tI_0 (show x2.toInt = _ from rfl) c13_1); omega
      refine lv_aload_n hx hb d_Ps_feed_16 rfl (lv_at hl 0 rfl) ?_
      refine va_get (D := D) (ci := 10) (v := .ref (ad 1)) (C := "PageScribe") (T := F_Ps) (N := 6) hx hb hts i_Ps hown hK hP 0 (ce_0 _ _ _) cl_10 0 (by decide) (hts _ k_2_58) (fun _ h9 => h9) rfl d_Ps_feed_17 ?_
      refine lv_iconst (v := 1) hx hb d_Ps_feed_20 (by decide) ?_
      refine lv_iconst (v := 0) hx hb d_Ps_feed_21 (by decide) ?_
      refine lv_dload_n hx hb d_Ps_feed_22 rfl (lv_at hl 1 rfl) ?_
      refine jc_ci (w := (fun u => u)) hK hP hD hS hA (va_runU (As := [.int 1, .int 0, .double d0]) (rest := []) F (c_Row_push l D T ad S (1 : Int32) (0 : Int32) d0  s.heap.size ⟨i_vst, i_vc0, i_vc1, i_vc2, i_vc3, i_vv0, i_vv1, i_vv2, i_vv3, i_vg, i_wct, i_wln, i_sd0, i_sd1, i_sd2, i_sd3, i_rln, i_rtx, i_rpl, i_rtk, i_cnv, i_pts, i_cik, i_und⟩ (show dB d0 by have := tI_1; have := tI_0; omega)) (j_cU (k := 3) (C := "PageScribe$Stack") (owner := "PageScribe$Row") (x := ⟨"PageScribe$Stack", "push", "(IID)I"⟩) hts k_2_104 k_2_99 k_2_100 k_2_102 k_2_103 k_1_2 rfl (by decide +kernel) ⟨Nat.le_of_ble_eq_true rfl, Nat.le_of_ble_eq_true rfl⟩) (j_preV (q0 := 1) (ci := 0) hK hP hD csc csc_all csc_nd cl_0 (ce_1 _ _ _) (fun _ _ _ _ h => h) (fun _ _ _ => trivial)) rfl rfl hl.1 rfl (lv_room (Nat.le_of_ble_eq_true rfl)) d_Ps_feed_23 ⟨Nat.le_of_ble_eq_true rfl, Nat.le_of_ble_eq_true rfl⟩) (fun rv1 S1 H locs hw1 hP hD hS => ?_)
      have hP : va_P D classes (cW T ad S1) H := hP
      have hD : va_D A (cW T ad S1) := hD
      obtain ⟨⟨i_vst, i_vc0, i_vc1, i_vc2, i_vc3, i_vv0, i_vv1, i_vv2, i_vv3, i_vg, i_wct, i_wln, i_sd0, i_sd1, i_sd2, i_sd3, i_rln, i_rtx, i_rpl, i_rtk, i_cnv, i_pts, i_cik, i_und⟩, kpcL_S1, kpcP_S1, kpcU_S1, kpcW_S1⟩ := hw1
      have kScL_S1 : kcL S S1 := kcL_t (show kcL S S from (kcL_r S)) kpcL_S1
      have kScP_S1 : kcP S S1 := kcP_t (show kcP S S from (kcP_r S)) kpcP_S1
      have kScU_S1 : kcU S S1 := kcU_t (show kcU S S from (kcU_r S)) kpcU_S1
      have kScW_S1 : kcW S S1 := kcW_t (show kcW S S from (kcW_r S)) kpcW_S1
      have nxr_length_S1 : (f_xr_length S1).toInt = (f_xr_length S).toInt := congrArg Int32.toInt kpcL_S1
      have nxr_length_S1 : (f_xr_length S1).toInt = (f_xr_length S).toInt := congrArg Int32.toInt kpcP_S1.1
      have nxr_place_S1 : (f_xr_place S1).toInt = (f_xr_place S).toInt := congrArg Int32.toInt kpcP_S1.2.1
      have nxe_underWay_S1 : (f_xe_underWay S1).toInt = (f_xe_underWay S).toInt := congrArg Int32.toInt kpcU_S1
      have nxp_columns_S1 : (f_xp_columns S1).toInt = (f_xp_columns S).toInt := congrArg Int32.toInt kpcW_S1.1
      have nxp_rows_S1 : (f_xp_rows S1).toInt = (f_xp_rows S).toInt := congrArg Int32.toInt kpcW_S1.2
      have rrv1 := zt_rng rv1
      refine lv_if_ne (tgt := 33) hx hb d_Ps_feed_26 (by decide) (fun c26_1 => ?_) (fun c26_1 => ?_)
      · first | have fc26_1 : rv1.toInt < 0 := (by have := zt_ne (show rv1.toInt = _ from rfl) tI_0 c26_1; omega) | have fc26_1 : 0 < rv1.toInt := (by have := zt_ne (show rv1.toInt = _ from rfl) tI_0 c26_1; omega) | skip
        refine lv_iconst (v := 0) hx hb d_Ps_feed_33 (by decide) ?_
        exact j_zret F hr (by decide +kernel) hlocks hK hS S1 ⟨⟨i_vst, i_vc0, i_vc1, i_vc2, i_vc3, i_vv0, i_vv1, i_vv2, i_vv3, i_vg, i_wct, i_wln, i_sd0, i_sd1, i_sd2, i_sd3, i_rln, i_rtx, i_rpl, i_rtk, i_cnv, i_pts, i_cik, i_und⟩, kScL_S1⟩ hP hD d_Ps_feed_34
      · have fc26_1 : rv1.toInt = 0 := zt_eq (show rv1.toInt = _ from rfl) tI_0 c26_1
        refine lv_iconst (v := 1) hx hb d_Ps_feed_29 (by decide) ?_
        refine lv_goto (tgt := 34) hx hb d_Ps_feed_30 (by decide) ?_
        exact j_zret F hr (by decide +kernel) hlocks hK hS S1 ⟨⟨i_vst, i_vc0, i_vc1, i_vc2, i_vc3, i_vv0, i_vv1, i_vv2, i_vv3, i_vg, i_wct, i_wln, i_sd0, i_sd1, i_sd2, i_sd3, i_rln, i_rtx, i_rpl, i_rtk, i_cnv, i_pts, i_cik, i_und⟩, kScL_S1⟩ hP hD d_Ps_feed_34
theorem d_Ps_letter_0 : decode prog_1_method_11_code 0 = .ok (.aload_n 0, 1) := by decide +kernel
theorem d_Ps_letter_1 : decode prog_1_method_11_code 1 = .ok (.getfield 12, 3) := by decide +kernel
theorem d_Ps_letter_4 : decode prog_1_method_11_code 4 = .ok (.iload_n 1, 1) := by decide +kernel
theorem d_Ps_letter_5 : decode prog_1_method_11_code 5 = .ok (.invokevirtual 123, 3) := by decide +kernel
theorem k_2_116 : Cond.code ⟨"PageScribe$Stack", "hasDown", "(I)Z"⟩ prog_9_method_2_code 2 (some .boolean) ∈ gw := gw_of (tb_2 (List.mem_of_getElem? (i := 116) (by decide +kernel))) (by decide +kernel)
theorem k_2_113 : Cond.methodLink "PageScribe" 123 ⟨"PageScribe$Stack", "hasDown", "(I)Z"⟩ ∈ gw := gw_of (tb_2 (List.mem_of_getElem? (i := 113) (by decide +kernel))) (by decide +kernel)
theorem k_2_114 : Cond.instanceMethod ⟨"PageScribe$Stack", "hasDown", "(I)Z"⟩ ∈ gw := gw_of (tb_2 (List.mem_of_getElem? (i := 114) (by decide +kernel))) (by decide +kernel)
theorem k_2_115 : Cond.selects "PageScribe$Stack" ⟨"PageScribe$Stack", "hasDown", "(I)Z"⟩ ⟨"PageScribe$Stack", "hasDown", "(I)Z"⟩ ∈ gw := gw_of (tb_2 (List.mem_of_getElem? (i := 115) (by decide +kernel))) (by decide +kernel)
theorem d_Ps_letter_8 : decode prog_1_method_11_code 8 = .ok (.ifCond .eq 18, 3) := by decide +kernel
theorem d_Ps_letter_26 : decode prog_1_method_11_code 26 = .ok (.iconst (-1), 1) := by decide +kernel
theorem d_Ps_letter_27 : decode prog_1_method_11_code 27 = .ok (.ireturn, 1) := by decide +kernel
theorem d_Ps_letter_11 : decode prog_1_method_11_code 11 = .ok (.aload_n 0, 1) := by decide +kernel
theorem d_Ps_letter_12 : decode prog_1_method_11_code 12 = .ok (.getfield 12, 3) := by decide +kernel
theorem d_Ps_letter_15 : decode prog_1_method_11_code 15 = .ok (.iload_n 1, 1) := by decide +kernel
theorem d_Ps_letter_16 : decode prog_1_method_11_code 16 = .ok (.invokevirtual 132, 3) := by decide +kernel
theorem k_2_117 : Cond.methodLink "PageScribe" 132 ⟨"PageScribe$Stack", "kindDown", "(I)I"⟩ ∈ gw := gw_of (tb_2 (List.mem_of_getElem? (i := 117) (by decide +kernel))) (by decide +kernel)
theorem d_Ps_letter_19 : decode prog_1_method_11_code 19 = .ok (.bipush 7, 2) := by decide +kernel
theorem d_Ps_letter_21 : decode prog_1_method_11_code 21 = .ok (.iand, 1) := by decide +kernel
theorem d_Ps_letter_22 : decode prog_1_method_11_code 22 = .ok (.iconst 3, 1) := by decide +kernel
theorem d_Ps_letter_23 : decode prog_1_method_11_code 23 = .ok (.if_icmp .eq 5, 3) := by decide +kernel
theorem d_Ps_letter_28 : decode prog_1_method_11_code 28 = .ok (.aload_n 0, 1) := by decide +kernel
theorem d_Ps_letter_29 : decode prog_1_method_11_code 29 = .ok (.getfield 19, 3) := by decide +kernel
theorem k_2_59 : Cond.fieldLink "PageScribe" 19 "PageScribe" "words" "LPageScribe$Words;" ∈ gw := gw_of (tb_2 (List.mem_of_getElem? (i := 59) (by decide +kernel))) (by decide +kernel)
theorem d_Ps_letter_32 : decode prog_1_method_11_code 32 = .ok (.aload_n 0, 1) := by decide +kernel
theorem d_Ps_letter_33 : decode prog_1_method_11_code 33 = .ok (.getfield 12, 3) := by decide +kernel
theorem d_Ps_letter_36 : decode prog_1_method_11_code 36 = .ok (.iload_n 1, 1) := by decide +kernel
theorem d_Ps_letter_37 : decode prog_1_method_11_code 37 = .ok (.invokevirtual 136, 3) := by decide +kernel
theorem k_2_127 : Cond.methodLink "PageScribe" 136 ⟨"PageScribe$Stack", "numberDown", "(I)I"⟩ ∈ gw := gw_of (tb_2 (List.mem_of_getElem? (i := 127) (by decide +kernel))) (by decide +kernel)
theorem d_Ps_letter_40 : decode prog_1_method_11_code 40 = .ok (.iload_n 2, 1) := by decide +kernel
theorem d_Ps_letter_41 : decode prog_1_method_11_code 41 = .ok (.invokevirtual 154, 3) := by decide +kernel
theorem k_2_140 : Cond.code ⟨"PageScribe$Words", "letterOf", "(II)I"⟩ prog_13_method_7_code 3 (some .int) ∈ gw := gw_of (tb_2 (List.mem_of_getElem? (i := 140) (by decide +kernel))) (by decide +kernel)
theorem k_2_137 : Cond.methodLink "PageScribe" 154 ⟨"PageScribe$Words", "letterOf", "(II)I"⟩ ∈ gw := gw_of (tb_2 (List.mem_of_getElem? (i := 137) (by decide +kernel))) (by decide +kernel)
theorem k_2_138 : Cond.instanceMethod ⟨"PageScribe$Words", "letterOf", "(II)I"⟩ ∈ gw := gw_of (tb_2 (List.mem_of_getElem? (i := 138) (by decide +kernel))) (by decide +kernel)
theorem k_2_139 : Cond.selects "PageScribe$Words" ⟨"PageScribe$Words", "letterOf", "(II)I"⟩ ⟨"PageScribe$Words", "letterOf", "(II)I"⟩ ∈ gw := gw_of (tb_2 (List.mem_of_getElem? (i := 139) (by decide +kernel))) (by decide +kernel)
theorem d_Ps_letter_44 : decode prog_1_method_11_code 44 = .ok (.ireturn, 1) := by decide +kernel
set_option maxHeartbeats 4000000 in
set_option maxRecDepth 100000 in
theorem c_Ps_letter (l : Launch) (D : va_G) (T : Nat → ClassId) (ad : Nat → Nat) (g : GE) (Bq : Nat → Prop) (S : CS) (p0 : Int32) (p1 : Int32) (sz : Nat)  (hI : CIv S) : Met l ⟨"PageScribe", "letter", "(II)I"⟩ (wy ⟨"PageScribe", "letter", "(II)I"⟩ prog_1_method_11_code 3 (some .int)) ({ frames := 5, cells := 0, slots := 0, locals := 350 }) (va_Pc [.ref (ad 0), .int p0, .int p1] (Pw D T (cW T ad S) sz (EC g Bq ad))) (va_Qi (fun (r : Int32) (u : Unit) => True) (fun u t => Bw D T (va_A (cW T ad S) sz) (cW T ad S) t) (va_A (cW T ad S) sz)) 0 0 (va_A (cW T ad S) sz) := by
  refine j_met (y := ⟨"PageScribe", "letter", "(II)I"⟩) (b := prog_1_method_11_code) (n := 3) (ret := (some .int)) (av := [.ref (ad 0), .int p0, .int p1]) (Qc := fun A => va_Qi (fun (r : Int32) (u : Unit) => True) (fun u t => Bw D T A (cW T ad S) t) A) (by decide +kernel) (Nat.le_of_ble_eq_true rfl) (fun p e s m args below meth c A ls F hr hlocks hnm hK hP hD hS hA hN hE hl => ?_)
  obtain ⟨hx, hb, hml, hown, hts⟩ := id F
  have hl : lv_has ls 3 [(0, .ref (ad 0)), (1, .int p0), (2, .int p1)] := hl
  obtain ⟨i_vst, i_vc0, i_vc1, i_vc2, i_vc3, i_vv0, i_vv1, i_vv2, i_vv3, i_vg, i_wct, i_wln, i_sd0, i_sd1, i_sd2, i_sd3, i_rln, i_rtx, i_rpl, i_rtk, i_cnv, i_pts, i_cik, i_und⟩ := id hI
  have hAB : ∀ q, A q → Bq q := EC.ab hE hN
  have hEV := hE.1.narrow hAB
  have rp0 := zt_rng p0
  have rp1 := zt_rng p1
  refine lv_aload_n hx hb d_Ps_letter_0 rfl (lv_at hl 0 rfl) ?_
  refine va_get (D := D) (ci := 10) (v := .ref (ad 1)) (C := "PageScribe") (T := F_Ps) (N := 6) hx hb hts i_Ps hown hK hP 0 (ce_0 _ _ _) cl_10 0 (by decide) (hts _ k_2_58) (fun _ h9 => h9) rfl d_Ps_letter_1 ?_
  refine lv_iload_n hx hb d_Ps_letter_4 rfl (lv_at hl 1 rfl) ?_
  refine jc_ci (w := (fun _ => S)) hK hP hD hS hA (va_runV (As := [.int p0]) (rest := []) F (c_Stack_hasDown l D T ad S p0  s.heap.size) (j_cV (k := 1) (C := "PageScribe$Stack") hts k_2_116 k_1_3 k_2_113 k_2_114 k_2_115 (by decide +kernel) ⟨Nat.le_of_ble_eq_true rfl, Nat.le_of_ble_eq_true rfl⟩) (j_preV (q0 := 1) (ci := 0) hK hP hD csc csc_all csc_nd cl_0 (ce_1 _ _ _) (fun _ _ _ _ h => h) (fun _ _ _ => trivial)) rfl rfl hl.1 rfl (lv_room (Nat.le_of_ble_eq_true rfl)) d_Ps_letter_5 ⟨Nat.le_of_ble_eq_true rfl, Nat.le_of_ble_eq_true rfl⟩) (fun rv1 u1 H locs hw1 hP hD hS => ?_)
  have hP : va_P D classes (cW T ad S) H := hP
  have hD : va_D A (cW T ad S) := hD
  have qhw1 : rv1.toInt = 0 ∨ rv1.toInt = 1 := hw1
  have rrv1 := zt_rng rv1
  refine lv_if_eq (tgt := 26) hx hb d_Ps_letter_8 (by decide) (fun c8_1 => ?_) (fun c8_1 => ?_)
  · have fc8_1 : rv1.toInt = 0 := zt_eq (show rv1.toInt = _ from rfl) tI_0 c8_1
    refine lv_iconst (v := (-1)) hx hb d_Ps_letter_26 (by decide) ?_
    exact j_iret F hr hlocks hK hS () trivial hP hD d_Ps_letter_27
  · first | have fc8_1 : rv1.toInt < 0 := (by have := zt_ne (show rv1.toInt = _ from rfl) tI_0 c8_1; omega) | have fc8_1 : 0 < rv1.toInt := (by have := zt_ne (show rv1.toInt = _ from rfl) tI_0 c8_1; omega) | skip
    refine lv_aload_n hx hb d_Ps_letter_11 rfl (lv_at hl 0 rfl) ?_
    refine va_get (D := D) (ci := 10) (v := .ref (ad 1)) (C := "PageScribe") (T := F_Ps) (N := 6) hx hb hts i_Ps hown hK hP 0 (ce_0 _ _ _) cl_10 0 (by decide) (hts _ k_2_58) (fun _ h9 => h9) rfl d_Ps_letter_12 ?_
    refine lv_iload_n hx hb d_Ps_letter_15 rfl (lv_at hl 1 rfl) ?_
    refine jc_ci (w := (fun _ => S)) hK hP hD hS hA (va_runV (As := [.int p0]) (rest := []) F (c_Stack_kindDown l D T ad S p0  H.size) (j_cV (k := 1) (C := "PageScribe$Stack") hts k_2_120 k_1_3 k_2_117 k_2_118 k_2_119 (by decide +kernel) ⟨Nat.le_of_ble_eq_true rfl, Nat.le_of_ble_eq_true rfl⟩) (j_preV (q0 := 1) (ci := 0) hK hP hD csc csc_all csc_nd cl_0 (ce_1 _ _ _) (fun _ _ _ _ h => h) (fun _ _ _ => trivial)) rfl rfl hl.1 rfl (lv_room (Nat.le_of_ble_eq_true rfl)) d_Ps_letter_16 ⟨Nat.le_of_ble_eq_true rfl, Nat.le_of_ble_eq_true rfl⟩) (fun rv2 u2 H locs hw2 hP hD hS => ?_)
    have hP : va_P D classes (cW T ad S) H := hP
    have hD : va_D A (cW T ad S) := hD
    have rrv2 := zt_rng rv2
    refine lv_bipush (v := 7) hx hb d_Ps_letter_19 (by decide) ?_
    refine lv_iand hx hb d_Ps_letter_21 ?_
    refine lv_topi (fun x1 ex1 => ?_)
    have rx1 := zt_rng x1
    refine lv_iconst (v := 3) hx hb d_Ps_letter_22 (by decide) ?_
    refine lv_icmp_eq (tgt := 28) hx hb d_Ps_letter_23 (by decide) (fun c23_1 => ?_) (fun c23_1 => ?_)
    · have fc23_1 : x1.toInt = 3 := zt_eq (show x1.toInt = _ from rfl) tI_3 c23_1
      refine lv_aload_n hx hb d_Ps_letter_28 rfl (lv_at hl 0 rfl) ?_
      refine va_get (D := D) (ci := 10) (v := .ref (ad 5)) (C := "PageScribe") (T := F_Ps) (N := 6) hx hb hts i_Ps hown hK hP 0 (ce_0 _ _ _) cl_10 1 (by decide) (hts _ k_2_59) (fun _ h9 => h9) rfl d_Ps_letter_29 ?_
      refine lv_aload_n hx hb d_Ps_letter_32 rfl (lv_at hl 0 rfl) ?_
      refine va_get (D := D) (ci := 10) (v := .ref (ad 1)) (C := "PageScribe") (T := F_Ps) (N := 6) hx hb hts i_Ps hown hK hP 0 (ce_0 _ _ _) cl_10 0 (by decide) (hts _ k_2_58) (fun _ h9 => h9) rfl d_Ps_letter_33 ?_
      refine lv_iload_n hx hb d_Ps_letter_36 rfl (lv_at hl 1 rfl) ?_
      refine jc_ci (w := (fun _ => S)) hK hP hD hS hA (va_runV (As := [.int p0]) (rest := [.ref (ad 5)]) F (c_Stack_numberDown l D T ad S p0  H.size) (j_cV (k := 1) (C := "PageScribe$Stack") hts k_2_130 k_1_3 k_2_127 k_2_128 k_2_129 (by decide +kernel) ⟨Nat.le_of_ble_eq_true rfl, Nat.le_of_ble_eq_true rfl⟩) (j_preV (q0 := 1) (ci := 0) hK hP hD csc csc_all csc_nd cl_0 (ce_1 _ _ _) (fun _ _ _ _ h => h) (fun _ _ _ => trivial)) rfl rfl hl.1 rfl (lv_room (Nat.le_of_ble_eq_true rfl)) d_Ps_letter_37 ⟨Nat.le_of_ble_eq_true rfl, Nat.le_of_ble_eq_true rfl⟩) (fun rv3 u3 H locs hw3 hP hD hS => ?_)
      have hP : va_P D classes (cW T ad S) H := hP
      have hD : va_D A (cW T ad S) := hD
      have rrv3 := zt_rng rv3
      refine lv_iload_n hx hb d_Ps_letter_40 rfl (lv_at hl 2 rfl) ?_
      refine jc_ci (w := (fun _ => S)) hK hP hD hS hA (va_runV (As := [.int rv3, .int p1]) (rest := []) F (c_Words_letterOf l D T ad g Bq S rv3 p1  H.size ⟨i_vst, i_vc0, i_vc1, i_vc2, i_vc3, i_vv0, i_vv1, i_vv2, i_vv3, i_vg, i_wct, i_wln, i_sd0, i_sd1, i_sd2, i_sd3, i_rln, i_rtx, i_rpl, i_rtk, i_cnv, i_pts, i_cik, i_und⟩) (j_cV (k := 2) (C := "PageScribe$Words") hts k_2_140 k_1_4 k_2_137 k_2_138 k_2_139 (by decide +kernel) ⟨Nat.le_of_ble_eq_true rfl, Nat.le_of_ble_eq_true rfl⟩) (j_preV (q0 := 5) (ci := 1) hK hP hD csc csc_all csc_nd cl_1 (ce_5 _ _ _) (fun _ _ _ _ h => EC.calling h) (fun U hU hW => EC.at hS hAB hU hW hE)) rfl rfl hl.1 rfl (lv_room (Nat.le_of_ble_eq_true rfl)) d_Ps_letter_41 ⟨Nat.le_of_ble_eq_true rfl, Nat.le_of_ble_eq_true rfl⟩) (fun rv4 u4 H locs hw4 hP hD hS => ?_)
      have hP : va_P D classes (cW T ad S) H := hP
      have hD : va_D A (cW T ad S) := hD
      have rrv4 := zt_rng rv4
      exact j_iret F hr hlocks hK hS () trivial hP hD d_Ps_letter_44
    · first | have fc23_1 : x1.toInt < 3 := (by have := zt_ne (show x1.toInt = _ from rfl) tI_3 c23_1; omega) | have fc23_1 : 3 < x1.toInt := (by have := zt_ne (show x1.toInt = _ from rfl) tI_3 c23_1; omega) | skip
      refine lv_iconst (v := (-1)) hx hb d_Ps_letter_26 (by decide) ?_
      exact j_iret F hr hlocks hK hS () trivial hP hD d_Ps_letter_27
theorem d_Ps_used_0 : decode prog_1_method_12_code 0 = .ok (.iload_n 1, 1) := by decide +kernel
theorem d_Ps_used_1 : decode prog_1_method_12_code 1 = .ok (.tableswitch 108 0 6 #[43, 57, 68, 76, 84, 92, 100], 43) := by decide +kernel
theorem d_Ps_used_44 : decode prog_1_method_12_code 44 = .ok (.aload_n 0, 1) := by decide +kernel
theorem d_Ps_used_45 : decode prog_1_method_12_code 45 = .ok (.getfield 28, 3) := by decide +kernel
theorem k_2_60 : Cond.fieldLink "PageScribe" 28 "PageScribe" "memory" "LPageScribe$Memory;" ∈ gw := gw_of (tb_2 (List.mem_of_getElem? (i := 60) (by decide +kernel))) (by decide +kernel)
theorem d_Ps_used_48 : decode prog_1_method_12_code 48 = .ok (.getfield 34, 3) := by decide +kernel
theorem k_1_131 : Cond.fieldLink "PageScribe" 34 "PageScribe$Memory" "store" "LPageScribe$Store;" ∈ gw := gw_of (tb_1 (List.mem_of_getElem? (i := 131) (by decide +kernel))) (by decide +kernel)
theorem d_Ps_used_51 : decode prog_1_method_12_code 51 = .ok (.getfield 158, 3) := by decide +kernel
theorem k_1_110 : Cond.fieldLink "PageScribe" 158 "PageScribe$Store" "cells" "LPageScribe$Row;" ∈ gw := gw_of (tb_1 (List.mem_of_getElem? (i := 110) (by decide +kernel))) (by decide +kernel)
theorem d_Ps_used_54 : decode prog_1_method_12_code 54 = .ok (.getfield 164, 3) := by decide +kernel
theorem k_1_57 : Cond.fieldLink "PageScribe" 164 "PageScribe$Row" "size" "I" ∈ gw := gw_of (tb_1 (List.mem_of_getElem? (i := 57) (by decide +kernel))) (by decide +kernel)
theorem d_Ps_used_57 : decode prog_1_method_12_code 57 = .ok (.ireturn, 1) := by decide +kernel
theorem d_Ps_used_58 : decode prog_1_method_12_code 58 = .ok (.aload_n 0, 1) := by decide +kernel
theorem d_Ps_used_59 : decode prog_1_method_12_code 59 = .ok (.getfield 28, 3) := by decide +kernel
theorem d_Ps_used_62 : decode prog_1_method_12_code 62 = .ok (.getfield 34, 3) := by decide +kernel
theorem d_Ps_used_65 : decode prog_1_method_12_code 65 = .ok (.invokevirtual 167, 3) := by decide +kernel
theorem k_2_202 : Cond.code ⟨"PageScribe$Store", "dictsMade", "()I"⟩ prog_10_method_5_code 3 (some .int) ∈ gw := gw_of (tb_2 (List.mem_of_getElem? (i := 202) (by decide +kernel))) (by decide +kernel)
theorem k_2_199 : Cond.methodLink "PageScribe" 167 ⟨"PageScribe$Store", "dictsMade", "()I"⟩ ∈ gw := gw_of (tb_2 (List.mem_of_getElem? (i := 199) (by decide +kernel))) (by decide +kernel)
theorem k_2_200 : Cond.instanceMethod ⟨"PageScribe$Store", "dictsMade", "()I"⟩ ∈ gw := gw_of (tb_2 (List.mem_of_getElem? (i := 200) (by decide +kernel))) (by decide +kernel)
theorem k_2_201 : Cond.selects "PageScribe$Store" ⟨"PageScribe$Store", "dictsMade", "()I"⟩ ⟨"PageScribe$Store", "dictsMade", "()I"⟩ ∈ gw := gw_of (tb_2 (List.mem_of_getElem? (i := 201) (by decide +kernel))) (by decide +kernel)
theorem d_Ps_used_68 : decode prog_1_method_12_code 68 = .ok (.ireturn, 1) := by decide +kernel
theorem d_Ps_used_69 : decode prog_1_method_12_code 69 = .ok (.aload_n 0, 1) := by decide +kernel
theorem d_Ps_used_70 : decode prog_1_method_12_code 70 = .ok (.getfield 28, 3) := by decide +kernel
theorem d_Ps_used_73 : decode prog_1_method_12_code 73 = .ok (.getfield 170, 3) := by decide +kernel
theorem k_1_135 : Cond.fieldLink "PageScribe" 170 "PageScribe$Memory" "scopeCount" "I" ∈ gw := gw_of (tb_1 (List.mem_of_getElem? (i := 135) (by decide +kernel))) (by decide +kernel)
theorem d_Ps_used_76 : decode prog_1_method_12_code 76 = .ok (.ireturn, 1) := by decide +kernel
theorem d_Ps_used_77 : decode prog_1_method_12_code 77 = .ok (.aload_n 0, 1) := by decide +kernel
theorem d_Ps_used_78 : decode prog_1_method_12_code 78 = .ok (.getfield 28, 3) := by decide +kernel
theorem d_Ps_used_81 : decode prog_1_method_12_code 81 = .ok (.getfield 173, 3) := by decide +kernel
theorem k_1_139 : Cond.fieldLink "PageScribe" 173 "PageScribe$Memory" "openSaves" "I" ∈ gw := gw_of (tb_1 (List.mem_of_getElem? (i := 139) (by decide +kernel))) (by decide +kernel)
theorem d_Ps_used_84 : decode prog_1_method_12_code 84 = .ok (.ireturn, 1) := by decide +kernel
theorem d_Ps_used_85 : decode prog_1_method_12_code 85 = .ok (.aload_n 0, 1) := by decide +kernel
theorem d_Ps_used_86 : decode prog_1_method_12_code 86 = .ok (.getfield 50, 3) := by decide +kernel
theorem k_2_62 : Cond.fieldLink "PageScribe" 50 "PageScribe" "canvas" "LPageScribe$Canvas;" ∈ gw := gw_of (tb_2 (List.mem_of_getElem? (i := 62) (by decide +kernel))) (by decide +kernel)
theorem d_Ps_used_89 : decode prog_1_method_12_code 89 = .ok (.getfield 176, 3) := by decide +kernel
theorem k_1_216 : Cond.fieldLink "PageScribe" 176 "PageScribe$Canvas" "points" "I" ∈ gw := gw_of (tb_1 (List.mem_of_getElem? (i := 216) (by decide +kernel))) (by decide +kernel)
theorem d_Ps_used_92 : decode prog_1_method_12_code 92 = .ok (.ireturn, 1) := by decide +kernel
theorem d_Ps_used_93 : decode prog_1_method_12_code 93 = .ok (.aload_n 0, 1) := by decide +kernel
theorem d_Ps_used_94 : decode prog_1_method_12_code 94 = .ok (.getfield 19, 3) := by decide +kernel
theorem d_Ps_used_97 : decode prog_1_method_12_code 97 = .ok (.getfield 179, 3) := by decide +kernel
theorem k_1_78 : Cond.fieldLink "PageScribe" 179 "PageScribe$Words" "count" "I" ∈ gw := gw_of (tb_1 (List.mem_of_getElem? (i := 78) (by decide +kernel))) (by decide +kernel)
theorem d_Ps_used_100 : decode prog_1_method_12_code 100 = .ok (.ireturn, 1) := by decide +kernel
theorem d_Ps_used_101 : decode prog_1_method_12_code 101 = .ok (.aload_n 0, 1) := by decide +kernel
theorem d_Ps_used_102 : decode prog_1_method_12_code 102 = .ok (.getfield 41, 3) := by decide +kernel
theorem d_Ps_used_105 : decode prog_1_method_12_code 105 = .ok (.getfield 182, 3) := by decide +kernel
theorem k_1_170 : Cond.fieldLink "PageScribe" 182 "PageScribe$Reader" "length" "I" ∈ gw := gw_of (tb_1 (List.mem_of_getElem? (i := 170) (by decide +kernel))) (by decide +kernel)
theorem d_Ps_used_108 : decode prog_1_method_12_code 108 = .ok (.ireturn, 1) := by decide +kernel
theorem d_Ps_used_109 : decode prog_1_method_12_code 109 = .ok (.iconst (-1), 1) := by decide +kernel
theorem d_Ps_used_110 : decode prog_1_method_12_code 110 = .ok (.ireturn, 1) := by decide +kernel
set_option maxHeartbeats 4000000 in
set_option maxRecDepth 100000 in
theorem c_Ps_used (l : Launch) (D : va_G) (T : Nat → ClassId) (ad : Nat → Nat) (S : CS) (p0 : Int32) (sz : Nat)  (hI : CIv S) : Met l ⟨"PageScribe", "used", "(I)I"⟩ (wy ⟨"PageScribe", "used", "(I)I"⟩ prog_1_method_12_code 2 (some .int)) ({ frames := 1, cells := 0, slots := 0, locals := 70 }) (va_Pc [.ref (ad 0), .int p0] (Pw D T (cW T ad S) sz E0)) (va_Qi (fun (r : Int32) (u : Unit) => True) (fun u t => Bw D T (va_A (cW T ad S) sz) (cW T ad S) t) (va_A (cW T ad S) sz)) 0 0 (va_A (cW T ad S) sz) := by
  refine j_met (y := ⟨"PageScribe", "used", "(I)I"⟩) (b := prog_1_method_12_code) (n := 2) (ret := (some .int)) (av := [.ref (ad 0), .int p0]) (Qc := fun A => va_Qi (fun (r : Int32) (u : Unit) => True) (fun u t => Bw D T A (cW T ad S) t) A) (by decide +kernel) (Nat.le_of_ble_eq_true rfl) (fun p e s m args below meth c A ls F hr hlocks hnm hK hP hD hS hA hN hE hl => ?_)
  obtain ⟨hx, hb, hml, hown, hts⟩ := id F
  have hl : lv_has ls 2 [(0, .ref (ad 0)), (1, .int p0)] := hl
  obtain ⟨i_vst, i_vc0, i_vc1, i_vc2, i_vc3, i_vv0, i_vv1, i_vv2, i_vv3, i_vg, i_wct, i_wln, i_sd0, i_sd1, i_sd2, i_sd3, i_rln, i_rtx, i_rpl, i_rtk, i_cnv, i_pts, i_cik, i_und⟩ := id hI
  have rp0 := zt_rng p0
  refine lv_iload_n hx hb d_Ps_used_0 rfl (lv_at hl 1 rfl) ?_
  by_cases h_0_1 : p0.toInt = 0
  · refine lv_tableIn (off := 43) (tgt := 44) hx hb d_Ps_used_1 (by omega) (by omega) (by rw [show p0.toInt = 0 from h_0_1]; decide +kernel) (by decide) ?_
    refine lv_aload_n hx hb d_Ps_used_44 rfl (lv_at hl 0 rfl) ?_
    refine va_get (D := D) (ci := 10) (v := .ref (ad 8)) (C := "PageScribe") (T := F_Ps) (N := 6) hx hb hts i_Ps hown hK hP 0 (ce_0 _ _ _) cl_10 2 (by decide) (hts _ k_2_60) (fun _ h9 => h9) rfl d_Ps_used_45 ?_
    refine va_get (D := D) (ci := 2) (v := .ref (ad 12)) (C := "PageScribe$Memory") (T := F_Memory) (N := 8) hx hb hts i_Memory hown hK hP 8 (ce_8 _ _ _) cl_2 1 (by decide) (hts _ k_1_131) (fun _ h9 => h9) rfl d_Ps_used_48 ?_
    refine va_get (D := D) (ci := 3) (v := .ref (ad 13)) (C := "PageScribe$Store") (T := F_Store) (N := 5) hx hb hts i_Store hown hK hP 12 (ce_12 _ _ _) cl_3 0 (by decide) (hts _ k_1_110) (fun _ h9 => h9) rfl d_Ps_used_51 ?_
    refine va_get (D := D) (ci := 4) (v := .int (f_xc0_z S)) (C := "PageScribe$Row") (T := F_Row) (N := 4) hx hb hts i_Row hown hK hP 13 (ce_13 _ _ _) cl_4 3 (by decide) (hts _ k_1_57) (fun _ h9 => h9) rfl d_Ps_used_54 ?_
    exact j_iret F hr hlocks hK hS () trivial hP hD d_Ps_used_57
  by_cases h_1_1 : p0.toInt = 1
  · refine lv_tableIn (off := 57) (tgt := 58) hx hb d_Ps_used_1 (by omega) (by omega) (by rw [show p0.toInt = 1 from h_1_1]; decide +kernel) (by decide) ?_
    refine lv_aload_n hx hb d_Ps_used_58 rfl (lv_at hl 0 rfl) ?_
    refine va_get (D := D) (ci := 10) (v := .ref (ad 8)) (C := "PageScribe") (T := F_Ps) (N := 6) hx hb hts i_Ps hown hK hP 0 (ce_0 _ _ _) cl_10 2 (by decide) (hts _ k_2_60) (fun _ h9 => h9) rfl d_Ps_used_59 ?_
    refine va_get (D := D) (ci := 2) (v := .ref (ad 12)) (C := "PageScribe$Memory") (T := F_Memory) (N := 8) hx hb hts i_Memory hown hK hP 8 (ce_8 _ _ _) cl_2 1 (by decide) (hts _ k_1_131) (fun _ h9 => h9) rfl d_Ps_used_62 ?_
    refine jc_ci (w := (fun _ => S)) hK hP hD hS hA (va_runV (As := []) (rest := []) F (c_Store_dictsMade l D T ad S  s.heap.size) (j_cV (k := 0) (C := "PageScribe$Store") hts k_2_202 k_1_6 k_2_199 k_2_200 k_2_201 (by decide +kernel) ⟨Nat.le_of_ble_eq_true rfl, Nat.le_of_ble_eq_true rfl⟩) (j_preV (q0 := 12) (ci := 3) hK hP hD csc csc_all csc_nd cl_3 (ce_12 _ _ _) (fun _ _ _ _ h => h) (fun _ _ _ => trivial)) rfl rfl hl.1 rfl (lv_room (Nat.le_of_ble_eq_true rfl)) d_Ps_used_65 ⟨Nat.le_of_ble_eq_true rfl, Nat.le_of_ble_eq_true rfl⟩) (fun rv1 u1 H locs hw1 hP hD hS => ?_)
    have hP : va_P D classes (cW T ad S) H := hP
    have hD : va_D A (cW T ad S) := hD
    have rrv1 := zt_rng rv1
    exact j_iret F hr hlocks hK hS () trivial hP hD d_Ps_used_68
  by_cases h_2_1 : p0.toInt = 2
  · refine lv_tableIn (off := 68) (tgt := 69) hx hb d_Ps_used_1 (by omega) (by omega) (by rw [show p0.toInt = 2 from h_2_1]; decide +kernel) (by decide) ?_
    refine lv_aload_n hx hb d_Ps_used_69 rfl (lv_at hl 0 rfl) ?_
    refine va_get (D := D) (ci := 10) (v := .ref (ad 8)) (C := "PageScribe") (T := F_Ps) (N := 6) hx hb hts i_Ps hown hK hP 0 (ce_0 _ _ _) cl_10 2 (by decide) (hts _ k_2_60) (fun _ h9 => h9) rfl d_Ps_used_70 ?_
    refine va_get (D := D) (ci := 2) (v := .int (f_xm_scopeCount S)) (C := "PageScribe$Memory") (T := F_Memory) (N := 8) hx hb hts i_Memory hown hK hP 8 (ce_8 _ _ _) cl_2 3 (by decide) (hts _ k_1_135) (fun _ h9 => h9) rfl d_Ps_used_73 ?_
    exact j_iret F hr hlocks hK hS () trivial hP hD d_Ps_used_76
  by_cases h_3_1 : p0.toInt = 3
  · refine lv_tableIn (off := 76) (tgt := 77) hx hb d_Ps_used_1 (by omega) (by omega) (by rw [show p0.toInt = 3 from h_3_1]; decide +kernel) (by decide) ?_
    refine lv_aload_n hx hb d_Ps_used_77 rfl (lv_at hl 0 rfl) ?_
    refine va_get (D := D) (ci := 10) (v := .ref (ad 8)) (C := "PageScribe") (T := F_Ps) (N := 6) hx hb hts i_Ps hown hK hP 0 (ce_0 _ _ _) cl_10 2 (by decide) (hts _ k_2_60) (fun _ h9 => h9) rfl d_Ps_used_78 ?_
    refine va_get (D := D) (ci := 2) (v := .int (f_xm_openSaves S)) (C := "PageScribe$Memory") (T := F_Memory) (N := 8) hx hb hts i_Memory hown hK hP 8 (ce_8 _ _ _) cl_2 6 (by decide) (hts _ k_1_139) (fun _ h9 => h9) rfl d_Ps_used_81 ?_
    exact j_iret F hr hlocks hK hS () trivial hP hD d_Ps_used_84
  by_cases h_4_1 : p0.toInt = 4
  · refine lv_tableIn (off := 84) (tgt := 85) hx hb d_Ps_used_1 (by omega) (by omega) (by rw [show p0.toInt = 4 from h_4_1]; decide +kernel) (by decide) ?_
    refine lv_aload_n hx hb d_Ps_used_85 rfl (lv_at hl 0 rfl) ?_
    refine va_get (D := D) (ci := 10) (v := .ref (ad 67)) (C := "PageScribe") (T := F_Ps) (N := 6) hx hb hts i_Ps hown hK hP 0 (ce_0 _ _ _) cl_10 4 (by decide) (hts _ k_2_62) (fun _ h9 => h9) rfl d_Ps_used_86 ?_
    refine va_get (D := D) (ci := 6) (v := .int (f_xp_points S)) (C := "PageScribe$Canvas") (T := F_Canvas) (N := 9) hx hb hts i_Canvas hown hK hP 67 (ce_67 _ _ _) cl_6 8 (by decide) (hts _ k_1_216) (fun _ h9 => h9) rfl d_Ps_used_89 ?_
    exact j_iret F hr hlocks hK hS () trivial hP hD d_Ps_used_92
  by_cases h_5_1 : p0.toInt = 5
  · refine lv_tableIn (off := 92) (tgt := 93) hx hb d_Ps_used_1 (by omega) (by omega) (by rw [show p0.toInt = 5 from h_5_1]; decide +kernel) (by decide) ?_
    refine lv_aload_n hx hb d_Ps_used_93 rfl (lv_at hl 0 rfl) ?_
    refine va_get (D := D) (ci := 10) (v := .ref (ad 5)) (C := "PageScribe") (T := F_Ps) (N := 6) hx hb hts i_Ps hown hK hP 0 (ce_0 _ _ _) cl_10 1 (by decide) (hts _ k_2_59) (fun _ h9 => h9) rfl d_Ps_used_94 ?_
    refine va_get (D := D) (ci := 1) (v := .int (f_xw_count S)) (C := "PageScribe$Words") (T := F_Words) (N := 3) hx hb hts i_Words hown hK hP 5 (ce_5 _ _ _) cl_1 2 (by decide) (hts _ k_1_78) (fun _ h9 => h9) rfl d_Ps_used_97 ?_
    exact j_iret F hr hlocks hK hS () trivial hP hD d_Ps_used_100
  by_cases h_6_1 : p0.toInt = 6
  · refine lv_tableIn (off := 100) (tgt := 101) hx hb d_Ps_used_1 (by omega) (by omega) (by rw [show p0.toInt = 6 from h_6_1]; decide +kernel) (by decide) ?_
    refine lv_aload_n hx hb d_Ps_used_101 rfl (lv_at hl 0 rfl) ?_
    refine va_get (D := D) (ci := 10) (v := .ref (ad 60)) (C := "PageScribe") (T := F_Ps) (N := 6) hx hb hts i_Ps hown hK hP 0 (ce_0 _ _ _) cl_10 3 (by decide) (hts _ k_2_61) (fun _ h9 => h9) rfl d_Ps_used_102 ?_
    refine va_get (D := D) (ci := 5) (v := .int (f_xr_length S)) (C := "PageScribe$Reader") (T := F_Reader) (N := 10) hx hb hts i_Reader hown hK hP 60 (ce_60 _ _ _) cl_5 3 (by decide) (hts _ k_1_170) (fun _ h9 => h9) rfl d_Ps_used_105 ?_
    exact j_iret F hr hlocks hK hS () trivial hP hD d_Ps_used_108
  refine lv_tableOut (tgt := 109) hx hb d_Ps_used_1 (by omega) (by decide) ?_
  refine lv_iconst (v := (-1)) hx hb d_Ps_used_109 (by decide) ?_
  exact j_iret F hr hlocks hK hS () trivial hP hD d_Ps_used_110
theorem d_Ps_pixel_0 : decode prog_1_method_13_code 0 = .ok (.aload_n 0, 1) := by decide +kernel
theorem d_Ps_pixel_1 : decode prog_1_method_13_code 1 = .ok (.getfield 50, 3) := by decide +kernel
theorem d_Ps_pixel_4 : decode prog_1_method_13_code 4 = .ok (.iload_n 1, 1) := by decide +kernel
theorem d_Ps_pixel_5 : decode prog_1_method_13_code 5 = .ok (.iload_n 2, 1) := by decide +kernel
theorem d_Ps_pixel_6 : decode prog_1_method_13_code 6 = .ok (.invokevirtual 185, 3) := by decide +kernel
theorem k_2_210 : Cond.code ⟨"PageScribe$Canvas", "levelAt", "(II)I"⟩ prog_3_method_2_code 3 (some .int) ∈ gw := gw_of (tb_2 (List.mem_of_getElem? (i := 210) (by decide +kernel))) (by decide +kernel)
theorem k_2_207 : Cond.methodLink "PageScribe" 185 ⟨"PageScribe$Canvas", "levelAt", "(II)I"⟩ ∈ gw := gw_of (tb_2 (List.mem_of_getElem? (i := 207) (by decide +kernel))) (by decide +kernel)
theorem k_2_208 : Cond.instanceMethod ⟨"PageScribe$Canvas", "levelAt", "(II)I"⟩ ∈ gw := gw_of (tb_2 (List.mem_of_getElem? (i := 208) (by decide +kernel))) (by decide +kernel)
theorem k_2_209 : Cond.selects "PageScribe$Canvas" ⟨"PageScribe$Canvas", "levelAt", "(II)I"⟩ ⟨"PageScribe$Canvas", "levelAt", "(II)I"⟩ ∈ gw := gw_of (tb_2 (List.mem_of_getElem? (i := 209) (by decide +kernel))) (by decide +kernel)
theorem d_Ps_pixel_9 : decode prog_1_method_13_code 9 = .ok (.ireturn, 1) := by decide +kernel
set_option maxHeartbeats 4000000 in
set_option maxRecDepth 100000 in
theorem c_Ps_pixel (l : Launch) (D : va_G) (T : Nat → ClassId) (ad : Nat → Nat) (S : CS) (p0 : Int32) (p1 : Int32) (sz : Nat)  (hI : CIv S) : Met l ⟨"PageScribe", "pixel", "(II)I"⟩ (wy ⟨"PageScribe", "pixel", "(II)I"⟩ prog_1_method_13_code 3 (some .int)) ({ frames := 1, cells := 0, slots := 0, locals := 70 }) (va_Pc [.ref (ad 0), .int p0, .int p1] (Pw D T (cW T ad S) sz E0)) (va_Qi (fun (r : Int32) (u : Unit) => True) (fun u t => Bw D T (va_A (cW T ad S) sz) (cW T ad S) t) (va_A (cW T ad S) sz)) 0 0 (va_A (cW T ad S) sz) := by
  refine j_met (y := ⟨"PageScribe", "pixel", "(II)I"⟩) (b := prog_1_method_13_code) (n := 3) (ret := (some .int)) (av := [.ref (ad 0), .int p0, .int p1]) (Qc := fun A => va_Qi (fun (r : Int32) (u : Unit) => True) (fun u t => Bw D T A (cW T ad S) t) A) (by decide +kernel) (Nat.le_of_ble_eq_true rfl) (fun p e s m args below meth c A ls F hr hlocks hnm hK hP hD hS hA hN hE hl => ?_)
  obtain ⟨hx, hb, hml, hown, hts⟩ := id F
  have hl : lv_has ls 3 [(0, .ref (ad 0)), (1, .int p0), (2, .int p1)] := hl
  obtain ⟨i_vst, i_vc0, i_vc1, i_vc2, i_vc3, i_vv0, i_vv1, i_vv2, i_vv3, i_vg, i_wct, i_wln, i_sd0, i_sd1, i_sd2, i_sd3, i_rln, i_rtx, i_rpl, i_rtk, i_cnv, i_pts, i_cik, i_und⟩ := id hI
  have rp0 := zt_rng p0
  have rp1 := zt_rng p1
  refine lv_aload_n hx hb d_Ps_pixel_0 rfl (lv_at hl 0 rfl) ?_
  refine va_get (D := D) (ci := 10) (v := .ref (ad 67)) (C := "PageScribe") (T := F_Ps) (N := 6) hx hb hts i_Ps hown hK hP 0 (ce_0 _ _ _) cl_10 4 (by decide) (hts _ k_2_62) (fun _ h9 => h9) rfl d_Ps_pixel_1 ?_
  refine lv_iload_n hx hb d_Ps_pixel_4 rfl (lv_at hl 1 rfl) ?_
  refine lv_iload_n hx hb d_Ps_pixel_5 rfl (lv_at hl 2 rfl) ?_
  refine jc_ci (w := (fun _ => S)) hK hP hD hS hA (va_runV (As := [.int p0, .int p1]) (rest := []) F (c_Canvas_levelAt l D T ad S p0 p1  s.heap.size ⟨i_vst, i_vc0, i_vc1, i_vc2, i_vc3, i_vv0, i_vv1, i_vv2, i_vv3, i_vg, i_wct, i_wln, i_sd0, i_sd1, i_sd2, i_sd3, i_rln, i_rtx, i_rpl, i_rtk, i_cnv, i_pts, i_cik, i_und⟩) (j_cV (k := 2) (C := "PageScribe$Canvas") hts k_2_210 k_1_8 k_2_207 k_2_208 k_2_209 (by decide +kernel) ⟨Nat.le_of_ble_eq_true rfl, Nat.le_of_ble_eq_true rfl⟩) (j_preV (q0 := 67) (ci := 6) hK hP hD csc csc_all csc_nd cl_6 (ce_67 _ _ _) (fun _ _ _ _ h => h) (fun _ _ _ => trivial)) rfl rfl hl.1 rfl (lv_room (Nat.le_of_ble_eq_true rfl)) d_Ps_pixel_6 ⟨Nat.le_of_ble_eq_true rfl, Nat.le_of_ble_eq_true rfl⟩) (fun rv1 u1 H locs hw1 hP hD hS => ?_)
  have hP : va_P D classes (cW T ad S) H := hP
  have hD : va_D A (cW T ad S) := hD
  have rrv1 := zt_rng rv1
  exact j_iret F hr hlocks hK hS () trivial hP hD d_Ps_pixel_9
theorem d_Ps_page_0 : decode prog_1_method_14_code 0 = .ok (.aload_n 0, 1) := by decide +kernel
theorem d_Ps_page_1 : decode prog_1_method_14_code 1 = .ok (.getfield 50, 3) := by decide +kernel
theorem d_Ps_page_4 : decode prog_1_method_14_code 4 = .ok (.invokevirtual 188, 3) := by decide +kernel
theorem k_2_218 : Cond.code ⟨"PageScribe$Canvas", "wipe", "()I"⟩ prog_3_method_3_code 3 (some .int) ∈ gw := gw_of (tb_2 (List.mem_of_getElem? (i := 218) (by decide +kernel))) (by decide +kernel)
theorem k_2_215 : Cond.methodLink "PageScribe" 188 ⟨"PageScribe$Canvas", "wipe", "()I"⟩ ∈ gw := gw_of (tb_2 (List.mem_of_getElem? (i := 215) (by decide +kernel))) (by decide +kernel)
theorem k_2_216 : Cond.instanceMethod ⟨"PageScribe$Canvas", "wipe", "()I"⟩ ∈ gw := gw_of (tb_2 (List.mem_of_getElem? (i := 216) (by decide +kernel))) (by decide +kernel)
theorem k_2_217 : Cond.selects "PageScribe$Canvas" ⟨"PageScribe$Canvas", "wipe", "()I"⟩ ⟨"PageScribe$Canvas", "wipe", "()I"⟩ ∈ gw := gw_of (tb_2 (List.mem_of_getElem? (i := 217) (by decide +kernel))) (by decide +kernel)
theorem d_Ps_page_7 : decode prog_1_method_14_code 7 = .ok (.ireturn, 1) := by decide +kernel
set_option maxHeartbeats 4000000 in
set_option maxRecDepth 100000 in
theorem c_Ps_page (l : Launch) (D : va_G) (T : Nat → ClassId) (ad : Nat → Nat) (S : CS)  (sz : Nat)  (hI : CIv S) : Met l ⟨"PageScribe", "page", "()I"⟩ (wy ⟨"PageScribe", "page", "()I"⟩ prog_1_method_14_code 1 (some .int)) ({ frames := 1, cells := 0, slots := 0, locals := 70 }) (va_Pc [.ref (ad 0)] (Pw D T (cW T ad S) sz E0)) (va_Qi (fun (r : Int32) (u : CS) => CIv u ∧ kcL S u) (fun u t => Bw D T (va_A (cW T ad S) sz) (cW T ad u) t) (va_A (cW T ad S) sz)) 0 0 (va_A (cW T ad S) sz) := by
  refine j_met (y := ⟨"PageScribe", "page", "()I"⟩) (b := prog_1_method_14_code) (n := 1) (ret := (some .int)) (av := [.ref (ad 0)]) (Qc := fun A => va_Qi (fun (r : Int32) (u : CS) => CIv u ∧ kcL S u) (fun u t => Bw D T A (cW T ad u) t) A) (by decide +kernel) (Nat.le_of_ble_eq_true rfl) (fun p e s m args below meth c A ls F hr hlocks hnm hK hP hD hS hA hN hE hl => ?_)
  obtain ⟨hx, hb, hml, hown, hts⟩ := id F
  have hl : lv_has ls 1 [(0, .ref (ad 0))] := hl
  obtain ⟨i_vst, i_vc0, i_vc1, i_vc2, i_vc3, i_vv0, i_vv1, i_vv2, i_vv3, i_vg, i_wct, i_wln, i_sd0, i_sd1, i_sd2, i_sd3, i_rln, i_rtx, i_rpl, i_rtk, i_cnv, i_pts, i_cik, i_und⟩ := id hI
  refine lv_aload_n hx hb d_Ps_page_0 rfl (lv_at hl 0 rfl) ?_
  refine va_get (D := D) (ci := 10) (v := .ref (ad 67)) (C := "PageScribe") (T := F_Ps) (N := 6) hx hb hts i_Ps hown hK hP 0 (ce_0 _ _ _) cl_10 4 (by decide) (hts _ k_2_62) (fun _ h9 => h9) rfl d_Ps_page_1 ?_
  refine jc_ci (w := (fun u => u)) hK hP hD hS hA (va_runV (As := []) (rest := []) F (c_Canvas_wipe l D T ad S  s.heap.size ⟨i_vst, i_vc0, i_vc1, i_vc2, i_vc3, i_vv0, i_vv1, i_vv2, i_vv3, i_vg, i_wct, i_wln, i_sd0, i_sd1, i_sd2, i_sd3, i_rln, i_rtx, i_rpl, i_rtk, i_cnv, i_pts, i_cik, i_und⟩) (j_cV (k := 0) (C := "PageScribe$Canvas") hts k_2_218 k_1_8 k_2_215 k_2_216 k_2_217 (by decide +kernel) ⟨Nat.le_of_ble_eq_true rfl, Nat.le_of_ble_eq_true rfl⟩) (j_preV (q0 := 67) (ci := 6) hK hP hD csc csc_all csc_nd cl_6 (ce_67 _ _ _) (fun _ _ _ _ h => h) (fun _ _ _ => trivial)) rfl rfl hl.1 rfl (lv_room (Nat.le_of_ble_eq_true rfl)) d_Ps_page_4 ⟨Nat.le_of_ble_eq_true rfl, Nat.le_of_ble_eq_true rfl⟩) (fun rv1 S1 H locs hw1 hP hD hS => ?_)
  have hP : va_P D classes (cW T ad S1) H := hP
  have hD : va_D A (cW T ad S1) := hD
  obtain ⟨⟨i_vst, i_vc0, i_vc1, i_vc2, i_vc3, i_vv0, i_vv1, i_vv2, i_vv3, i_vg, i_wct, i_wln, i_sd0, i_sd1, i_sd2, i_sd3, i_rln, i_rtx, i_rpl, i_rtk, i_cnv, i_pts, i_cik, i_und⟩, kpcL_S1, kpcP_S1, kpcU_S1, kpcW_S1⟩ := hw1
  have kScL_S1 : kcL S S1 := kcL_t (show kcL S S from (kcL_r S)) kpcL_S1
  have kScP_S1 : kcP S S1 := kcP_t (show kcP S S from (kcP_r S)) kpcP_S1
  have kScU_S1 : kcU S S1 := kcU_t (show kcU S S from (kcU_r S)) kpcU_S1
  have kScW_S1 : kcW S S1 := kcW_t (show kcW S S from (kcW_r S)) kpcW_S1
  have nxr_length_S1 : (f_xr_length S1).toInt = (f_xr_length S).toInt := congrArg Int32.toInt kpcL_S1
  have nxr_length_S1 : (f_xr_length S1).toInt = (f_xr_length S).toInt := congrArg Int32.toInt kpcP_S1.1
  have nxr_place_S1 : (f_xr_place S1).toInt = (f_xr_place S).toInt := congrArg Int32.toInt kpcP_S1.2.1
  have nxe_underWay_S1 : (f_xe_underWay S1).toInt = (f_xe_underWay S).toInt := congrArg Int32.toInt kpcU_S1
  have nxp_columns_S1 : (f_xp_columns S1).toInt = (f_xp_columns S).toInt := congrArg Int32.toInt kpcW_S1.1
  have nxp_rows_S1 : (f_xp_rows S1).toInt = (f_xp_rows S).toInt := congrArg Int32.toInt kpcW_S1.2
  have rrv1 := zt_rng rv1
  exact j_iret F hr hlocks hK hS S1 ⟨⟨i_vst, i_vc0, i_vc1, i_vc2, i_vc3, i_vv0, i_vv1, i_vv2, i_vv3, i_vg, i_wct, i_wln, i_sd0, i_sd1, i_sd2, i_sd3, i_rln, i_rtx, i_rpl, i_rtk, i_cnv, i_pts, i_cik, i_und⟩, kScL_S1⟩ hP hD d_Ps_page_7
