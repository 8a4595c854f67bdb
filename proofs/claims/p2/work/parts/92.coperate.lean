theorem d_Engine_actOnRuns_0 : decode prog_4_method_10_code 0 = .ok (.getstatic 176, 3) := by decide +kernel
theorem k_5_190 : Cond.fieldLink "PageScribe$Engine" 176 "PageScribe$1" "$SwitchMap$PageScribe$Op" "[I" ∈ gw := gw_of (tb_5 (List.mem_of_getElem? (i := 190) (by decide +kernel))) (by decide +kernel)
theorem d_Engine_actOnRuns_3 : decode prog_4_method_10_code 3 = .ok (.aload_n 1, 1) := by decide +kernel
theorem d_Engine_actOnRuns_4 : decode prog_4_method_10_code 4 = .ok (.invokevirtual 182, 3) := by decide +kernel
theorem k_5_191 : Cond.methodLink "PageScribe$Engine" 182 ⟨"PageScribe$Op", "ordinal", "()I"⟩ ∈ gw := gw_of (tb_5 (List.mem_of_getElem? (i := 191) (by decide +kernel))) (by decide +kernel)
theorem d_Engine_actOnRuns_7 : decode prog_4_method_10_code 7 = .ok (.iaload, 1) := by decide +kernel
theorem d_Engine_actOnRuns_8 : decode prog_4_method_10_code 8 = .ok (.tableswitch 113 50 59 #[56, 61, 66, 71, 76, 81, 86, 91, 105, 108], 56) := by decide +kernel
theorem d_Engine_actOnRuns_64 : decode prog_4_method_10_code 64 = .ok (.aload_n 0, 1) := by decide +kernel
theorem d_Engine_actOnRuns_65 : decode prog_4_method_10_code 65 = .ok (.invokevirtual 185, 3) := by decide +kernel
theorem d_Engine_actOnRuns_68 : decode prog_4_method_10_code 68 = .ok (.ireturn, 1) := by decide +kernel
theorem d_Engine_actOnRuns_69 : decode prog_4_method_10_code 69 = .ok (.aload_n 0, 1) := by decide +kernel
theorem d_Engine_actOnRuns_70 : decode prog_4_method_10_code 70 = .ok (.invokevirtual 188, 3) := by decide +kernel
theorem k_5_219 : Cond.code ⟨"PageScribe$Engine", "runIf", "()I"⟩ prog_4_method_12_code 3 (some .int) ∈ gw := gw_of (tb_5 (List.mem_of_getElem? (i := 219) (by decide +kernel))) (by decide +kernel)
theorem k_5_216 : Cond.methodLink "PageScribe$Engine" 188 ⟨"PageScribe$Engine", "runIf", "()I"⟩ ∈ gw := gw_of (tb_5 (List.mem_of_getElem? (i := 216) (by decide +kernel))) (by decide +kernel)
theorem k_5_218 : Cond.instanceMethod ⟨"PageScribe$Engine", "runIf", "()I"⟩ ∈ gw := gw_of (tb_5 (List.mem_of_getElem? (i := 218) (by decide +kernel))) (by decide +kernel)
theorem k_0_70 : Cond.selects "PageScribe$Engine" ⟨"PageScribe$Engine", "runIf", "()I"⟩ ⟨"PageScribe$Engine", "runIf", "()I"⟩ ∈ gw := gw_of (tb_0 (List.mem_of_getElem? (i := 70) (by decide +kernel))) (by decide +kernel)
theorem d_Engine_actOnRuns_73 : decode prog_4_method_10_code 73 = .ok (.ireturn, 1) := by decide +kernel
theorem d_Engine_actOnRuns_74 : decode prog_4_method_10_code 74 = .ok (.aload_n 0, 1) := by decide +kernel
theorem d_Engine_actOnRuns_75 : decode prog_4_method_10_code 75 = .ok (.invokevirtual 191, 3) := by decide +kernel
theorem k_5_223 : Cond.code ⟨"PageScribe$Engine", "runIfElse", "()I"⟩ prog_4_method_13_code 3 (some .int) ∈ gw := gw_of (tb_5 (List.mem_of_getElem? (i := 223) (by decide +kernel))) (by decide +kernel)
theorem k_5_220 : Cond.methodLink "PageScribe$Engine" 191 ⟨"PageScribe$Engine", "runIfElse", "()I"⟩ ∈ gw := gw_of (tb_5 (List.mem_of_getElem? (i := 220) (by decide +kernel))) (by decide +kernel)
theorem k_5_222 : Cond.instanceMethod ⟨"PageScribe$Engine", "runIfElse", "()I"⟩ ∈ gw := gw_of (tb_5 (List.mem_of_getElem? (i := 222) (by decide +kernel))) (by decide +kernel)
theorem k_0_71 : Cond.selects "PageScribe$Engine" ⟨"PageScribe$Engine", "runIfElse", "()I"⟩ ⟨"PageScribe$Engine", "runIfElse", "()I"⟩ ∈ gw := gw_of (tb_0 (List.mem_of_getElem? (i := 71) (by decide +kernel))) (by decide +kernel)
theorem d_Engine_actOnRuns_78 : decode prog_4_method_10_code 78 = .ok (.ireturn, 1) := by decide +kernel
theorem d_Engine_actOnRuns_79 : decode prog_4_method_10_code 79 = .ok (.aload_n 0, 1) := by decide +kernel
theorem d_Engine_actOnRuns_80 : decode prog_4_method_10_code 80 = .ok (.invokevirtual 194, 3) := by decide +kernel
theorem k_5_227 : Cond.code ⟨"PageScribe$Engine", "runFor", "()I"⟩ prog_4_method_14_code 8 (some .int) ∈ gw := gw_of (tb_5 (List.mem_of_getElem? (i := 227) (by decide +kernel))) (by decide +kernel)
theorem k_5_224 : Cond.methodLink "PageScribe$Engine" 194 ⟨"PageScribe$Engine", "runFor", "()I"⟩ ∈ gw := gw_of (tb_5 (List.mem_of_getElem? (i := 224) (by decide +kernel))) (by decide +kernel)
theorem k_5_226 : Cond.instanceMethod ⟨"PageScribe$Engine", "runFor", "()I"⟩ ∈ gw := gw_of (tb_5 (List.mem_of_getElem? (i := 226) (by decide +kernel))) (by decide +kernel)
theorem k_0_72 : Cond.selects "PageScribe$Engine" ⟨"PageScribe$Engine", "runFor", "()I"⟩ ⟨"PageScribe$Engine", "runFor", "()I"⟩ ∈ gw := gw_of (tb_0 (List.mem_of_getElem? (i := 72) (by decide +kernel))) (by decide +kernel)
theorem d_Engine_actOnRuns_83 : decode prog_4_method_10_code 83 = .ok (.ireturn, 1) := by decide +kernel
theorem d_Engine_actOnRuns_84 : decode prog_4_method_10_code 84 = .ok (.aload_n 0, 1) := by decide +kernel
theorem d_Engine_actOnRuns_85 : decode prog_4_method_10_code 85 = .ok (.invokevirtual 197, 3) := by decide +kernel
theorem k_5_233 : Cond.code ⟨"PageScribe$Engine", "runRepeat", "()I"⟩ prog_4_method_15_code 3 (some .int) ∈ gw := gw_of (tb_5 (List.mem_of_getElem? (i := 233) (by decide +kernel))) (by decide +kernel)
theorem k_5_230 : Cond.methodLink "PageScribe$Engine" 197 ⟨"PageScribe$Engine", "runRepeat", "()I"⟩ ∈ gw := gw_of (tb_5 (List.mem_of_getElem? (i := 230) (by decide +kernel))) (by decide +kernel)
theorem k_5_232 : Cond.instanceMethod ⟨"PageScribe$Engine", "runRepeat", "()I"⟩ ∈ gw := gw_of (tb_5 (List.mem_of_getElem? (i := 232) (by decide +kernel))) (by decide +kernel)
theorem k_0_73 : Cond.selects "PageScribe$Engine" ⟨"PageScribe$Engine", "runRepeat", "()I"⟩ ⟨"PageScribe$Engine", "runRepeat", "()I"⟩ ∈ gw := gw_of (tb_0 (List.mem_of_getElem? (i := 73) (by decide +kernel))) (by decide +kernel)
theorem d_Engine_actOnRuns_88 : decode prog_4_method_10_code 88 = .ok (.ireturn, 1) := by decide +kernel
theorem d_Engine_actOnRuns_89 : decode prog_4_method_10_code 89 = .ok (.aload_n 0, 1) := by decide +kernel
theorem d_Engine_actOnRuns_90 : decode prog_4_method_10_code 90 = .ok (.invokevirtual 200, 3) := by decide +kernel
theorem k_6_1 : Cond.code ⟨"PageScribe$Engine", "runLoop", "()I"⟩ prog_4_method_16_code 2 (some .int) ∈ gw := gw_of (tb_6 (List.mem_of_getElem? (i := 1) (by decide +kernel))) (by decide +kernel)
theorem k_5_238 : Cond.methodLink "PageScribe$Engine" 200 ⟨"PageScribe$Engine", "runLoop", "()I"⟩ ∈ gw := gw_of (tb_5 (List.mem_of_getElem? (i := 238) (by decide +kernel))) (by decide +kernel)
theorem k_6_0 : Cond.instanceMethod ⟨"PageScribe$Engine", "runLoop", "()I"⟩ ∈ gw := gw_of (tb_6 (List.mem_of_getElem? (i := 0) (by decide +kernel))) (by decide +kernel)
theorem k_0_75 : Cond.selects "PageScribe$Engine" ⟨"PageScribe$Engine", "runLoop", "()I"⟩ ⟨"PageScribe$Engine", "runLoop", "()I"⟩ ∈ gw := gw_of (tb_0 (List.mem_of_getElem? (i := 75) (by decide +kernel))) (by decide +kernel)
theorem d_Engine_actOnRuns_93 : decode prog_4_method_10_code 93 = .ok (.ireturn, 1) := by decide +kernel
theorem d_Engine_actOnRuns_94 : decode prog_4_method_10_code 94 = .ok (.aload_n 0, 1) := by decide +kernel
theorem d_Engine_actOnRuns_95 : decode prog_4_method_10_code 95 = .ok (.invokevirtual 203, 3) := by decide +kernel
theorem k_6_5 : Cond.code ⟨"PageScribe$Engine", "runForAll", "()I"⟩ prog_4_method_18_code 6 (some .int) ∈ gw := gw_of (tb_6 (List.mem_of_getElem? (i := 5) (by decide +kernel))) (by decide +kernel)
theorem k_6_2 : Cond.methodLink "PageScribe$Engine" 203 ⟨"PageScribe$Engine", "runForAll", "()I"⟩ ∈ gw := gw_of (tb_6 (List.mem_of_getElem? (i := 2) (by decide +kernel))) (by decide +kernel)
theorem k_6_4 : Cond.instanceMethod ⟨"PageScribe$Engine", "runForAll", "()I"⟩ ∈ gw := gw_of (tb_6 (List.mem_of_getElem? (i := 4) (by decide +kernel))) (by decide +kernel)
theorem k_0_76 : Cond.selects "PageScribe$Engine" ⟨"PageScribe$Engine", "runForAll", "()I"⟩ ⟨"PageScribe$Engine", "runForAll", "()I"⟩ ∈ gw := gw_of (tb_0 (List.mem_of_getElem? (i := 76) (by decide +kernel))) (by decide +kernel)
theorem d_Engine_actOnRuns_98 : decode prog_4_method_10_code 98 = .ok (.ireturn, 1) := by decide +kernel
theorem d_Engine_actOnRuns_99 : decode prog_4_method_10_code 99 = .ok (.aload_n 0, 1) := by decide +kernel
theorem d_Engine_actOnRuns_100 : decode prog_4_method_10_code 100 = .ok (.getfield 27, 3) := by decide +kernel
theorem d_Engine_actOnRuns_103 : decode prog_4_method_10_code 103 = .ok (.ifCond .le 7, 3) := by decide +kernel
theorem d_Engine_actOnRuns_110 : decode prog_4_method_10_code 110 = .ok (.bipush 11, 2) := by decide +kernel
theorem d_Engine_actOnRuns_112 : decode prog_4_method_10_code 112 = .ok (.ireturn, 1) := by decide +kernel
theorem d_Engine_actOnRuns_106 : decode prog_4_method_10_code 106 = .ok (.iconst (-1), 1) := by decide +kernel
theorem d_Engine_actOnRuns_107 : decode prog_4_method_10_code 107 = .ok (.goto 5, 3) := by decide +kernel
theorem d_Engine_actOnRuns_113 : decode prog_4_method_10_code 113 = .ok (.bipush 14, 2) := by decide +kernel
theorem d_Engine_actOnRuns_115 : decode prog_4_method_10_code 115 = .ok (.ireturn, 1) := by decide +kernel
theorem d_Engine_actOnRuns_116 : decode prog_4_method_10_code 116 = .ok (.aload_n 0, 1) := by decide +kernel
theorem d_Engine_actOnRuns_117 : decode prog_4_method_10_code 117 = .ok (.invokevirtual 206, 3) := by decide +kernel
theorem k_6_10 : Cond.code ⟨"PageScribe$Engine", "runStopped", "()I"⟩ prog_4_method_19_code 3 (some .int) ∈ gw := gw_of (tb_6 (List.mem_of_getElem? (i := 10) (by decide +kernel))) (by decide +kernel)
theorem k_6_7 : Cond.methodLink "PageScribe$Engine" 206 ⟨"PageScribe$Engine", "runStopped", "()I"⟩ ∈ gw := gw_of (tb_6 (List.mem_of_getElem? (i := 7) (by decide +kernel))) (by decide +kernel)
theorem k_6_9 : Cond.instanceMethod ⟨"PageScribe$Engine", "runStopped", "()I"⟩ ∈ gw := gw_of (tb_6 (List.mem_of_getElem? (i := 9) (by decide +kernel))) (by decide +kernel)
theorem k_0_77 : Cond.selects "PageScribe$Engine" ⟨"PageScribe$Engine", "runStopped", "()I"⟩ ⟨"PageScribe$Engine", "runStopped", "()I"⟩ ∈ gw := gw_of (tb_0 (List.mem_of_getElem? (i := 77) (by decide +kernel))) (by decide +kernel)
theorem d_Engine_actOnRuns_120 : decode prog_4_method_10_code 120 = .ok (.ireturn, 1) := by decide +kernel
theorem d_Engine_actOnRuns_121 : decode prog_4_method_10_code 121 = .ok (.aload_n 0, 1) := by decide +kernel
theorem d_Engine_actOnRuns_122 : decode prog_4_method_10_code 122 = .ok (.getfield 30, 3) := by decide +kernel
theorem d_Engine_actOnRuns_125 : decode prog_4_method_10_code 125 = .ok (.aload_n 0, 1) := by decide +kernel
theorem d_Engine_actOnRuns_126 : decode prog_4_method_10_code 126 = .ok (.getfield 18, 3) := by decide +kernel
theorem d_Engine_actOnRuns_129 : decode prog_4_method_10_code 129 = .ok (.invokevirtual 209, 3) := by decide +kernel
theorem d_Engine_actOnRuns_132 : decode prog_4_method_10_code 132 = .ok (.ireturn, 1) := by decide +kernel
set_option maxHeartbeats 4000000 in
set_option maxRecDepth 100000 in
theorem c_Engine_actOnRuns (l : Launch) (D : va_G) (T : Nat → ClassId) (ad : Nat → Nat) (g : GE) (Bq : Nat → Prop) (d : Nat) (hdv : ∀ d2, d2 < d → DVP l D T ad g Bq d2) (S : CS) (op : Nat) (sz : Nat) (hi_op : op < 72) (hI : CIv S) (hd : 8 ≤ (f_xe_underWay S).toInt + d) : Met l ⟨"PageScribe$Engine", "actOnRuns", "(LPageScribe$Op;)I"⟩ (wy ⟨"PageScribe$Engine", "actOnRuns", "(LPageScribe$Op;)I"⟩ prog_4_method_10_code 2 (some .int)) ({ frames := 9 + 10 * d, cells := 0, slots := 0, locals := 70 * (9 + 10 * d) }) (va_Pc [.ref (ad 72), .ref (g_en g op)] (Pw D T (cW T ad S) sz (EC g Bq ad))) (va_Qi (fun (r : Int32) (u : CS) => CIv u ∧ kcL S u ∧ kcP S u ∧ kcU S u ∧ kcW S u) (fun u t => Bw D T (va_A (cW T ad S) sz) (cW T ad u) t) (va_A (cW T ad S) sz)) 0 0 (va_A (cW T ad S) sz) := by
  refine j_met (y := ⟨"PageScribe$Engine", "actOnRuns", "(LPageScribe$Op;)I"⟩) (b := prog_4_method_10_code) (n := 2) (ret := (some .int)) (av := [.ref (ad 72), .ref (g_en g op)]) (Qc := fun A => va_Qi (fun (r : Int32) (u : CS) => CIv u ∧ kcL S u ∧ kcP S u ∧ kcU S u ∧ kcW S u) (fun u t => Bw D T A (cW T ad u) t) A) (by decide +kernel) (Nat.le_of_ble_eq_true rfl) (fun p e s m args below meth c A ls F hr hlocks hnm hK hP hD hS hA hN hE hl => ?_)
  obtain ⟨hx, hb, hml, hown, hts⟩ := id F
  have hl : lv_has ls 2 [(0, .ref (ad 72)), (1, .ref (g_en g op))] := hl
  obtain ⟨i_vst, i_vc0, i_vc1, i_vc2, i_vc3, i_vv0, i_vv1, i_vv2, i_vv3, i_vg, i_wct, i_wln, i_sd0, i_sd1, i_sd2, i_sd3, i_rln, i_rtx, i_rpl, i_rtk, i_cnv, i_pts, i_cik, i_und⟩ := id hI
  have hAB : ∀ q, A q → Bq q := EC.ab hE hN
  have hEV := hE.1.narrow hAB
  refine va_gets hx hb hEV.2.2.1.1 hS hown (hts _ k_5_190) (fun _ h9 => h9) d_Engine_actOnRuns_0 ?_
  refine lv_aload_n hx hb d_Engine_actOnRuns_3 rfl (lv_at hl 1 rfl) ?_
  refine jc_ci (w := (fun _ => S)) hK hP hD hS hA (va_runU (As := []) (rest := [.ref (g_tS g)]) F (c_Enum_ordinal l D T ad g Bq S op  s.heap.size hi_op) (j_cU (k := 0) (C := "PageScribe$Op") (owner := "java/lang/Enum") (x := ⟨"PageScribe$Op", "ordinal", "()I"⟩) hts k_4_41 k_5_191 k_4_37 k_4_39 k_4_40 k_1_24 rfl (by decide +kernel) ⟨by dsimp only; omega, by dsimp only; omega⟩) (jc_preO (j_preS hK hP hD csc csc_all csc_nd (fun _ _ _ _ h => EC.calling h) (fun U hU hW => EC.at hS hAB hU hW hE)) (hEV.1 _ hi_op).1.1 hS) rfl rfl hl.1 rfl (lv_room (Nat.le_of_ble_eq_true rfl)) d_Engine_actOnRuns_4 ⟨Nat.le_of_ble_eq_true rfl, Nat.le_of_ble_eq_true rfl⟩) (fun rv1 u1 H locs hw1 hP hD hS => ?_)
  have hP : va_P D classes (cW T ad S) H := hP
  have hD : va_D A (cW T ad S) := hD
  have qhw1 : rv1.toInt = (op : Int) := hw1
  have rrv1 := zt_rng rv1
  refine va_ti hx hb hEV.2.2.1.2 hS (zt_in (show rv1.toInt = _ from rfl) (by omega) (by omega)) rfl d_Engine_actOnRuns_7 ?_
  refine lv_topi (fun x1 ex1 => ?_)
  have rx1 := zt_rng x1
  by_cases h_50_1 : x1.toInt = 50
  · refine lv_tableIn (off := 56) (tgt := 64) hx hb d_Engine_actOnRuns_8 (by omega) (by omega) (by rw [show x1.toInt = 50 from h_50_1]; decide +kernel) (by decide) ?_
    refine lv_aload_n hx hb d_Engine_actOnRuns_64 rfl (lv_at hl 0 rfl) ?_
    refine jc_ci (w := (fun u => u)) hK hP hD hS hA (va_runV (As := []) (rest := []) F (c_Engine_execute l D T ad g Bq d hdv S  H.size ⟨i_vst, i_vc0, i_vc1, i_vc2, i_vc3, i_vv0, i_vv1, i_vv2, i_vv3, i_vg, i_wct, i_wln, i_sd0, i_sd1, i_sd2, i_sd3, i_rln, i_rtx, i_rpl, i_rtk, i_cnv, i_pts, i_cik, i_und⟩ (show 8 ≤ (f_xe_underWay S).toInt + d by omega)) (j_cV (k := 0) (C := "PageScribe$Engine") hts k_5_195 k_1_9 k_5_192 k_5_194 k_0_67 (by decide +kernel) ⟨by dsimp only; omega, by dsimp only; omega⟩) (j_preV (q0 := 72) (ci := 7) hK hP hD csc csc_all csc_nd cl_7 (ce_72 _ _ _) (fun _ _ _ _ h => EC.calling h) (fun U hU hW => EC.at hS hAB hU hW hE)) rfl rfl hl.1 rfl (lv_room (Nat.le_of_ble_eq_true rfl)) d_Engine_actOnRuns_65 ⟨Nat.le_of_ble_eq_true rfl, Nat.le_of_ble_eq_true rfl⟩) (fun rv2 S1 H locs hw2 hP hD hS => ?_)
    have hP : va_P D classes (cW T ad S1) H := hP
    have hD : va_D A (cW T ad S1) := hD
    obtain ⟨⟨i_vst, i_vc0, i_vc1, i_vc2, i_vc3, i_vv0, i_vv1, i_vv2, i_vv3, i_vg, i_wct, i_wln, i_sd0, i_sd1, i_sd2, i_sd3, i_rln, i_rtx, i_rpl, i_rtk, i_cnv, i_pts, i_cik, i_und⟩, kpcL_S1, kpcP_S1, kpcU_S1, kpcW_S1⟩ := hw2
    have kScL_S1 : kcL S S1 := kcL_t (show kcL S S from (kcL_r S)) kpcL_S1
    have kScP_S1 : kcP S S1 := kcP_t (show kcP S S from (kcP_r S)) kpcP_S1
    have kScU_S1 : kcU S S1 := kcU_t (show kcU S S from (kcU_r S)) kpcU_S1
    have kScW_S1 : kcW S S1 := kcW_t (show kcW S S from (kcW_r S)) kpcW_S1
    have nxr_length_S1 : (f_xr_length S1).toInt = (f_xr_length S).toInt := congrArg Int32.toInt kpcL_S1
    have nxr_length_S1 : (f_xr_length S1).toInt = (f_xr_length S).toInt := congrArg Int32.toInt kpcP_S1.1
    have nxr_place_S1 : (f_xr_place S1).toInt = (f_xr_place S).toInt := congrArg Int32.toInt kpcP_S1.2.1
    have nxe_underWay_S1 : (f_xe_underWay S1).toInt = (f_xe_underWay S).toInt := congrArg Int32.toInt kpcU_S1
    have nxp_columns_S1 : (f_xp_columns S1).toInt = (f_xp_columns S).toInt := congrArg Int32.toInt kpcW_S1.1
    have nxp_rows_S1 : (f_xp_rows S1).toInt = (f_xp_rows S).toInt := congrArg Int32.toInt kpcW_S1.2
    have rrv2 := zt_rng rv2
    exact j_iret F hr hlocks hK hS S1 ⟨⟨i_vst, i_vc0, i_vc1, i_vc2, i_vc3, i_vv0, i_vv1, i_vv2, i_vv3, i_vg, i_wct, i_wln, i_sd0, i_sd1, i_sd2, i_sd3, i_rln, i_rtx, i_rpl, i_rtk, i_cnv, i_pts, i_cik, i_und⟩, kScL_S1, kScP_S1, kScU_S1, kScW_S1⟩ hP hD d_Engine_actOnRuns_68
  by_cases h_51_1 : x1.toInt = 51
  · refine lv_tableIn (off := 61) (tgt := 69) hx hb d_Engine_actOnRuns_8 (by omega) (by omega) (by rw [show x1.toInt = 51 from h_51_1]; decide +kernel) (by decide) ?_
    refine lv_aload_n hx hb d_Engine_actOnRuns_69 rfl (lv_at hl 0 rfl) ?_
    refine jc_ci (w := (fun u => u)) hK hP hD hS hA (va_runV (As := []) (rest := []) F (c_Engine_runIf l D T ad g Bq d hdv S  H.size ⟨i_vst, i_vc0, i_vc1, i_vc2, i_vc3, i_vv0, i_vv1, i_vv2, i_vv3, i_vg, i_wct, i_wln, i_sd0, i_sd1, i_sd2, i_sd3, i_rln, i_rtx, i_rpl, i_rtk, i_cnv, i_pts, i_cik, i_und⟩ (show 8 ≤ (f_xe_underWay S).toInt + d by omega)) (j_cV (k := 0) (C := "PageScribe$Engine") hts k_5_219 k_1_9 k_5_216 k_5_218 k_0_70 (by decide +kernel) ⟨by dsimp only; omega, by dsimp only; omega⟩) (j_preV (q0 := 72) (ci := 7) hK hP hD csc csc_all csc_nd cl_7 (ce_72 _ _ _) (fun _ _ _ _ h => EC.calling h) (fun U hU hW => EC.at hS hAB hU hW hE)) rfl rfl hl.1 rfl (lv_room (Nat.le_of_ble_eq_true rfl)) d_Engine_actOnRuns_70 ⟨Nat.le_of_ble_eq_true rfl, Nat.le_of_ble_eq_true rfl⟩) (fun rv3 S2 H locs hw3 hP hD hS => ?_)
    have hP : va_P D classes (cW T ad S2) H := hP
    have hD : va_D A (cW T ad S2) := hD
    obtain ⟨⟨i_vst, i_vc0, i_vc1, i_vc2, i_vc3, i_vv0, i_vv1, i_vv2, i_vv3, i_vg, i_wct, i_wln, i_sd0, i_sd1, i_sd2, i_sd3, i_rln, i_rtx, i_rpl, i_rtk, i_cnv, i_pts, i_cik, i_und⟩, kpcL_S2, kpcP_S2, kpcU_S2, kpcW_S2⟩ := hw3
    have kScL_S2 : kcL S S2 := kcL_t (show kcL S S from (kcL_r S)) kpcL_S2
    have kScP_S2 : kcP S S2 := kcP_t (show kcP S S from (kcP_r S)) kpcP_S2
    have kScU_S2 : kcU S S2 := kcU_t (show kcU S S from (kcU_r S)) kpcU_S2
    have kScW_S2 : kcW S S2 := kcW_t (show kcW S S from (kcW_r S)) kpcW_S2
    have nxr_length_S2 : (f_xr_length S2).toInt = (f_xr_length S).toInt := congrArg Int32.toInt kpcL_S2
    have nxr_length_S2 : (f_xr_length S2).toInt = (f_xr_length S).toInt := congrArg Int32.toInt kpcP_S2.1
    have nxr_place_S2 : (f_xr_place S2).toInt = (f_xr_place S).toInt := congrArg Int32.toInt kpcP_S2.2.1
    have nxe_underWay_S2 : (f_xe_underWay S2).toInt = (f_xe_underWay S).toInt := congrArg Int32.toInt kpcU_S2
    have nxp_columns_S2 : (f_xp_columns S2).toInt = (f_xp_columns S).toInt := congrArg Int32.toInt kpcW_S2.1
    have nxp_rows_S2 : (f_xp_rows S2).toInt = (f_xp_rows S).toInt := congrArg Int32.toInt kpcW_S2.2
    have rrv3 := zt_rng rv3
    exact j_iret F hr hlocks hK hS S2 ⟨⟨i_vst, i_vc0, i_vc1, i_vc2, i_vc3, i_vv0, i_vv1, i_vv2, i_vv3, i_vg, i_wct, i_wln, i_sd0, i_sd1, i_sd2, i_sd3, i_rln, i_rtx, i_rpl, i_rtk, i_cnv, i_pts, i_cik, i_und⟩, kScL_S2, kScP_S2, kScU_S2, kScW_S2⟩ hP hD d_Engine_actOnRuns_73
  by_cases h_52_1 : x1.toInt = 52
  · refine lv_tableIn (off := 66) (tgt := 74) hx hb d_Engine_actOnRuns_8 (by omega) (by omega) (by rw [show x1.toInt = 52 from h_52_1]; decide +kernel) (by decide) ?_
    refine lv_aload_n hx hb d_Engine_actOnRuns_74 rfl (lv_at hl 0 rfl) ?_
    refine jc_ci (w := (fun u => u)) hK hP hD hS hA (va_runV (As := []) (rest := []) F (c_Engine_runIfElse l D T ad g Bq d hdv S  H.size ⟨i_vst, i_vc0, i_vc1, i_vc2, i_vc3, i_vv0, i_vv1, i_vv2, i_vv3, i_vg, i_wct, i_wln, i_sd0, i_sd1, i_sd2, i_sd3, i_rln, i_rtx, i_rpl, i_rtk, i_cnv, i_pts, i_cik, i_und⟩ (show 8 ≤ (f_xe_underWay S).toInt + d by omega)) (j_cV (k := 0) (C := "PageScribe$Engine") hts k_5_223 k_1_9 k_5_220 k_5_222 k_0_71 (by decide +kernel) ⟨by dsimp only; omega, by dsimp only; omega⟩) (j_preV (q0 := 72) (ci := 7) hK hP hD csc csc_all csc_nd cl_7 (ce_72 _ _ _) (fun _ _ _ _ h => EC.calling h) (fun U hU hW => EC.at hS hAB hU hW hE)) rfl rfl hl.1 rfl (lv_room (Nat.le_of_ble_eq_true rfl)) d_Engine_actOnRuns_75 ⟨Nat.le_of_ble_eq_true rfl, Nat.le_of_ble_eq_true rfl⟩) (fun rv4 S3 H locs hw4 hP hD hS => ?_)
    have hP : va_P D classes (cW T ad S3) H := hP
    have hD : va_D A (cW T ad S3) := hD
    obtain ⟨⟨i_vst, i_vc0, i_vc1, i_vc2, i_vc3, i_vv0, i_vv1, i_vv2, i_vv3, i_vg, i_wct, i_wln, i_sd0, i_sd1, i_sd2, i_sd3, i_rln, i_rtx, i_rpl, i_rtk, i_cnv, i_pts, i_cik, i_und⟩, kpcL_S3, kpcP_S3, kpcU_S3, kpcW_S3⟩ := hw4
    have kScL_S3 : kcL S S3 := kcL_t (show kcL S S from (kcL_r S)) kpcL_S3
    have kScP_S3 : kcP S S3 := kcP_t (show kcP S S from (kcP_r S)) kpcP_S3
    have kScU_S3 : kcU S S3 := kcU_t (show kcU S S from (kcU_r S)) kpcU_S3
    have kScW_S3 : kcW S S3 := kcW_t (show kcW S S from (kcW_r S)) kpcW_S3
    have nxr_length_S3 : (f_xr_length S3).toInt = (f_xr_length S).toInt := congrArg Int32.toInt kpcL_S3
    have nxr_length_S3 : (f_xr_length S3).toInt = (f_xr_length S).toInt := congrArg Int32.toInt kpcP_S3.1
    have nxr_place_S3 : (f_xr_place S3).toInt = (f_xr_place S).toInt := congrArg Int32.toInt kpcP_S3.2.1
    have nxe_underWay_S3 : (f_xe_underWay S3).toInt = (f_xe_underWay S).toInt := congrArg Int32.toInt kpcU_S3
    have nxp_columns_S3 : (f_xp_columns S3).toInt = (f_xp_columns S).toInt := congrArg Int32.toInt kpcW_S3.1
    have nxp_rows_S3 : (f_xp_rows S3).toInt = (f_xp_rows S).toInt := congrArg Int32.toInt kpcW_S3.2
    have rrv4 := zt_rng rv4
    exact j_iret F hr hlocks hK hS S3 ⟨⟨i_vst, i_vc0, i_vc1, i_vc2, i_vc3, i_vv0, i_vv1, i_vv2, i_vv3, i_vg, i_wct, i_wln, i_sd0, i_sd1, i_sd2, i_sd3, i_rln, i_rtx, i_rpl, i_rtk, i_cnv, i_pts, i_cik, i_und⟩, kScL_S3, kScP_S3, kScU_S3, kScW_S3⟩ hP hD d_Engine_actOnRuns_78
  by_cases h_53_1 : x1.toInt = 53
  · refine lv_tableIn (off := 71) (tgt := 79) hx hb d_Engine_actOnRuns_8 (by omega) (by omega) (by rw [show x1.toInt = 53 from h_53_1]; decide +kernel) (by decide) ?_
    refine lv_aload_n hx hb d_Engine_actOnRuns_79 rfl (lv_at hl 0 rfl) ?_
    refine jc_ci (w := (fun u => u)) hK hP hD hS hA (va_runV (As := []) (rest := []) F (c_Engine_runFor l D T ad g Bq d hdv S  H.size ⟨i_vst, i_vc0, i_vc1, i_vc2, i_vc3, i_vv0, i_vv1, i_vv2, i_vv3, i_vg, i_wct, i_wln, i_sd0, i_sd1, i_sd2, i_sd3, i_rln, i_rtx, i_rpl, i_rtk, i_cnv, i_pts, i_cik, i_und⟩ (show 8 ≤ (f_xe_underWay S).toInt + d by omega)) (j_cV (k := 0) (C := "PageScribe$Engine") hts k_5_227 k_1_9 k_5_224 k_5_226 k_0_72 (by decide +kernel) ⟨by dsimp only; omega, by dsimp only; omega⟩) (j_preV (q0 := 72) (ci := 7) hK hP hD csc csc_all csc_nd cl_7 (ce_72 _ _ _) (fun _ _ _ _ h => EC.calling h) (fun U hU hW => EC.at hS hAB hU hW hE)) rfl rfl hl.1 rfl (lv_room (Nat.le_of_ble_eq_true rfl)) d_Engine_actOnRuns_80 ⟨Nat.le_of_ble_eq_true rfl, Nat.le_of_ble_eq_true rfl⟩) (fun rv5 S4 H locs hw5 hP hD hS => ?_)
    have hP : va_P D classes (cW T ad S4) H := hP
    have hD : va_D A (cW T ad S4) := hD
    obtain ⟨⟨i_vst, i_vc0, i_vc1, i_vc2, i_vc3, i_vv0, i_vv1, i_vv2, i_vv3, i_vg, i_wct, i_wln, i_sd0, i_sd1, i_sd2, i_sd3, i_rln, i_rtx, i_rpl, i_rtk, i_cnv, i_pts, i_cik, i_und⟩, kpcL_S4, kpcP_S4, kpcU_S4, kpcW_S4⟩ := hw5
    have kScL_S4 : kcL S S4 := kcL_t (show kcL S S from (kcL_r S)) kpcL_S4
    have kScP_S4 : kcP S S4 := kcP_t (show kcP S S from (kcP_r S)) kpcP_S4
    have kScU_S4 : kcU S S4 := kcU_t (show kcU S S from (kcU_r S)) kpcU_S4
    have kScW_S4 : kcW S S4 := kcW_t (show kcW S S from (kcW_r S)) kpcW_S4
    have nxr_length_S4 : (f_xr_length S4).toInt = (f_xr_length S).toInt := congrArg Int32.toInt kpcL_S4
    have nxr_length_S4 : (f_xr_length S4).toInt = (f_xr_length S).toInt := congrArg Int32.toInt kpcP_S4.1
    have nxr_place_S4 : (f_xr_place S4).toInt = (f_xr_place S).toInt := congrArg Int32.toInt kpcP_S4.2.1
    have nxe_underWay_S4 : (f_xe_underWay S4).toInt = (f_xe_underWay S).toInt := congrArg Int32.toInt kpcU_S4
    have nxp_columns_S4 : (f_xp_columns S4).toInt = (f_xp_columns S).toInt := congrArg Int32.toInt kpcW_S4.1
    have nxp_rows_S4 : (f_xp_rows S4).toInt = (f_xp_rows S).toInt := congrArg Int32.toInt kpcW_S4.2
    have rrv5 := zt_rng rv5
    exact j_iret F hr hlocks hK hS S4 ⟨⟨i_vst, i_vc0, i_vc1, i_vc2, i_vc3, i_vv0, i_vv1, i_vv2, i_vv3, i_vg, i_wct, i_wln, i_sd0, i_sd1, i_sd2, i_sd3, i_rln, i_rtx, i_rpl, i_rtk, i_cnv, i_pts, i_cik, i_und⟩, kScL_S4, kScP_S4, kScU_S4, kScW_S4⟩ hP hD d_Engine_actOnRuns_83
  by_cases h_54_1 : x1.toInt = 54
  · refine lv_tableIn (off := 76) (tgt := 84) hx hb d_Engine_actOnRuns_8 (by omega) (by omega) (by rw [show x1.toInt = 54 from h_54_1]; decide +kernel) (by decide) ?_
    refine lv_aload_n hx hb d_Engine_actOnRuns_84 rfl (lv_at hl 0 rfl) ?_
    refine jc_ci (w := (fun u => u)) hK hP hD hS hA (va_runV (As := []) (rest := []) F (c_Engine_runRepeat l D T ad g Bq d hdv S  H.size ⟨i_vst, i_vc0, i_vc1, i_vc2, i_vc3, i_vv0, i_vv1, i_vv2, i_vv3, i_vg, i_wct, i_wln, i_sd0, i_sd1, i_sd2, i_sd3, i_rln, i_rtx, i_rpl, i_rtk, i_cnv, i_pts, i_cik, i_und⟩ (show 8 ≤ (f_xe_underWay S).toInt + d by omega)) (j_cV (k := 0) (C := "PageScribe$Engine") hts k_5_233 k_1_9 k_5_230 k_5_232 k_0_73 (by decide +kernel) ⟨by dsimp only; omega, by dsimp only; omega⟩) (j_preV (q0 := 72) (ci := 7) hK hP hD csc csc_all csc_nd cl_7 (ce_72 _ _ _) (fun _ _ _ _ h => EC.calling h) (fun U hU hW => EC.at hS hAB hU hW hE)) rfl rfl hl.1 rfl (lv_room (Nat.le_of_ble_eq_true rfl)) d_Engine_actOnRuns_85 ⟨Nat.le_of_ble_eq_true rfl, Nat.le_of_ble_eq_true rfl⟩) (fun rv6 S5 H locs hw6 hP hD hS => ?_)
    have hP : va_P D classes (cW T ad S5) H := hP
    have hD : va_D A (cW T ad S5) := hD
    obtain ⟨⟨i_vst, i_vc0, i_vc1, i_vc2, i_vc3, i_vv0, i_vv1, i_vv2, i_vv3, i_vg, i_wct, i_wln, i_sd0, i_sd1, i_sd2, i_sd3, i_rln, i_rtx, i_rpl, i_rtk, i_cnv, i_pts, i_cik, i_und⟩, kpcL_S5, kpcP_S5, kpcU_S5, kpcW_S5⟩ := hw6
    have kScL_S5 : kcL S S5 := kcL_t (show kcL S S from (kcL_r S)) kpcL_S5
    have kScP_S5 : kcP S S5 := kcP_t (show kcP S S from (kcP_r S)) kpcP_S5
    have kScU_S5 : kcU S S5 := kcU_t (show kcU S S from (kcU_r S)) kpcU_S5
    have kScW_S5 : kcW S S5 := kcW_t (show kcW S S from (kcW_r S)) kpcW_S5
    have nxr_length_S5 : (f_xr_length S5).toInt = (f_xr_length S).toInt := congrArg Int32.toInt kpcL_S5
    have nxr_length_S5 : (f_xr_length S5).toInt = (f_xr_length S).toInt := congrArg Int32.toInt kpcP_S5.1
    have nxr_place_S5 : (f_xr_place S5).toInt = (f_xr_place S).toInt := congrArg Int32.toInt kpcP_S5.2.1
    have nxe_underWay_S5 : (f_xe_underWay S5).toInt = (f_xe_underWay S).toInt := congrArg Int32.toInt kpcU_S5
    have nxp_columns_S5 : (f_xp_columns S5).toInt = (f_xp_columns S).toInt := congrArg Int32.toInt kpcW_S5.1
    have nxp_rows_S5 : (f_xp_rows S5).toInt = (f_xp_rows S).toInt := congrArg Int32.toInt kpcW_S5.2
    have rrv6 := zt_rng rv6
    exact j_iret F hr hlocks hK hS S5 ⟨⟨i_vst, i_vc0, i_vc1, i_vc2, i_vc3, i_vv0, i_vv1, i_vv2, i_vv3, i_vg, i_wct, i_wln, i_sd0, i_sd1, i_sd2, i_sd3, i_rln, i_rtx, i_rpl, i_rtk, i_cnv, i_pts, i_cik, i_und⟩, kScL_S5, kScP_S5, kScU_S5, kScW_S5⟩ hP hD d_Engine_actOnRuns_88
  by_cases h_55_1 : x1.toInt = 55
  · refine lv_tableIn (off := 81) (tgt := 89) hx hb d_Engine_actOnRuns_8 (by omega) (by omega) (by rw [show x1.toInt = 55 from h_55_1]; decide +kernel) (by decide) ?_
    refine lv_aload_n hx hb d_Engine_actOnRuns_89 rfl (lv_at hl 0 rfl) ?_
    refine jc_ci (w := (fun u => u)) hK hP hD hS hA (va_runV (As := []) (rest := []) F (c_Engine_runLoop l D T ad g Bq d hdv S  H.size ⟨i_vst, i_vc0, i_vc1, i_vc2, i_vc3, i_vv0, i_vv1, i_vv2, i_vv3, i_vg, i_wct, i_wln, i_sd0, i_sd1, i_sd2, i_sd3, i_rln, i_rtx, i_rpl, i_rtk, i_cnv, i_pts, i_cik, i_und⟩ (show 8 ≤ (f_xe_underWay S).toInt + d by omega)) (j_cV (k := 0) (C := "PageScribe$Engine") hts k_6_1 k_1_9 k_5_238 k_6_0 k_0_75 (by decide +kernel) ⟨by dsimp only; omega, by dsimp only; omega⟩) (j_preV (q0 := 72) (ci := 7) hK hP hD csc csc_all csc_nd cl_7 (ce_72 _ _ _) (fun _ _ _ _ h => EC.calling h) (fun U hU hW => EC.at hS hAB hU hW hE)) rfl rfl hl.1 rfl (lv_room (Nat.le_of_ble_eq_true rfl)) d_Engine_actOnRuns_90 ⟨Nat.le_of_ble_eq_true rfl, Nat.le_of_ble_eq_true rfl⟩) (fun rv7 S6 H locs hw7 hP hD hS => ?_)
    have hP : va_P D classes (cW T ad S6) H := hP
    have hD : va_D A (cW T ad S6) := hD
    obtain ⟨⟨i_vst, i_vc0, i_vc1, i_vc2, i_vc3, i_vv0, i_vv1, i_vv2, i_vv3, i_vg, i_wct, i_wln, i_sd0, i_sd1, i_sd2, i_sd3, i_rln, i_rtx, i_rpl, i_rtk, i_cnv, i_pts, i_cik, i_und⟩, kpcL_S6, kpcP_S6, kpcU_S6, kpcW_S6⟩ := hw7
    have kScL_S6 : kcL S S6 := kcL_t (show kcL S S from (kcL_r S)) kpcL_S6
    have kScP_S6 : kcP S S6 := kcP_t (show kcP S S from (kcP_r S)) kpcP_S6
    have kScU_S6 : kcU S S6 := kcU_t (show kcU S S from (kcU_r S)) kpcU_S6
    have kScW_S6 : kcW S S6 := kcW_t (show kcW S S from (kcW_r S)) kpcW_S6
    have nxr_length_S6 : (f_xr_length S6).toInt = (f_xr_length S).toInt := congrArg Int32.toInt kpcL_S6
    have nxr_length_S6 : (f_xr_length S6).toInt = (f_xr_length S).toInt := congrArg Int32.toInt kpcP_S6.1
    have nxr_place_S6 : (f_xr_place S6).toInt = (f_xr_place S).toInt := congrArg Int32.toInt kpcP_S6.2.1
    have nxe_underWay_S6 : (f_xe_underWay S6).toInt = (f_xe_underWay S).toInt := congrArg Int32.toInt kpcU_S6
    have nxp_columns_S6 : (f_xp_columns S6).toInt = (f_xp_columns S).toInt := congrArg Int32.toInt kpcW_S6.1
    have nxp_rows_S6 : (f_xp_rows S6).toInt = (f_xp_rows S).toInt := congrArg Int32.toInt kpcW_S6.2
    have rrv7 := zt_rng rv7
    exact j_iret F hr hlocks hK hS S6 ⟨⟨i_vst, i_vc0, i_vc1, i_vc2, i_vc3, i_vv0, i_vv1, i_vv2, i_vv3, i_vg, i_wct, i_wln, i_sd0, i_sd1, i_sd2, i_sd3, i_rln, i_rtx, i_rpl, i_rtk, i_cnv, i_pts, i_cik, i_und⟩, kScL_S6, kScP_S6, kScU_S6, kScW_S6⟩ hP hD d_Engine_actOnRuns_93
  by_cases h_56_1 : x1.toInt = 56
  · refine lv_tableIn (off := 86) (tgt := 94) hx hb d_Engine_actOnRuns_8 (by omega) (by omega) (by rw [show x1.toInt = 56 from h_56_1]; decide +kernel) (by decide) ?_
    refine lv_aload_n hx hb d_Engine_actOnRuns_94 rfl (lv_at hl 0 rfl) ?_
    refine jc_ci (w := (fun u => u)) hK hP hD hS hA (va_runV (As := []) (rest := []) F (c_Engine_runForAll l D T ad g Bq d hdv S  H.size ⟨i_vst, i_vc0, i_vc1, i_vc2, i_vc3, i_vv0, i_vv1, i_vv2, i_vv3, i_vg, i_wct, i_wln, i_sd0, i_sd1, i_sd2, i_sd3, i_rln, i_rtx, i_rpl, i_rtk, i_cnv, i_pts, i_cik, i_und⟩ (show 8 ≤ (f_xe_underWay S).toInt + d by omega)) (j_cV (k := 0) (C := "PageScribe$Engine") hts k_6_5 k_1_9 k_6_2 k_6_4 k_0_76 (by decide +kernel) ⟨by dsimp only; omega, by dsimp only; omega⟩) (j_preV (q0 := 72) (ci := 7) hK hP hD csc csc_all csc_nd cl_7 (ce_72 _ _ _) (fun _ _ _ _ h => EC.calling h) (fun U hU hW => EC.at hS hAB hU hW hE)) rfl rfl hl.1 rfl (lv_room (Nat.le_of_ble_eq_true rfl)) d_Engine_actOnRuns_95 ⟨Nat.le_of_ble_eq_true rfl, Nat.le_of_ble_eq_true rfl⟩) (fun rv8 S7 H locs hw8 hP hD hS => ?_)
    have hP : va_P D classes (cW T ad S7) H := hP
    have hD : va_D A (cW T ad S7) := hD
    obtain ⟨⟨i_vst, i_vc0, i_vc1, i_vc2, i_vc3, i_vv0, i_vv1, i_vv2, i_vv3, i_vg, i_wct, i_wln, i_sd0, i_sd1, i_sd2, i_sd3, i_rln, i_rtx, i_rpl, i_rtk, i_cnv, i_pts, i_cik, i_und⟩, kpcL_S7, kpcP_S7, kpcU_S7, kpcW_S7⟩ := hw8
    have kScL_S7 : kcL S S7 := kcL_t (show kcL S S from (kcL_r S)) kpcL_S7
    have kScP_S7 : kcP S S7 := kcP_t (show kcP S S from (kcP_r S)) kpcP_S7
    have kScU_S7 : kcU S S7 := kcU_t (show kcU S S from (kcU_r S)) kpcU_S7
    have kScW_S7 : kcW S S7 := kcW_t (show kcW S S from (kcW_r S)) kpcW_S7
    have nxr_length_S7 : (f_xr_length S7).toInt = (f_xr_length S).toInt := congrArg Int32.toInt kpcL_S7
    have nxr_length_S7 : (f_xr_length S7).toInt = (f_xr_length S).toInt := congrArg Int32.toInt kpcP_S7.1
    have nxr_place_S7 : (f_xr_place S7).toInt = (f_xr_place S).toInt := congrArg Int32.toInt kpcP_S7.2.1
    have nxe_underWay_S7 : (f_xe_underWay S7).toInt = (f_xe_underWay S).toInt := congrArg Int32.toInt kpcU_S7
    have nxp_columns_S7 : (f_xp_columns S7).toInt = (f_xp_columns S).toInt := congrArg Int32.toInt kpcW_S7.1
    have nxp_rows_S7 : (f_xp_rows S7).toInt = (f_xp_rows S).toInt := congrArg Int32.toInt kpcW_S7.2
    have rrv8 := zt_rng rv8
    exact j_iret F hr hlocks hK hS S7 ⟨⟨i_vst, i_vc0, i_vc1, i_vc2, i_vc3, i_vv0, i_vv1, i_vv2, i_vv3, i_vg, i_wct, i_wln, i_sd0, i_sd1, i_sd2, i_sd3, i_rln, i_rtx, i_rpl, i_rtk, i_cnv, i_pts, i_cik, i_und⟩, kScL_S7, kScP_S7, kScU_S7, kScW_S7⟩ hP hD d_Engine_actOnRuns_98
  by_cases h_57_1 : x1.toInt = 57
  · refine lv_tableIn (off := 91) (tgt := 99) hx hb d_Engine_actOnRuns_8 (by omega) (by omega) (by rw [show x1.toInt = 57 from h_57_1]; decide +kernel) (by decide) ?_
    refine lv_aload_n hx hb d_Engine_actOnRuns_99 rfl (lv_at hl 0 rfl) ?_
    refine va_get (D := D) (ci := 7) (v := .int (f_xe_loops S)) (C := "PageScribe$Engine") (T := F_Engine) (N := 11) hx hb hts i_Engine hown hK hP 72 (ce_72 _ _ _) cl_7 10 (by decide) (hts _ k_2_34) (fun _ h9 => h9) rfl d_Engine_actOnRuns_100 ?_
    refine lv_if_le (tgt := 110) hx hb d_Engine_actOnRuns_103 (by decide) (fun c103_1 => ?_) (fun c103_1 => ?_)
    · have fc103_1 : (f_xe_loops S).toInt ≤ 0 := zt_le (show (f_xe_loops S).toInt = _ from rfl) tI_0 c103_1
      refine lv_bipush (v := 11) hx hb d_Engine_actOnRuns_110 (by decide) ?_
      exact j_iret F hr hlocks hK hS S ⟨⟨i_vst, i_vc0, i_vc1, i_vc2, i_vc3, i_vv0, i_vv1, i_vv2, i_vv3, i_vg, i_wct, i_wln, i_sd0, i_sd1, i_sd2, i_sd3, i_rln, i_rtx, i_rpl, i_rtk, i_cnv, i_pts, i_cik, i_und⟩, (kcL_r S), (kcP_r S), (kcU_r S), (kcW_r S)⟩ hP hD d_Engine_actOnRuns_112
    · have fc103_1 : 0 < (f_xe_loops S).toInt := Int.not_le.mp (zt_nle (show (f_xe_loops S).toInt = _ from rfl) tI_0 c103_1)
      refine lv_iconst (v := (-1)) hx hb d_Engine_actOnRuns_106 (by decide) ?_
      refine lv_goto (tgt := 112) hx hb d_Engine_actOnRuns_107 (by decide) ?_
      exact j_iret F hr hlocks hK hS S ⟨⟨i_vst, i_vc0, i_vc1, i_vc2, i_vc3, i_vv0, i_vv1, i_vv2, i_vv3, i_vg, i_wct, i_wln, i_sd0, i_sd1, i_sd2, i_sd3, i_rln, i_rtx, i_rpl, i_rtk, i_cnv, i_pts, i_cik, i_und⟩, (kcL_r S), (kcP_r S), (kcU_r S), (kcW_r S)⟩ hP hD d_Engine_actOnRuns_112
  by_cases h_58_1 : x1.toInt = 58
  · refine lv_tableIn (off := 105) (tgt := 113) hx hb d_Engine_actOnRuns_8 (by omega) (by omega) (by rw [show x1.toInt = 58 from h_58_1]; decide +kernel) (by decide) ?_
    refine lv_bipush (v := 14) hx hb d_Engine_actOnRuns_113 (by decide) ?_
    exact j_iret F hr hlocks hK hS S ⟨⟨i_vst, i_vc0, i_vc1, i_vc2, i_vc3, i_vv0, i_vv1, i_vv2, i_vv3, i_vg, i_wct, i_wln, i_sd0, i_sd1, i_sd2, i_sd3, i_rln, i_rtx, i_rpl, i_rtk, i_cnv, i_pts, i_cik, i_und⟩, (kcL_r S), (kcP_r S), (kcU_r S), (kcW_r S)⟩ hP hD d_Engine_actOnRuns_115
  by_cases h_59_1 : x1.toInt = 59
  · refine lv_tableIn (off := 108) (tgt := 116) hx hb d_Engine_actOnRuns_8 (by omega) (by omega) (by rw [show x1.toInt = 59 from h_59_1]; decide +kernel) (by decide) ?_
    refine lv_aload_n hx hb d_Engine_actOnRuns_116 rfl (lv_at hl 0 rfl) ?_
    refine jc_ci (w := (fun u => u)) hK hP hD hS hA (va_runV (As := []) (rest := []) F (c_Engine_runStopped l D T ad g Bq d hdv S  H.size ⟨i_vst, i_vc0, i_vc1, i_vc2, i_vc3, i_vv0, i_vv1, i_vv2, i_vv3, i_vg, i_wct, i_wln, i_sd0, i_sd1, i_sd2, i_sd3, i_rln, i_rtx, i_rpl, i_rtk, i_cnv, i_pts, i_cik, i_und⟩ (show 8 ≤ (f_xe_underWay S).toInt + d by omega)) (j_cV (k := 0) (C := "PageScribe$Engine") hts k_6_10 k_1_9 k_6_7 k_6_9 k_0_77 (by decide +kernel) ⟨by dsimp only; omega, by dsimp only; omega⟩) (j_preV (q0 := 72) (ci := 7) hK hP hD csc csc_all csc_nd cl_7 (ce_72 _ _ _) (fun _ _ _ _ h => EC.calling h) (fun U hU hW => EC.at hS hAB hU hW hE)) rfl rfl hl.1 rfl (lv_room (Nat.le_of_ble_eq_true rfl)) d_Engine_actOnRuns_117 ⟨Nat.le_of_ble_eq_true rfl, Nat.le_of_ble_eq_true rfl⟩) (fun rv9 S8 H locs hw9 hP hD hS => ?_)
    have hP : va_P D classes (cW T ad S8) H := hP
    have hD : va_D A (cW T ad S8) := hD
    obtain ⟨⟨i_vst, i_vc0, i_vc1, i_vc2, i_vc3, i_vv0, i_vv1, i_vv2, i_vv3, i_vg, i_wct, i_wln, i_sd0, i_sd1, i_sd2, i_sd3, i_rln, i_rtx, i_rpl, i_rtk, i_cnv, i_pts, i_cik, i_und⟩, kpcL_S8, kpcP_S8, kpcU_S8, kpcW_S8⟩ := hw9
    have kScL_S8 : kcL S S8 := kcL_t (show kcL S S from (kcL_r S)) kpcL_S8
    have kScP_S8 : kcP S S8 := kcP_t (show kcP S S from (kcP_r S)) kpcP_S8
    have kScU_S8 : kcU S S8 := kcU_t (show kcU S S from (kcU_r S)) kpcU_S8
    have kScW_S8 : kcW S S8 := kcW_t (show kcW S S from (kcW_r S)) kpcW_S8
    have nxr_length_S8 : (f_xr_length S8).toInt = (f_xr_length S).toInt := congrArg Int32.toInt kpcL_S8
    have nxr_length_S8 : (f_xr_length S8).toInt = (f_xr_length S).toInt := congrArg Int32.toInt kpcP_S8.1
    have nxr_place_S8 : (f_xr_place S8).toInt = (f_xr_place S).toInt := congrArg Int32.toInt kpcP_S8.2.1
    have nxe_underWay_S8 : (f_xe_underWay S8).toInt = (f_xe_underWay S).toInt := congrArg Int32.toInt kpcU_S8
    have nxp_columns_S8 : (f_xp_columns S8).toInt = (f_xp_columns S).toInt := congrArg Int32.toInt kpcW_S8.1
    have nxp_rows_S8 : (f_xp_rows S8).toInt = (f_xp_rows S).toInt := congrArg Int32.toInt kpcW_S8.2
    have rrv9 := zt_rng rv9
    exact j_iret F hr hlocks hK hS S8 ⟨⟨i_vst, i_vc0, i_vc1, i_vc2, i_vc3, i_vv0, i_vv1, i_vv2, i_vv3, i_vg, i_wct, i_wln, i_sd0, i_sd1, i_sd2, i_sd3, i_rln, i_rtx, i_rpl, i_rtk, i_cnv, i_pts, i_cik, i_und⟩, kScL_S8, kScP_S8, kScU_S8, kScW_S8⟩ hP hD d_Engine_actOnRuns_120
  refine lv_tableOut (tgt := 121) hx hb d_Engine_actOnRuns_8 (by omega) (by decide) ?_
  refine lv_aload_n hx hb d_Engine_actOnRuns_121 rfl (lv_at hl 0 rfl) ?_
  refine va_get (D := D) (ci := 7) (v := .ref (ad 1)) (C := "PageScribe$Engine") (T := F_Engine) (N := 11) hx hb hts i_Engine hown hK hP 72 (ce_72 _ _ _) cl_7 0 (by decide) (hts _ k_2_22) (fun _ h9 => h9) rfl d_Engine_actOnRuns_122 ?_
  refine lv_aload_n hx hb d_Engine_actOnRuns_125 rfl (lv_at hl 0 rfl) ?_
  refine va_get (D := D) (ci := 7) (v := .int (f_xe_latestFault S)) (C := "PageScribe$Engine") (T := F_Engine) (N := 11) hx hb hts i_Engine hown hK hP 72 (ce_72 _ _ _) cl_7 7 (by decide) (hts _ k_2_30) (fun _ h9 => h9) rfl d_Engine_actOnRuns_126 ?_
  refine jc_ci (w := (fun u => u)) hK hP hD hS hA (va_runV (As := [.int (f_xe_latestFault S)]) (rest := []) F (c_Stack_pushInt l D T ad S (f_xe_latestFault S)  H.size ⟨i_vst, i_vc0, i_vc1, i_vc2, i_vc3, i_vv0, i_vv1, i_vv2, i_vv3, i_vg, i_wct, i_wln, i_sd0, i_sd1, i_sd2, i_sd3, i_rln, i_rtx, i_rpl, i_rtk, i_cnv, i_pts, i_cik, i_und⟩) (j_cV (k := 1) (C := "PageScribe$Stack") hts k_4_90 k_1_3 k_5_229 k_4_88 k_4_89 (by decide +kernel) ⟨by dsimp only; omega, by dsimp only; omega⟩) (j_preV (q0 := 1) (ci := 0) hK hP hD csc csc_all csc_nd cl_0 (ce_1 _ _ _) (fun _ _ _ _ h => h) (fun _ _ _ => trivial)) rfl rfl hl.1 rfl (lv_room (Nat.le_of_ble_eq_true rfl)) d_Engine_actOnRuns_129 ⟨Nat.le_of_ble_eq_true rfl, Nat.le_of_ble_eq_true rfl⟩) (fun rv10 S9 H locs hw10 hP hD hS => ?_)
  have hP : va_P D classes (cW T ad S9) H := hP
  have hD : va_D A (cW T ad S9) := hD
  obtain ⟨⟨i_vst, i_vc0, i_vc1, i_vc2, i_vc3, i_vv0, i_vv1, i_vv2, i_vv3, i_vg, i_wct, i_wln, i_sd0, i_sd1, i_sd2, i_sd3, i_rln, i_rtx, i_rpl, i_rtk, i_cnv, i_pts, i_cik, i_und⟩, kpcL_S9, kpcP_S9, kpcU_S9, kpcW_S9⟩ := hw10
  have kScL_S9 : kcL S S9 := kcL_t (show kcL S S from (kcL_r S)) kpcL_S9
  have kScP_S9 : kcP S S9 := kcP_t (show kcP S S from (kcP_r S)) kpcP_S9
  have kScU_S9 : kcU S S9 := kcU_t (show kcU S S from (kcU_r S)) kpcU_S9
  have kScW_S9 : kcW S S9 := kcW_t (show kcW S S from (kcW_r S)) kpcW_S9
  have nxr_length_S9 : (f_xr_length S9).toInt = (f_xr_length S).toInt := congrArg Int32.toInt kpcL_S9
  have nxr_length_S9 : (f_xr_length S9).toInt = (f_xr_length S).toInt := congrArg Int32.toInt kpcP_S9.1
  have nxr_place_S9 : (f_xr_place S9).toInt = (f_xr_place S).toInt := congrArg Int32.toInt kpcP_S9.2.1
  have nxe_underWay_S9 : (f_xe_underWay S9).toInt = (f_xe_underWay S).toInt := congrArg Int32.toInt kpcU_S9
  have nxp_columns_S9 : (f_xp_columns S9).toInt = (f_xp_columns S).toInt := congrArg Int32.toInt kpcW_S9.1
  have nxp_rows_S9 : (f_xp_rows S9).toInt = (f_xp_rows S).toInt := congrArg Int32.toInt kpcW_S9.2
  have rrv10 := zt_rng rv10
  exact j_iret F hr hlocks hK hS S9 ⟨⟨i_vst, i_vc0, i_vc1, i_vc2, i_vc3, i_vv0, i_vv1, i_vv2, i_vv3, i_vg, i_wct, i_wln, i_sd0, i_sd1, i_sd2, i_sd3, i_rln, i_rtx, i_rpl, i_rtk, i_cnv, i_pts, i_cik, i_und⟩, kScL_S9, kScP_S9, kScU_S9, kScW_S9⟩ hP hD d_Engine_actOnRuns_132
theorem d_Engine_operate_0 : decode prog_4_method_9_code 0 = .ok (.iload_n 1, 1) := by decide +kernel
theorem d_Engine_operate_1 : decode prog_4_method_9_code 1 = .ok (.ifCond .lt 11, 3) := by decide +kernel
theorem d_Engine_operate_12 : decode prog_4_method_9_code 12 = .ok (.iconst 5, 1) := by decide +kernel
theorem d_Engine_operate_13 : decode prog_4_method_9_code 13 = .ok (.ireturn, 1) := by decide +kernel
theorem d_Engine_operate_4 : decode prog_4_method_9_code 4 = .ok (.iload_n 1, 1) := by decide +kernel
theorem d_Engine_operate_5 : decode prog_4_method_9_code 5 = .ok (.getstatic 129, 3) := by decide +kernel
theorem d_Engine_operate_8 : decode prog_4_method_9_code 8 = .ok (.arraylength, 1) := by decide +kernel
theorem d_Engine_operate_9 : decode prog_4_method_9_code 9 = .ok (.if_icmp .lt 5, 3) := by decide +kernel
theorem d_Engine_operate_14 : decode prog_4_method_9_code 14 = .ok (.getstatic 129, 3) := by decide +kernel
theorem d_Engine_operate_17 : decode prog_4_method_9_code 17 = .ok (.iload_n 1, 1) := by decide +kernel
theorem d_Engine_operate_18 : decode prog_4_method_9_code 18 = .ok (.aaload, 1) := by decide +kernel
theorem d_Engine_operate_19 : decode prog_4_method_9_code 19 = .ok (.astore_n 2, 1) := by decide +kernel
theorem d_Engine_operate_20 : decode prog_4_method_9_code 20 = .ok (.aload_n 0, 1) := by decide +kernel
theorem d_Engine_operate_21 : decode prog_4_method_9_code 21 = .ok (.getfield 30, 3) := by decide +kernel
theorem d_Engine_operate_24 : decode prog_4_method_9_code 24 = .ok (.aload_n 2, 1) := by decide +kernel
theorem d_Engine_operate_25 : decode prog_4_method_9_code 25 = .ok (.getfield 133, 3) := by decide +kernel
theorem k_8_187 : Cond.fieldLink "PageScribe$Engine" 133 "PageScribe$Op" "takes" "Ljava/lang/String;" ∈ gw := gw_of (tb_8 (List.mem_of_getElem? (i := 187) (by decide +kernel))) (by decide +kernel)
theorem d_Engine_operate_28 : decode prog_4_method_9_code 28 = .ok (.invokevirtual 139, 3) := by decide +kernel
theorem k_3_200 : Cond.code ⟨"PageScribe$Stack", "check", "(Ljava/lang/String;)I"⟩ prog_9_method_11_code 5 (some .int) ∈ gw := gw_of (tb_3 (List.mem_of_getElem? (i := 200) (by decide +kernel))) (by decide +kernel)
theorem k_3_197 : Cond.methodLink "PageScribe$Engine" 139 ⟨"PageScribe$Stack", "check", "(Ljava/lang/String;)I"⟩ ∈ gw := gw_of (tb_3 (List.mem_of_getElem? (i := 197) (by decide +kernel))) (by decide +kernel)
theorem k_3_198 : Cond.instanceMethod ⟨"PageScribe$Stack", "check", "(Ljava/lang/String;)I"⟩ ∈ gw := gw_of (tb_3 (List.mem_of_getElem? (i := 198) (by decide +kernel))) (by decide +kernel)
theorem k_3_199 : Cond.selects "PageScribe$Stack" ⟨"PageScribe$Stack", "check", "(Ljava/lang/String;)I"⟩ ⟨"PageScribe$Stack", "check", "(Ljava/lang/String;)I"⟩ ∈ gw := gw_of (tb_3 (List.mem_of_getElem? (i := 199) (by decide +kernel))) (by decide +kernel)
theorem d_Engine_operate_31 : decode prog_4_method_9_code 31 = .ok (.istore_n 3, 1) := by decide +kernel
theorem d_Engine_operate_32 : decode prog_4_method_9_code 32 = .ok (.iload_n 3, 1) := by decide +kernel
theorem d_Engine_operate_33 : decode prog_4_method_9_code 33 = .ok (.ifCond .eq 5, 3) := by decide +kernel
theorem d_Engine_operate_38 : decode prog_4_method_9_code 38 = .ok (.aload_n 2, 1) := by decide +kernel
theorem d_Engine_operate_39 : decode prog_4_method_9_code 39 = .ok (.getfield 143, 3) := by decide +kernel
theorem k_8_188 : Cond.fieldLink "PageScribe$Engine" 143 "PageScribe$Op" "group" "I" ∈ gw := gw_of (tb_8 (List.mem_of_getElem? (i := 188) (by decide +kernel))) (by decide +kernel)
theorem d_Engine_operate_42 : decode prog_4_method_9_code 42 = .ok (.tableswitch 125 0 6 #[42, 51, 60, 69, 78, 87, 116], 42) := by decide +kernel
theorem d_Engine_operate_84 : decode prog_4_method_9_code 84 = .ok (.aload_n 0, 1) := by decide +kernel
theorem d_Engine_operate_85 : decode prog_4_method_9_code 85 = .ok (.getfield 30, 3) := by decide +kernel
theorem d_Engine_operate_88 : decode prog_4_method_9_code 88 = .ok (.aload_n 2, 1) := by decide +kernel
theorem d_Engine_operate_89 : decode prog_4_method_9_code 89 = .ok (.invokevirtual 146, 3) := by decide +kernel
theorem k_4_33 : Cond.code ⟨"PageScribe$Stack", "shuffle", "(LPageScribe$Op;)I"⟩ prog_9_method_14_code 2 (some .int) ∈ gw := gw_of (tb_4 (List.mem_of_getElem? (i := 33) (by decide +kernel))) (by decide +kernel)
theorem k_4_30 : Cond.methodLink "PageScribe$Engine" 146 ⟨"PageScribe$Stack", "shuffle", "(LPageScribe$Op;)I"⟩ ∈ gw := gw_of (tb_4 (List.mem_of_getElem? (i := 30) (by decide +kernel))) (by decide +kernel)
theorem k_4_31 : Cond.instanceMethod ⟨"PageScribe$Stack", "shuffle", "(LPageScribe$Op;)I"⟩ ∈ gw := gw_of (tb_4 (List.mem_of_getElem? (i := 31) (by decide +kernel))) (by decide +kernel)
theorem k_4_32 : Cond.selects "PageScribe$Stack" ⟨"PageScribe$Stack", "shuffle", "(LPageScribe$Op;)I"⟩ ⟨"PageScribe$Stack", "shuffle", "(LPageScribe$Op;)I"⟩ ∈ gw := gw_of (tb_4 (List.mem_of_getElem? (i := 32) (by decide +kernel))) (by decide +kernel)
theorem d_Engine_operate_92 : decode prog_4_method_9_code 92 = .ok (.ireturn, 1) := by decide +kernel
theorem d_Engine_operate_93 : decode prog_4_method_9_code 93 = .ok (.aload_n 0, 1) := by decide +kernel
theorem d_Engine_operate_94 : decode prog_4_method_9_code 94 = .ok (.getfield 47, 3) := by decide +kernel
theorem k_2_25 : Cond.fieldLink "PageScribe$Engine" 47 "PageScribe$Engine" "sums" "LPageScribe$Sums;" ∈ gw := gw_of (tb_2 (List.mem_of_getElem? (i := 25) (by decide +kernel))) (by decide +kernel)
theorem d_Engine_operate_97 : decode prog_4_method_9_code 97 = .ok (.aload_n 2, 1) := by decide +kernel
theorem d_Engine_operate_98 : decode prog_4_method_9_code 98 = .ok (.invokevirtual 150, 3) := by decide +kernel
theorem k_4_103 : Cond.code ⟨"PageScribe$Sums", "act", "(LPageScribe$Op;)I"⟩ prog_11_method_2_code 2 (some .int) ∈ gw := gw_of (tb_4 (List.mem_of_getElem? (i := 103) (by decide +kernel))) (by decide +kernel)
theorem k_4_100 : Cond.methodLink "PageScribe$Engine" 150 ⟨"PageScribe$Sums", "act", "(LPageScribe$Op;)I"⟩ ∈ gw := gw_of (tb_4 (List.mem_of_getElem? (i := 100) (by decide +kernel))) (by decide +kernel)
theorem k_4_101 : Cond.instanceMethod ⟨"PageScribe$Sums", "act", "(LPageScribe$Op;)I"⟩ ∈ gw := gw_of (tb_4 (List.mem_of_getElem? (i := 101) (by decide +kernel))) (by decide +kernel)
theorem k_4_102 : Cond.selects "PageScribe$Sums" ⟨"PageScribe$Sums", "act", "(LPageScribe$Op;)I"⟩ ⟨"PageScribe$Sums", "act", "(LPageScribe$Op;)I"⟩ ∈ gw := gw_of (tb_4 (List.mem_of_getElem? (i := 102) (by decide +kernel))) (by decide +kernel)
theorem d_Engine_operate_101 : decode prog_4_method_9_code 101 = .ok (.ireturn, 1) := by decide +kernel
theorem d_Engine_operate_102 : decode prog_4_method_9_code 102 = .ok (.aload_n 0, 1) := by decide +kernel
theorem d_Engine_operate_103 : decode prog_4_method_9_code 103 = .ok (.getfield 54, 3) := by decide +kernel
theorem k_2_26 : Cond.fieldLink "PageScribe$Engine" 54 "PageScribe$Engine" "truths" "LPageScribe$Truths;" ∈ gw := gw_of (tb_2 (List.mem_of_getElem? (i := 26) (by decide +kernel))) (by decide +kernel)
theorem d_Engine_operate_106 : decode prog_4_method_9_code 106 = .ok (.aload_n 2, 1) := by decide +kernel
theorem d_Engine_operate_107 : decode prog_4_method_9_code 107 = .ok (.invokevirtual 153, 3) := by decide +kernel
theorem k_4_171 : Cond.code ⟨"PageScribe$Truths", "act", "(LPageScribe$Op;)I"⟩ prog_12_method_2_code 2 (some .int) ∈ gw := gw_of (tb_4 (List.mem_of_getElem? (i := 171) (by decide +kernel))) (by decide +kernel)
theorem k_4_168 : Cond.methodLink "PageScribe$Engine" 153 ⟨"PageScribe$Truths", "act", "(LPageScribe$Op;)I"⟩ ∈ gw := gw_of (tb_4 (List.mem_of_getElem? (i := 168) (by decide +kernel))) (by decide +kernel)
theorem k_4_169 : Cond.instanceMethod ⟨"PageScribe$Truths", "act", "(LPageScribe$Op;)I"⟩ ∈ gw := gw_of (tb_4 (List.mem_of_getElem? (i := 169) (by decide +kernel))) (by decide +kernel)
theorem k_4_170 : Cond.selects "PageScribe$Truths" ⟨"PageScribe$Truths", "act", "(LPageScribe$Op;)I"⟩ ⟨"PageScribe$Truths", "act", "(LPageScribe$Op;)I"⟩ ∈ gw := gw_of (tb_4 (List.mem_of_getElem? (i := 170) (by decide +kernel))) (by decide +kernel)
theorem d_Engine_operate_110 : decode prog_4_method_9_code 110 = .ok (.ireturn, 1) := by decide +kernel
theorem d_Engine_operate_111 : decode prog_4_method_9_code 111 = .ok (.aload_n 0, 1) := by decide +kernel
theorem d_Engine_operate_112 : decode prog_4_method_9_code 112 = .ok (.getfield 34, 3) := by decide +kernel
theorem d_Engine_operate_115 : decode prog_4_method_9_code 115 = .ok (.aload_n 2, 1) := by decide +kernel
theorem d_Engine_operate_116 : decode prog_4_method_9_code 116 = .ok (.invokevirtual 154, 3) := by decide +kernel
theorem k_4_222 : Cond.code ⟨"PageScribe$Memory", "actOnArrays", "(LPageScribe$Op;)I"⟩ prog_5_method_2_code 2 (some .int) ∈ gw := gw_of (tb_4 (List.mem_of_getElem? (i := 222) (by decide +kernel))) (by decide +kernel)
theorem k_4_219 : Cond.methodLink "PageScribe$Engine" 154 ⟨"PageScribe$Memory", "actOnArrays", "(LPageScribe$Op;)I"⟩ ∈ gw := gw_of (tb_4 (List.mem_of_getElem? (i := 219) (by decide +kernel))) (by decide +kernel)
theorem k_4_220 : Cond.instanceMethod ⟨"PageScribe$Memory", "actOnArrays", "(LPageScribe$Op;)I"⟩ ∈ gw := gw_of (tb_4 (List.mem_of_getElem? (i := 220) (by decide +kernel))) (by decide +kernel)
theorem k_4_221 : Cond.selects "PageScribe$Memory" ⟨"PageScribe$Memory", "actOnArrays", "(LPageScribe$Op;)I"⟩ ⟨"PageScribe$Memory", "actOnArrays", "(LPageScribe$Op;)I"⟩ ∈ gw := gw_of (tb_4 (List.mem_of_getElem? (i := 221) (by decide +kernel))) (by decide +kernel)
theorem d_Engine_operate_119 : decode prog_4_method_9_code 119 = .ok (.ireturn, 1) := by decide +kernel
theorem d_Engine_operate_120 : decode prog_4_method_9_code 120 = .ok (.aload_n 0, 1) := by decide +kernel
theorem d_Engine_operate_121 : decode prog_4_method_9_code 121 = .ok (.getfield 34, 3) := by decide +kernel
theorem d_Engine_operate_124 : decode prog_4_method_9_code 124 = .ok (.aload_n 2, 1) := by decide +kernel
theorem d_Engine_operate_125 : decode prog_4_method_9_code 125 = .ok (.invokevirtual 157, 3) := by decide +kernel
theorem k_5_54 : Cond.code ⟨"PageScribe$Memory", "actOnDicts", "(LPageScribe$Op;)I"⟩ prog_5_method_12_code 2 (some .int) ∈ gw := gw_of (tb_5 (List.mem_of_getElem? (i := 54) (by decide +kernel))) (by decide +kernel)
theorem k_5_51 : Cond.methodLink "PageScribe$Engine" 157 ⟨"PageScribe$Memory", "actOnDicts", "(LPageScribe$Op;)I"⟩ ∈ gw := gw_of (tb_5 (List.mem_of_getElem? (i := 51) (by decide +kernel))) (by decide +kernel)
theorem k_5_52 : Cond.instanceMethod ⟨"PageScribe$Memory", "actOnDicts", "(LPageScribe$Op;)I"⟩ ∈ gw := gw_of (tb_5 (List.mem_of_getElem? (i := 52) (by decide +kernel))) (by decide +kernel)
theorem k_5_53 : Cond.selects "PageScribe$Memory" ⟨"PageScribe$Memory", "actOnDicts", "(LPageScribe$Op;)I"⟩ ⟨"PageScribe$Memory", "actOnDicts", "(LPageScribe$Op;)I"⟩ ∈ gw := gw_of (tb_5 (List.mem_of_getElem? (i := 53) (by decide +kernel))) (by decide +kernel)
theorem d_Engine_operate_128 : decode prog_4_method_9_code 128 = .ok (.ireturn, 1) := by decide +kernel
theorem d_Engine_operate_129 : decode prog_4_method_9_code 129 = .ok (.aload_n 2, 1) := by decide +kernel
theorem d_Engine_operate_130 : decode prog_4_method_9_code 130 = .ok (.getstatic 160, 3) := by decide +kernel
theorem k_5_81 : Cond.fieldLink "PageScribe$Engine" 160 "PageScribe$Op" "SAVE" "LPageScribe$Op;" ∈ gw := gw_of (tb_5 (List.mem_of_getElem? (i := 81) (by decide +kernel))) (by decide +kernel)
theorem d_Engine_operate_133 : decode prog_4_method_9_code 133 = .ok (.if_acmp .ne 13, 3) := by decide +kernel
theorem d_Engine_operate_146 : decode prog_4_method_9_code 146 = .ok (.aload_n 0, 1) := by decide +kernel
theorem d_Engine_operate_147 : decode prog_4_method_9_code 147 = .ok (.getfield 34, 3) := by decide +kernel
theorem d_Engine_operate_150 : decode prog_4_method_9_code 150 = .ok (.aload_n 0, 1) := by decide +kernel
theorem d_Engine_operate_151 : decode prog_4_method_9_code 151 = .ok (.getfield 24, 3) := by decide +kernel
theorem d_Engine_operate_154 : decode prog_4_method_9_code 154 = .ok (.invokevirtual 167, 3) := by decide +kernel
theorem k_5_109 : Cond.code ⟨"PageScribe$Memory", "restore", "(I)I"⟩ prog_5_method_21_code 5 (some .int) ∈ gw := gw_of (tb_5 (List.mem_of_getElem? (i := 109) (by decide +kernel))) (by decide +kernel)
theorem k_5_106 : Cond.methodLink "PageScribe$Engine" 167 ⟨"PageScribe$Memory", "restore", "(I)I"⟩ ∈ gw := gw_of (tb_5 (List.mem_of_getElem? (i := 106) (by decide +kernel))) (by decide +kernel)
theorem k_5_107 : Cond.instanceMethod ⟨"PageScribe$Memory", "restore", "(I)I"⟩ ∈ gw := gw_of (tb_5 (List.mem_of_getElem? (i := 107) (by decide +kernel))) (by decide +kernel)
theorem k_5_108 : Cond.selects "PageScribe$Memory" ⟨"PageScribe$Memory", "restore", "(I)I"⟩ ⟨"PageScribe$Memory", "restore", "(I)I"⟩ ∈ gw := gw_of (tb_5 (List.mem_of_getElem? (i := 108) (by decide +kernel))) (by decide +kernel)
theorem d_Engine_operate_157 : decode prog_4_method_9_code 157 = .ok (.ireturn, 1) := by decide +kernel
theorem d_Engine_operate_136 : decode prog_4_method_9_code 136 = .ok (.aload_n 0, 1) := by decide +kernel
theorem d_Engine_operate_137 : decode prog_4_method_9_code 137 = .ok (.getfield 34, 3) := by decide +kernel
theorem d_Engine_operate_140 : decode prog_4_method_9_code 140 = .ok (.invokevirtual 164, 3) := by decide +kernel
theorem k_5_86 : Cond.code ⟨"PageScribe$Memory", "save", "()I"⟩ prog_5_method_20_code 3 (some .int) ∈ gw := gw_of (tb_5 (List.mem_of_getElem? (i := 86) (by decide +kernel))) (by decide +kernel)
theorem k_5_83 : Cond.methodLink "PageScribe$Engine" 164 ⟨"PageScribe$Memory", "save", "()I"⟩ ∈ gw := gw_of (tb_5 (List.mem_of_getElem? (i := 83) (by decide +kernel))) (by decide +kernel)
theorem k_5_84 : Cond.instanceMethod ⟨"PageScribe$Memory", "save", "()I"⟩ ∈ gw := gw_of (tb_5 (List.mem_of_getElem? (i := 84) (by decide +kernel))) (by decide +kernel)
theorem k_5_85 : Cond.selects "PageScribe$Memory" ⟨"PageScribe$Memory", "save", "()I"⟩ ⟨"PageScribe$Memory", "save", "()I"⟩ ∈ gw := gw_of (tb_5 (List.mem_of_getElem? (i := 85) (by decide +kernel))) (by decide +kernel)
theorem d_Engine_operate_143 : decode prog_4_method_9_code 143 = .ok (.goto 14, 3) := by decide +kernel
theorem d_Engine_operate_158 : decode prog_4_method_9_code 158 = .ok (.aload_n 0, 1) := by decide +kernel
theorem d_Engine_operate_159 : decode prog_4_method_9_code 159 = .ok (.getfield 38, 3) := by decide +kernel
theorem k_2_24 : Cond.fieldLink "PageScribe$Engine" 38 "PageScribe$Engine" "canvas" "LPageScribe$Canvas;" ∈ gw := gw_of (tb_2 (List.mem_of_getElem? (i := 24) (by decide +kernel))) (by decide +kernel)
theorem d_Engine_operate_162 : decode prog_4_method_9_code 162 = .ok (.aload_n 2, 1) := by decide +kernel
theorem d_Engine_operate_163 : decode prog_4_method_9_code 163 = .ok (.invokevirtual 170, 3) := by decide +kernel
theorem k_5_129 : Cond.code ⟨"PageScribe$Canvas", "act", "(LPageScribe$Op;)I"⟩ prog_3_method_4_code 2 (some .int) ∈ gw := gw_of (tb_5 (List.mem_of_getElem? (i := 129) (by decide +kernel))) (by decide +kernel)
theorem k_5_126 : Cond.methodLink "PageScribe$Engine" 170 ⟨"PageScribe$Canvas", "act", "(LPageScribe$Op;)I"⟩ ∈ gw := gw_of (tb_5 (List.mem_of_getElem? (i := 126) (by decide +kernel))) (by decide +kernel)
theorem k_5_127 : Cond.instanceMethod ⟨"PageScribe$Canvas", "act", "(LPageScribe$Op;)I"⟩ ∈ gw := gw_of (tb_5 (List.mem_of_getElem? (i := 127) (by decide +kernel))) (by decide +kernel)
theorem k_5_128 : Cond.selects "PageScribe$Canvas" ⟨"PageScribe$Canvas", "act", "(LPageScribe$Op;)I"⟩ ⟨"PageScribe$Canvas", "act", "(LPageScribe$Op;)I"⟩ ∈ gw := gw_of (tb_5 (List.mem_of_getElem? (i := 128) (by decide +kernel))) (by decide +kernel)
theorem d_Engine_operate_166 : decode prog_4_method_9_code 166 = .ok (.ireturn, 1) := by decide +kernel
theorem d_Engine_operate_167 : decode prog_4_method_9_code 167 = .ok (.aload_n 0, 1) := by decide +kernel
theorem d_Engine_operate_168 : decode prog_4_method_9_code 168 = .ok (.aload_n 2, 1) := by decide +kernel
theorem d_Engine_operate_169 : decode prog_4_method_9_code 169 = .ok (.invokevirtual 173, 3) := by decide +kernel
theorem k_5_189 : Cond.code ⟨"PageScribe$Engine", "actOnRuns", "(LPageScribe$Op;)I"⟩ prog_4_method_10_code 2 (some .int) ∈ gw := gw_of (tb_5 (List.mem_of_getElem? (i := 189) (by decide +kernel))) (by decide +kernel)
theorem k_5_186 : Cond.methodLink "PageScribe$Engine" 173 ⟨"PageScribe$Engine", "actOnRuns", "(LPageScribe$Op;)I"⟩ ∈ gw := gw_of (tb_5 (List.mem_of_getElem? (i := 186) (by decide +kernel))) (by decide +kernel)
theorem k_5_188 : Cond.instanceMethod ⟨"PageScribe$Engine", "actOnRuns", "(LPageScribe$Op;)I"⟩ ∈ gw := gw_of (tb_5 (List.mem_of_getElem? (i := 188) (by decide +kernel))) (by decide +kernel)
theorem k_0_66 : Cond.selects "PageScribe$Engine" ⟨"PageScribe$Engine", "actOnRuns", "(LPageScribe$Op;)I"⟩ ⟨"PageScribe$Engine", "actOnRuns", "(LPageScribe$Op;)I"⟩ ∈ gw := gw_of (tb_0 (List.mem_of_getElem? (i := 66) (by decide +kernel))) (by decide +kernel)
theorem d_Engine_operate_172 : decode prog_4_method_9_code 172 = .ok (.ireturn, 1) := by decide +kernel
theorem d_Engine_operate_36 : decode prog_4_method_9_code 36 = .ok (.iload_n 3, 1) := by decide +kernel
theorem d_Engine_operate_37 : decode prog_4_method_9_code 37 = .ok (.ireturn, 1) := by decide +kernel
set_option maxHeartbeats 4000000 in
set_option maxRecDepth 100000 in
theorem c_Engine_operate (l : Launch) (D : va_G) (T : Nat → ClassId) (ad : Nat → Nat) (g : GE) (Bq : Nat → Prop) (d : Nat) (hdv : ∀ d2, d2 < d → DVP l D T ad g Bq d2) (S : CS) (p0 : Int32) (sz : Nat)  (hI : CIv S) (hd : 8 ≤ (f_xe_underWay S).toInt + d) : Met l ⟨"PageScribe$Engine", "operate", "(I)I"⟩ (wy ⟨"PageScribe$Engine", "operate", "(I)I"⟩ prog_4_method_9_code 4 (some .int)) ({ frames := 10 + 10 * d, cells := 0, slots := 0, locals := 70 * (10 + 10 * d) }) (va_Pc [.ref (ad 72), .int p0] (Pw D T (cW T ad S) sz (EC g Bq ad))) (va_Qi (fun (r : Int32) (u : CS) => CIv u ∧ kcL S u ∧ kcP S u ∧ kcU S u ∧ kcW S u) (fun u t => Bw D T (va_A (cW T ad S) sz) (cW T ad u) t) (va_A (cW T ad S) sz)) 0 0 (va_A (cW T ad S) sz) := by
  refine j_met (y := ⟨"PageScribe$Engine", "operate", "(I)I"⟩) (b := prog_4_method_9_code) (n := 4) (ret := (some .int)) (av := [.ref (ad 72), .int p0]) (Qc := fun A => va_Qi (fun (r : Int32) (u : CS) => CIv u ∧ kcL S u ∧ kcP S u ∧ kcU S u ∧ kcW S u) (fun u t => Bw D T A (cW T ad u) t) A) (by decide +kernel) (Nat.le_of_ble_eq_true rfl) (fun p e s m args below meth c A ls F hr hlocks hnm hK hP hD hS hA hN hE hl => ?_)
  obtain ⟨hx, hb, hml, hown, hts⟩ := id F
  have hl : lv_has ls 4 [(0, .ref (ad 72)), (1, .int p0)] := hl
  obtain ⟨i_vst, i_vc0, i_vc1, i_vc2, i_vc3, i_vv0, i_vv1, i_vv2, i_vv3, i_vg, i_wct, i_wln, i_sd0, i_sd1, i_sd2, i_sd3, i_rln, i_rtx, i_rpl, i_rtk, i_cnv, i_pts, i_cik, i_und⟩ := id hI
  have hAB : ∀ q, A q → Bq q := EC.ab hE hN
  have hEV := hE.1.narrow hAB
  have rp0 := zt_rng p0
  refine lv_iload_n hx hb d_Engine_operate_0 rfl (lv_at hl 1 rfl) ?_
  refine lv_if_lt (tgt := 12) hx hb d_Engine_operate_1 (by decide) (fun c1_1 => ?_) (fun c1_1 => ?_)
  · have fc1_1 : p0.toInt < 0 := zt_lt (show p0.toInt = _ from rfl) tI_0 c1_1
    refine lv_iconst (v := 5) hx hb d_Engine_operate_12 (by decide) ?_
    exact j_iret F hr hlocks hK hS S ⟨⟨i_vst, i_vc0, i_vc1, i_vc2, i_vc3, i_vv0, i_vv1, i_vv2, i_vv3, i_vg, i_wct, i_wln, i_sd0, i_sd1, i_sd2, i_sd3, i_rln, i_rtx, i_rpl, i_rtk, i_cnv, i_pts, i_cik, i_und⟩, (kcL_r S), (kcP_r S), (kcU_r S), (kcW_r S)⟩ hP hD d_Engine_operate_13
  · have fc1_1 : 0 ≤ p0.toInt := Int.not_lt.mp (zt_nlt (show p0.toInt = _ from rfl) tI_0 c1_1)
    refine lv_iload_n hx hb d_Engine_operate_4 rfl (lv_at hl 1 rfl) ?_
    refine va_getsN hx hb hEV.2.1.1 hS hown (va_Nw.use rfl (hE.2.2.2 (Cond.fieldLinkNest "PageScribe$Engine" 129 "PageScribe" "OPERATORS" "[LPageScribe$Op;" "PageScribe") (List.mem_of_getElem? (i := 4) rfl))) (fun _ h9 => h9) d_Engine_operate_5 ?_
    refine va_tlen hx hb hEV.2.1.2 hS (v := 72) (by decide +kernel) d_Engine_operate_8 ?_
    refine lv_icmp_lt (tgt := 14) hx hb d_Engine_operate_9 (by decide) (fun c9_1 => ?_) (fun c9_1 => ?_)
    · have fc9_1 : p0.toInt < 72 := zt_lt (show p0.toInt = _ from rfl) tI_72 c9_1
      refine va_getsN hx hb hEV.2.1.1 hS hown (va_Nw.use rfl (hE.2.2.2 (Cond.fieldLinkNest "PageScribe$Engine" 129 "PageScribe" "OPERATORS" "[LPageScribe$Op;" "PageScribe") (List.mem_of_getElem? (i := 4) rfl))) (fun _ h9 => h9) d_Engine_operate_14 ?_
      refine lv_iload_n hx hb d_Engine_operate_17 rfl (lv_at hl 1 rfl) ?_
      have hi1 : p0.toInt.toNat < 72 := by omega
      refine vb_tq hx hb hEV.2.1.2 hS (zt_in (show p0.toInt = _ from rfl) (by omega) (by omega)) (v := .ref (g_en g (p0.toInt.toNat))) (by rw [zt_ix (show p0.toInt = _ from rfl)]) d_Engine_operate_18 ?_
      refine lv_astore_n (lv' := [(2, .ref (g_en g (p0.toInt.toNat))), (0, .ref (ad 72)), (1, .int p0)]) hx hb d_Engine_operate_19 rfl hl (by decide) rfl (fun ls hl => ?_)
      refine lv_aload_n hx hb d_Engine_operate_20 rfl (lv_at hl 1 rfl) ?_
      refine va_get (D := D) (ci := 7) (v := .ref (ad 1)) (C := "PageScribe$Engine") (T := F_Engine) (N := 11) hx hb hts i_Engine hown hK hP 72 (ce_72 _ _ _) cl_7 0 (by decide) (hts _ k_2_22) (fun _ h9 => h9) rfl d_Engine_operate_21 ?_
      refine lv_aload_n hx hb d_Engine_operate_24 rfl (lv_at hl 0 rfl) ?_
      refine vk_getf hx hb (hEV.1 (p0.toInt.toNat) hi1).2.2.2.2 hS hown (hts _ k_8_187) (fun _ h9 => h9) d_Engine_operate_25 ?_
      refine jc_ci (w := (fun _ => S)) hK hP hD hS hA (va_runV (As := [.ref (g_K g (g_tk g (p0.toInt.toNat)))]) (rest := []) F (c_Stack_check l D T ad g Bq S (g_tk g (p0.toInt.toNat))  s.heap.size (hEV.2.2.2.2.2 (p0.toInt.toNat) hi1) ⟨i_vst, i_vc0, i_vc1, i_vc2, i_vc3, i_vv0, i_vv1, i_vv2, i_vv3, i_vg, i_wct, i_wln, i_sd0, i_sd1, i_sd2, i_sd3, i_rln, i_rtx, i_rpl, i_rtk, i_cnv, i_pts, i_cik, i_und⟩) (j_cV (k := 1) (C := "PageScribe$Stack") hts k_3_200 k_1_3 k_3_197 k_3_198 k_3_199 (by decide +kernel) ⟨by dsimp only; omega, by dsimp only; omega⟩) (j_preV (q0 := 1) (ci := 0) hK hP hD csc csc_all csc_nd cl_0 (ce_1 _ _ _) (fun _ _ _ _ h => EC.calling h) (fun U hU hW => EC.at hS hAB hU hW hE)) rfl rfl hl.1 rfl (lv_room (Nat.le_of_ble_eq_true rfl)) d_Engine_operate_28 ⟨Nat.le_of_ble_eq_true rfl, Nat.le_of_ble_eq_true rfl⟩) (fun rv1 u1 H locs hw1 hP hD hS => ?_)
      have hP : va_P D classes (cW T ad S) H := hP
      have hD : va_D A (cW T ad S) := hD
      have rrv1 := zt_rng rv1
      refine lv_istore_n (lv' := [(3, .int rv1), (2, .ref (g_en g (p0.toInt.toNat))), (0, .ref (ad 72)), (1, .int p0)]) hx hb d_Engine_operate_31 rfl hl (by decide) rfl (fun ls hl => ?_)
      refine lv_iload_n hx hb d_Engine_operate_32 rfl (lv_at hl 0 rfl) ?_
      refine lv_if_eq (tgt := 38) hx hb d_Engine_operate_33 (by decide) (fun c33_1 => ?_) (fun c33_1 => ?_)
      · have fc33_1 : rv1.toInt = 0 := zt_eq (show rv1.toInt = _ from rfl) tI_0 c33_1
        refine lv_aload_n hx hb d_Engine_operate_38 rfl (lv_at hl 1 rfl) ?_
        refine vk_getf hx hb (hEV.1 (p0.toInt.toNat) hi1).2.2.1 hS hown (hts _ k_8_188) (fun _ h9 => h9) d_Engine_operate_39 ?_
        refine lv_topi (fun x1 ex1 => ?_)
        have rx1 := zt_rng x1
        by_cases h_0_1 : x1.toInt = 0
        · refine lv_tableIn (off := 42) (tgt := 84) hx hb d_Engine_operate_42 (by omega) (by omega) (by rw [show x1.toInt = 0 from h_0_1]; decide +kernel) (by decide) ?_
          refine lv_aload_n hx hb d_Engine_operate_84 rfl (lv_at hl 2 rfl) ?_
          refine va_get (D := D) (ci := 7) (v := .ref (ad 1)) (C := "PageScribe$Engine") (T := F_Engine) (N := 11) hx hb hts i_Engine hown hK hP 72 (ce_72 _ _ _) cl_7 0 (by decide) (hts _ k_2_22) (fun _ h9 => h9) rfl d_Engine_operate_85 ?_
          refine lv_aload_n hx hb d_Engine_operate_88 rfl (lv_at hl 1 rfl) ?_
          refine jc_ci (w := (fun u => u)) hK hP hD hS hA (va_runV (As := [.ref (g_en g (p0.toInt.toNat))]) (rest := []) F (c_Stack_shuffle l D T ad g Bq S (p0.toInt.toNat)  H.size hi1 ⟨i_vst, i_vc0, i_vc1, i_vc2, i_vc3, i_vv0, i_vv1, i_vv2, i_vv3, i_vg, i_wct, i_wln, i_sd0, i_sd1, i_sd2, i_sd3, i_rln, i_rtx, i_rpl, i_rtk, i_cnv, i_pts, i_cik, i_und⟩) (j_cV (k := 1) (C := "PageScribe$Stack") hts k_4_33 k_1_3 k_4_30 k_4_31 k_4_32 (by decide +kernel) ⟨by dsimp only; omega, by dsimp only; omega⟩) (j_preV (q0 := 1) (ci := 0) hK hP hD csc csc_all csc_nd cl_0 (ce_1 _ _ _) (fun _ _ _ _ h => EC.calling h) (fun U hU hW => EC.at hS hAB hU hW hE)) rfl rfl hl.1 rfl (lv_room (Nat.le_of_ble_eq_true rfl)) d_Engine_operate_89 ⟨Nat.le_of_ble_eq_true rfl, Nat.le_of_ble_eq_true rfl⟩) (fun rv2 S1 H locs hw2 hP hD hS => ?_)
          have hP : va_P D classes (cW T ad S1) H := hP
          have hD : va_D A (cW T ad S1) := hD
          obtain ⟨⟨i_vst, i_vc0, i_vc1, i_vc2, i_vc3, i_vv0, i_vv1, i_vv2, i_vv3, i_vg, i_wct, i_wln, i_sd0, i_sd1, i_sd2, i_sd3, i_rln, i_rtx, i_rpl, i_rtk, i_cnv, i_pts, i_cik, i_und⟩, kpcL_S1, kpcP_S1, kpcU_S1, kpcW_S1⟩ := hw2
          have kScL_S1 : kcL S S1 := kcL_t (show kcL S S from (kcL_r S)) kpcL_S1
          have kScP_S1 : kcP S S1 := kcP_t (show kcP S S from (kcP_r S)) kpcP_S1
          have kScU_S1 : kcU S S1 := kcU_t (show kcU S S from (kcU_r S)) kpcU_S1
          have kScW_S1 : kcW S S1 := kcW_t (show kcW S S from (kcW_r S)) kpcW_S1
          have nxr_length_S1 : (f_xr_length S1).toInt = (f_xr_length S).toInt := congrArg Int32.toInt kpcL_S1
          have nxr_length_S1 : (f_xr_length S1).toInt = (f_xr_length S).toInt := congrArg Int32.toInt kpcP_S1.1
          have nxr_place_S1 : (f_xr_place S1).toInt = (f_xr_place S).toInt := congrArg Int32.toInt kpcP_S1.2.1
          have nxe_underWay_S1 : (f_xe_underWay S1).toInt = (f_xe_underWay S).toInt := congrArg Int32.toInt kpcU_S1
          have nxp_columns_S1 : (f_xp_columns S1).toInt = (f_xp_columns S).toInt := congrArg Int32.toInt kpcW_S1.1
          have nxp_rows_S1 : (f_xp_rows S1).toInt = (f_xp_rows S).toInt := congrArg Int32.toInt kpcW_S1.2
          have rrv2 := zt_rng rv2
          exact j_iret F hr hlocks hK hS S1 ⟨⟨i_vst, i_vc0, i_vc1, i_vc2, i_vc3, i_vv0, i_vv1, i_vv2, i_vv3, i_vg, i_wct, i_wln, i_sd0, i_sd1, i_sd2, i_sd3, i_rln, i_rtx, i_rpl, i_rtk, i_cnv, i_pts, i_cik, i_und⟩, kScL_S1, kScP_S1, kScU_S1, kScW_S1⟩ hP hD d_Engine_operate_92
        by_cases h_1_1 : x1.toInt = 1
        · refine lv_tableIn (off := 51) (tgt := 93) hx hb d_Engine_operate_42 (by omega) (by omega) (by rw [show x1.toInt = 1 from h_1_1]; decide +kernel) (by decide) ?_
          refine lv_aload_n hx hb d_Engine_operate_93 rfl (lv_at hl 2 rfl) ?_
          refine va_get (D := D) (ci := 7) (v := .ref (ad 73)) (C := "PageScribe$Engine") (T := F_Engine) (N := 11) hx hb hts i_Engine hown hK hP 72 (ce_72 _ _ _) cl_7 3 (by decide) (hts _ k_2_25) (fun _ h9 => h9) rfl d_Engine_operate_94 ?_
          refine lv_aload_n hx hb d_Engine_operate_97 rfl (lv_at hl 1 rfl) ?_
          refine jc_ci (w := (fun u => u)) hK hP hD hS hA (va_runV (As := [.ref (g_en g (p0.toInt.toNat))]) (rest := []) F (c_Sums_act l D T ad g Bq S (p0.toInt.toNat)  H.size hi1 ⟨i_vst, i_vc0, i_vc1, i_vc2, i_vc3, i_vv0, i_vv1, i_vv2, i_vv3, i_vg, i_wct, i_wln, i_sd0, i_sd1, i_sd2, i_sd3, i_rln, i_rtx, i_rpl, i_rtk, i_cnv, i_pts, i_cik, i_und⟩) (j_cV (k := 1) (C := "PageScribe$Sums") hts k_4_103 k_1_10 k_4_100 k_4_101 k_4_102 (by decide +kernel) ⟨by dsimp only; omega, by dsimp only; omega⟩) (j_preV (q0 := 73) (ci := 8) hK hP hD csc csc_all csc_nd cl_8 (ce_73 _ _ _) (fun _ _ _ _ h => EC.calling h) (fun U hU hW => EC.at hS hAB hU hW hE)) rfl rfl hl.1 rfl (lv_room (Nat.le_of_ble_eq_true rfl)) d_Engine_operate_98 ⟨Nat.le_of_ble_eq_true rfl, Nat.le_of_ble_eq_true rfl⟩) (fun rv3 S2 H locs hw3 hP hD hS => ?_)
          have hP : va_P D classes (cW T ad S2) H := hP
          have hD : va_D A (cW T ad S2) := hD
          obtain ⟨⟨i_vst, i_vc0, i_vc1, i_vc2, i_vc3, i_vv0, i_vv1, i_vv2, i_vv3, i_vg, i_wct, i_wln, i_sd0, i_sd1, i_sd2, i_sd3, i_rln, i_rtx, i_rpl, i_rtk, i_cnv, i_pts, i_cik, i_und⟩, kpcL_S2, kpcP_S2, kpcU_S2, kpcW_S2⟩ := hw3
          have kScL_S2 : kcL S S2 := kcL_t (show kcL S S from (kcL_r S)) kpcL_S2
          have kScP_S2 : kcP S S2 := kcP_t (show kcP S S from (kcP_r S)) kpcP_S2
          have kScU_S2 : kcU S S2 := kcU_t (show kcU S S from (kcU_r S)) kpcU_S2
          have kScW_S2 : kcW S S2 := kcW_t (show kcW S S from (kcW_r S)) kpcW_S2
          have nxr_length_S2 : (f_xr_length S2).toInt = (f_xr_length S).toInt := congrArg Int32.toInt kpcL_S2
          have nxr_length_S2 : (f_xr_length S2).toInt = (f_xr_length S).toInt := congrArg Int32.toInt kpcP_S2.1
          have nxr_place_S2 : (f_xr_place S2).toInt = (f_xr_place S).toInt := congrArg Int32.toInt kpcP_S2.2.1
          have nxe_underWay_S2 : (f_xe_underWay S2).toInt = (f_xe_underWay S).toInt := congrArg Int32.toInt kpcU_S2
          have nxp_columns_S2 : (f_xp_columns S2).toInt = (f_xp_columns S).toInt := congrArg Int32.toInt kpcW_S2.1
          have nxp_rows_S2 : (f_xp_rows S2).toInt = (f_xp_rows S).toInt := congrArg Int32.toInt kpcW_S2.2
          have rrv3 := zt_rng rv3
          exact j_iret F hr hlocks hK hS S2 ⟨⟨i_vst, i_vc0, i_vc1, i_vc2, i_vc3, i_vv0, i_vv1, i_vv2, i_vv3, i_vg, i_wct, i_wln, i_sd0, i_sd1, i_sd2, i_sd3, i_rln, i_rtx, i_rpl, i_rtk, i_cnv, i_pts, i_cik, i_und⟩, kScL_S2, kScP_S2, kScU_S2, kScW_S2⟩ hP hD d_Engine_operate_101
        by_cases h_2_1 : x1.toInt = 2
        · refine lv_tableIn (off := 60) (tgt := 102) hx hb d_Engine_operate_42 (by omega) (by omega) (by rw [show x1.toInt = 2 from h_2_1]; decide +kernel) (by decide) ?_
          refine lv_aload_n hx hb d_Engine_operate_102 rfl (lv_at hl 2 rfl) ?_
          refine va_get (D := D) (ci := 7) (v := .ref (ad 74)) (C := "PageScribe$Engine") (T := F_Engine) (N := 11) hx hb hts i_Engine hown hK hP 72 (ce_72 _ _ _) cl_7 4 (by decide) (hts _ k_2_26) (fun _ h9 => h9) rfl d_Engine_operate_103 ?_
          refine lv_aload_n hx hb d_Engine_operate_106 rfl (lv_at hl 1 rfl) ?_
          refine jc_ci (w := (fun u => u)) hK hP hD hS hA (va_runV (As := [.ref (g_en g (p0.toInt.toNat))]) (rest := []) F (c_Truths_act l D T ad g Bq S (p0.toInt.toNat)  H.size hi1 ⟨i_vst, i_vc0, i_vc1, i_vc2, i_vc3, i_vv0, i_vv1, i_vv2, i_vv3, i_vg, i_wct, i_wln, i_sd0, i_sd1, i_sd2, i_sd3, i_rln, i_rtx, i_rpl, i_rtk, i_cnv, i_pts, i_cik, i_und⟩) (j_cV (k := 1) (C := "PageScribe$Truths") hts k_4_171 k_1_11 k_4_168 k_4_169 k_4_170 (by decide +kernel) ⟨by dsimp only; omega, by dsimp only; omega⟩) (j_preV (q0 := 74) (ci := 9) hK hP hD csc csc_all csc_nd cl_9 (ce_74 _ _ _) (fun _ _ _ _ h => EC.calling h) (fun U hU hW => EC.at hS hAB hU hW hE)) rfl rfl hl.1 rfl (lv_room (Nat.le_of_ble_eq_true rfl)) d_Engine_operate_107 ⟨Nat.le_of_ble_eq_true rfl, Nat.le_of_ble_eq_true rfl⟩) (fun rv4 S3 H locs hw4 hP hD hS => ?_)
          have hP : va_P D classes (cW T ad S3) H := hP
          have hD : va_D A (cW T ad S3) := hD
          obtain ⟨⟨i_vst, i_vc0, i_vc1, i_vc2, i_vc3, i_vv0, i_vv1, i_vv2, i_vv3, i_vg, i_wct, i_wln, i_sd0, i_sd1, i_sd2, i_sd3, i_rln, i_rtx, i_rpl, i_rtk, i_cnv, i_pts, i_cik, i_und⟩, kpcL_S3, kpcP_S3, kpcU_S3, kpcW_S3⟩ := hw4
          have kScL_S3 : kcL S S3 := kcL_t (show kcL S S from (kcL_r S)) kpcL_S3
          have kScP_S3 : kcP S S3 := kcP_t (show kcP S S from (kcP_r S)) kpcP_S3
          have kScU_S3 : kcU S S3 := kcU_t (show kcU S S from (kcU_r S)) kpcU_S3
          have kScW_S3 : kcW S S3 := kcW_t (show kcW S S from (kcW_r S)) kpcW_S3
          have nxr_length_S3 : (f_xr_length S3).toInt = (f_xr_length S).toInt := congrArg Int32.toInt kpcL_S3
          have nxr_length_S3 : (f_xr_length S3).toInt = (f_xr_length S).toInt := congrArg Int32.toInt kpcP_S3.1
          have nxr_place_S3 : (f_xr_place S3).toInt = (f_xr_place S).toInt := congrArg Int32.toInt kpcP_S3.2.1
          have nxe_underWay_S3 : (f_xe_underWay S3).toInt = (f_xe_underWay S).toInt := congrArg Int32.toInt kpcU_S3
          have nxp_columns_S3 : (f_xp_columns S3).toInt = (f_xp_columns S).toInt := congrArg Int32.toInt kpcW_S3.1
          have nxp_rows_S3 : (f_xp_rows S3).toInt = (f_xp_rows S).toInt := congrArg Int32.toInt kpcW_S3.2
          have rrv4 := zt_rng rv4
          exact j_iret F hr hlocks hK hS S3 ⟨⟨i_vst, i_vc0, i_vc1, i_vc2, i_vc3, i_vv0, i_vv1, i_vv2, i_vv3, i_vg, i_wct, i_wln, i_sd0, i_sd1, i_sd2, i_sd3, i_rln, i_rtx, i_rpl, i_rtk, i_cnv, i_pts, i_cik, i_und⟩, kScL_S3, kScP_S3, kScU_S3, kScW_S3⟩ hP hD d_Engine_operate_110
        by_cases h_3_1 : x1.toInt = 3
        · refine lv_tableIn (off := 69) (tgt := 111) hx hb d_Engine_operate_42 (by omega) (by omega) (by rw [show x1.toInt = 3 from h_3_1]; decide +kernel) (by decide) ?_
          refine lv_aload_n hx hb d_Engine_operate_111 rfl (lv_at hl 2 rfl) ?_
          refine va_get (D := D) (ci := 7) (v := .ref (ad 8)) (C := "PageScribe$Engine") (T := F_Engine) (N := 11) hx hb hts i_Engine hown hK hP 72 (ce_72 _ _ _) cl_7 1 (by decide) (hts _ k_2_23) (fun _ h9 => h9) rfl d_Engine_operate_112 ?_
          refine lv_aload_n hx hb d_Engine_operate_115 rfl (lv_at hl 1 rfl) ?_
          refine jc_ci (w := (fun u => u)) hK hP hD hS hA (va_runV (As := [.ref (g_en g (p0.toInt.toNat))]) (rest := []) F (c_Memory_actOnArrays l D T ad g Bq S (p0.toInt.toNat)  H.size hi1 ⟨i_vst, i_vc0, i_vc1, i_vc2, i_vc3, i_vv0, i_vv1, i_vv2, i_vv3, i_vg, i_wct, i_wln, i_sd0, i_sd1, i_sd2, i_sd3, i_rln, i_rtx, i_rpl, i_rtk, i_cnv, i_pts, i_cik, i_und⟩) (j_cV (k := 1) (C := "PageScribe$Memory") hts k_4_222 k_1_5 k_4_219 k_4_220 k_4_221 (by decide +kernel) ⟨by dsimp only; omega, by dsimp only; omega⟩) (j_preV (q0 := 8) (ci := 2) hK hP hD csc csc_all csc_nd cl_2 (ce_8 _ _ _) (fun _ _ _ _ h => EC.calling h) (fun U hU hW => EC.at hS hAB hU hW hE)) rfl rfl hl.1 rfl (lv_room (Nat.le_of_ble_eq_true rfl)) d_Engine_operate_116 ⟨Nat.le_of_ble_eq_true rfl, Nat.le_of_ble_eq_true rfl⟩) (fun rv5 S4 H locs hw5 hP hD hS => ?_)
          have hP : va_P D classes (cW T ad S4) H := hP
          have hD : va_D A (cW T ad S4) := hD
          obtain ⟨⟨i_vst, i_vc0, i_vc1, i_vc2, i_vc3, i_vv0, i_vv1, i_vv2, i_vv3, i_vg, i_wct, i_wln, i_sd0, i_sd1, i_sd2, i_sd3, i_rln, i_rtx, i_rpl, i_rtk, i_cnv, i_pts, i_cik, i_und⟩, kpcL_S4, kpcP_S4, kpcU_S4, kpcW_S4⟩ := hw5
          have kScL_S4 : kcL S S4 := kcL_t (show kcL S S from (kcL_r S)) kpcL_S4
          have kScP_S4 : kcP S S4 := kcP_t (show kcP S S from (kcP_r S)) kpcP_S4
          have kScU_S4 : kcU S S4 := kcU_t (show kcU S S from (kcU_r S)) kpcU_S4
          have kScW_S4 : kcW S S4 := kcW_t (show kcW S S from (kcW_r S)) kpcW_S4
          have nxr_length_S4 : (f_xr_length S4).toInt = (f_xr_length S).toInt := congrArg Int32.toInt kpcL_S4
          have nxr_length_S4 : (f_xr_length S4).toInt = (f_xr_length S).toInt := congrArg Int32.toInt kpcP_S4.1
          have nxr_place_S4 : (f_xr_place S4).toInt = (f_xr_place S).toInt := congrArg Int32.toInt kpcP_S4.2.1
          have nxe_underWay_S4 : (f_xe_underWay S4).toInt = (f_xe_underWay S).toInt := congrArg Int32.toInt kpcU_S4
          have nxp_columns_S4 : (f_xp_columns S4).toInt = (f_xp_columns S).toInt := congrArg Int32.toInt kpcW_S4.1
          have nxp_rows_S4 : (f_xp_rows S4).toInt = (f_xp_rows S).toInt := congrArg Int32.toInt kpcW_S4.2
          have rrv5 := zt_rng rv5
          exact j_iret F hr hlocks hK hS S4 ⟨⟨i_vst, i_vc0, i_vc1, i_vc2, i_vc3, i_vv0, i_vv1, i_vv2, i_vv3, i_vg, i_wct, i_wln, i_sd0, i_sd1, i_sd2, i_sd3, i_rln, i_rtx, i_rpl, i_rtk, i_cnv, i_pts, i_cik, i_und⟩, kScL_S4, kScP_S4, kScU_S4, kScW_S4⟩ hP hD d_Engine_operate_119
        by_cases h_4_1 : x1.toInt = 4
        · refine lv_tableIn (off := 78) (tgt := 120) hx hb d_Engine_operate_42 (by omega) (by omega) (by rw [show x1.toInt = 4 from h_4_1]; decide +kernel) (by decide) ?_
          refine lv_aload_n hx hb d_Engine_operate_120 rfl (lv_at hl 2 rfl) ?_
          refine va_get (D := D) (ci := 7) (v := .ref (ad 8)) (C := "PageScribe$Engine") (T := F_Engine) (N := 11) hx hb hts i_Engine hown hK hP 72 (ce_72 _ _ _) cl_7 1 (by decide) (hts _ k_2_23) (fun _ h9 => h9) rfl d_Engine_operate_121 ?_
          refine lv_aload_n hx hb d_Engine_operate_124 rfl (lv_at hl 1 rfl) ?_
          refine jc_ci (w := (fun u => u)) hK hP hD hS hA (va_runV (As := [.ref (g_en g (p0.toInt.toNat))]) (rest := []) F (c_Memory_actOnDicts l D T ad g Bq S (p0.toInt.toNat)  H.size hi1 ⟨i_vst, i_vc0, i_vc1, i_vc2, i_vc3, i_vv0, i_vv1, i_vv2, i_vv3, i_vg, i_wct, i_wln, i_sd0, i_sd1, i_sd2, i_sd3, i_rln, i_rtx, i_rpl, i_rtk, i_cnv, i_pts, i_cik, i_und⟩) (j_cV (k := 1) (C := "PageScribe$Memory") hts k_5_54 k_1_5 k_5_51 k_5_52 k_5_53 (by decide +kernel) ⟨by dsimp only; omega, by dsimp only; omega⟩) (j_preV (q0 := 8) (ci := 2) hK hP hD csc csc_all csc_nd cl_2 (ce_8 _ _ _) (fun _ _ _ _ h => EC.calling h) (fun U hU hW => EC.at hS hAB hU hW hE)) rfl rfl hl.1 rfl (lv_room (Nat.le_of_ble_eq_true rfl)) d_Engine_operate_125 ⟨Nat.le_of_ble_eq_true rfl, Nat.le_of_ble_eq_true rfl⟩) (fun rv6 S5 H locs hw6 hP hD hS => ?_)
          have hP : va_P D classes (cW T ad S5) H := hP
          have hD : va_D A (cW T ad S5) := hD
          obtain ⟨⟨i_vst, i_vc0, i_vc1, i_vc2, i_vc3, i_vv0, i_vv1, i_vv2, i_vv3, i_vg, i_wct, i_wln, i_sd0, i_sd1, i_sd2, i_sd3, i_rln, i_rtx, i_rpl, i_rtk, i_cnv, i_pts, i_cik, i_und⟩, kpcL_S5, kpcP_S5, kpcU_S5, kpcW_S5⟩ := hw6
          have kScL_S5 : kcL S S5 := kcL_t (show kcL S S from (kcL_r S)) kpcL_S5
          have kScP_S5 : kcP S S5 := kcP_t (show kcP S S from (kcP_r S)) kpcP_S5
          have kScU_S5 : kcU S S5 := kcU_t (show kcU S S from (kcU_r S)) kpcU_S5
          have kScW_S5 : kcW S S5 := kcW_t (show kcW S S from (kcW_r S)) kpcW_S5
          have nxr_length_S5 : (f_xr_length S5).toInt = (f_xr_length S).toInt := congrArg Int32.toInt kpcL_S5
          have nxr_length_S5 : (f_xr_length S5).toInt = (f_xr_length S).toInt := congrArg Int32.toInt kpcP_S5.1
          have nxr_place_S5 : (f_xr_place S5).toInt = (f_xr_place S).toInt := congrArg Int32.toInt kpcP_S5.2.1
          have nxe_underWay_S5 : (f_xe_underWay S5).toInt = (f_xe_underWay S).toInt := congrArg Int32.toInt kpcU_S5
          have nxp_columns_S5 : (f_xp_columns S5).toInt = (f_xp_columns S).toInt := congrArg Int32.toInt kpcW_S5.1
          have nxp_rows_S5 : (f_xp_rows S5).toInt = (f_xp_rows S).toInt := congrArg Int32.toInt kpcW_S5.2
          have rrv6 := zt_rng rv6
          exact j_iret F hr hlocks hK hS S5 ⟨⟨i_vst, i_vc0, i_vc1, i_vc2, i_vc3, i_vv0, i_vv1, i_vv2, i_vv3, i_vg, i_wct, i_wln, i_sd0, i_sd1, i_sd2, i_sd3, i_rln, i_rtx, i_rpl, i_rtk, i_cnv, i_pts, i_cik, i_und⟩, kScL_S5, kScP_S5, kScU_S5, kScW_S5⟩ hP hD d_Engine_operate_128
        by_cases h_5_1 : x1.toInt = 5
        · refine lv_tableIn (off := 87) (tgt := 129) hx hb d_Engine_operate_42 (by omega) (by omega) (by rw [show x1.toInt = 5 from h_5_1]; decide +kernel) (by decide) ?_
          refine lv_aload_n hx hb d_Engine_operate_129 rfl (lv_at hl 1 rfl) ?_
          refine va_gets hx hb (v := .ref (g_en g 63)) (hEV.1 63 (by decide)).1.2 hS hown (hts _ k_5_81) (fun _ h9 => h9) d_Engine_operate_130 ?_
          refine lv_acmp_ne (rx := some (g_en g (p0.toInt.toNat))) (ry := some (g_en g 63)) (tgt := 146) hx hb d_Engine_operate_133 (by decide) (fun c133_1 => ?_) (fun c133_1 => ?_)
          · refine lv_aload_n hx hb d_Engine_operate_146 rfl (lv_at hl 2 rfl) ?_
            refine va_get (D := D) (ci := 7) (v := .ref (ad 8)) (C := "PageScribe$Engine") (T := F_Engine) (N := 11) hx hb hts i_Engine hown hK hP 72 (ce_72 _ _ _) cl_7 1 (by decide) (hts _ k_2_23) (fun _ h9 => h9) rfl d_Engine_operate_147 ?_
            refine lv_aload_n hx hb d_Engine_operate_150 rfl (lv_at hl 2 rfl) ?_
            refine va_get (D := D) (ci := 7) (v := .int (f_xe_reach S)) (C := "PageScribe$Engine") (T := F_Engine) (N := 11) hx hb hts i_Engine hown hK hP 72 (ce_72 _ _ _) cl_7 9 (by decide) (hts _ k_2_33) (fun _ h9 => h9) rfl d_Engine_operate_151 ?_
            refine jc_ci (w := (fun u => u)) hK hP hD hS hA (va_runV (As := [.int (f_xe_reach S)]) (rest := []) F (c_Memory_restore l D T ad g Bq S (f_xe_reach S)  H.size ⟨i_vst, i_vc0, i_vc1, i_vc2, i_vc3, i_vv0, i_vv1, i_vv2, i_vv3, i_vg, i_wct, i_wln, i_sd0, i_sd1, i_sd2, i_sd3, i_rln, i_rtx, i_rpl, i_rtk, i_cnv, i_pts, i_cik, i_und⟩) (j_cV (k := 1) (C := "PageScribe$Memory") hts k_5_109 k_1_5 k_5_106 k_5_107 k_5_108 (by decide +kernel) ⟨by dsimp only; omega, by dsimp only; omega⟩) (j_preV (q0 := 8) (ci := 2) hK hP hD csc csc_all csc_nd cl_2 (ce_8 _ _ _) (fun _ _ _ _ h => EC.calling h) (fun U hU hW => EC.at hS hAB hU hW hE)) rfl rfl hl.1 rfl (lv_room (Nat.le_of_ble_eq_true rfl)) d_Engine_operate_154 ⟨Nat.le_of_ble_eq_true rfl, Nat.le_of_ble_eq_true rfl⟩) (fun rv7 S6 H locs hw7 hP hD hS => ?_)
            have hP : va_P D classes (cW T ad S6) H := hP
            have hD : va_D A (cW T ad S6) := hD
            obtain ⟨⟨i_vst, i_vc0, i_vc1, i_vc2, i_vc3, i_vv0, i_vv1, i_vv2, i_vv3, i_vg, i_wct, i_wln, i_sd0, i_sd1, i_sd2, i_sd3, i_rln, i_rtx, i_rpl, i_rtk, i_cnv, i_pts, i_cik, i_und⟩, kpcL_S6, kpcP_S6, kpcU_S6, kpcW_S6⟩ := hw7
            have kScL_S6 : kcL S S6 := kcL_t (show kcL S S from (kcL_r S)) kpcL_S6
            have kScP_S6 : kcP S S6 := kcP_t (show kcP S S from (kcP_r S)) kpcP_S6
            have kScU_S6 : kcU S S6 := kcU_t (show kcU S S from (kcU_r S)) kpcU_S6
            have kScW_S6 : kcW S S6 := kcW_t (show kcW S S from (kcW_r S)) kpcW_S6
            have nxr_length_S6 : (f_xr_length S6).toInt = (f_xr_length S).toInt := congrArg Int32.toInt kpcL_S6
            have nxr_length_S6 : (f_xr_length S6).toInt = (f_xr_length S).toInt := congrArg Int32.toInt kpcP_S6.1
            have nxr_place_S6 : (f_xr_place S6).toInt = (f_xr_place S).toInt := congrArg Int32.toInt kpcP_S6.2.1
            have nxe_underWay_S6 : (f_xe_underWay S6).toInt = (f_xe_underWay S).toInt := congrArg Int32.toInt kpcU_S6
            have nxp_columns_S6 : (f_xp_columns S6).toInt = (f_xp_columns S).toInt := congrArg Int32.toInt kpcW_S6.1
            have nxp_rows_S6 : (f_xp_rows S6).toInt = (f_xp_rows S).toInt := congrArg Int32.toInt kpcW_S6.2
            have rrv7 := zt_rng rv7
            exact j_iret F hr hlocks hK hS S6 ⟨⟨i_vst, i_vc0, i_vc1, i_vc2, i_vc3, i_vv0, i_vv1, i_vv2, i_vv3, i_vg, i_wct, i_wln, i_sd0, i_sd1, i_sd2, i_sd3, i_rln, i_rtx, i_rpl, i_rtk, i_cnv, i_pts, i_cik, i_und⟩, kScL_S6, kScP_S6, kScU_S6, kScW_S6⟩ hP hD d_Engine_operate_157
          · refine lv_aload_n hx hb d_Engine_operate_136 rfl (lv_at hl 2 rfl) ?_
            refine va_get (D := D) (ci := 7) (v := .ref (ad 8)) (C := "PageScribe$Engine") (T := F_Engine) (N := 11) hx hb hts i_Engine hown hK hP 72 (ce_72 _ _ _) cl_7 1 (by decide) (hts _ k_2_23) (fun _ h9 => h9) rfl d_Engine_operate_137 ?_
            refine jc_ci (w := (fun u => u)) hK hP hD hS hA (va_runV (As := []) (rest := []) F (c_Memory_save l D T ad S  H.size ⟨i_vst, i_vc0, i_vc1, i_vc2, i_vc3, i_vv0, i_vv1, i_vv2, i_vv3, i_vg, i_wct, i_wln, i_sd0, i_sd1, i_sd2, i_sd3, i_rln, i_rtx, i_rpl, i_rtk, i_cnv, i_pts, i_cik, i_und⟩) (j_cV (k := 0) (C := "PageScribe$Memory") hts k_5_86 k_1_5 k_5_83 k_5_84 k_5_85 (by decide +kernel) ⟨by dsimp only; omega, by dsimp only; omega⟩) (j_preV (q0 := 8) (ci := 2) hK hP hD csc csc_all csc_nd cl_2 (ce_8 _ _ _) (fun _ _ _ _ h => h) (fun _ _ _ => trivial)) rfl rfl hl.1 rfl (lv_room (Nat.le_of_ble_eq_true rfl)) d_Engine_operate_140 ⟨Nat.le_of_ble_eq_true rfl, Nat.le_of_ble_eq_true rfl⟩) (fun rv8 S7 H locs hw8 hP hD hS => ?_)
            have hP : va_P D classes (cW T ad S7) H := hP
            have hD : va_D A (cW T ad S7) := hD
            obtain ⟨⟨i_vst, i_vc0, i_vc1, i_vc2, i_vc3, i_vv0, i_vv1, i_vv2, i_vv3, i_vg, i_wct, i_wln, i_sd0, i_sd1, i_sd2, i_sd3, i_rln, i_rtx, i_rpl, i_rtk, i_cnv, i_pts, i_cik, i_und⟩, kpcL_S7, kpcP_S7, kpcU_S7, kpcW_S7⟩ := hw8
            have kScL_S7 : kcL S S7 := kcL_t (show kcL S S from (kcL_r S)) kpcL_S7
            have kScP_S7 : kcP S S7 := kcP_t (show kcP S S from (kcP_r S)) kpcP_S7
            have kScU_S7 : kcU S S7 := kcU_t (show kcU S S from (kcU_r S)) kpcU_S7
            have kScW_S7 : kcW S S7 := kcW_t (show kcW S S from (kcW_r S)) kpcW_S7
            have nxr_length_S7 : (f_xr_length S7).toInt = (f_xr_length S).toInt := congrArg Int32.toInt kpcL_S7
            have nxr_length_S7 : (f_xr_length S7).toInt = (f_xr_length S).toInt := congrArg Int32.toInt kpcP_S7.1
            have nxr_place_S7 : (f_xr_place S7).toInt = (f_xr_place S).toInt := congrArg Int32.toInt kpcP_S7.2.1
            have nxe_underWay_S7 : (f_xe_underWay S7).toInt = (f_xe_underWay S).toInt := congrArg Int32.toInt kpcU_S7
            have nxp_columns_S7 : (f_xp_columns S7).toInt = (f_xp_columns S).toInt := congrArg Int32.toInt kpcW_S7.1
            have nxp_rows_S7 : (f_xp_rows S7).toInt = (f_xp_rows S).toInt := congrArg Int32.toInt kpcW_S7.2
            have rrv8 := zt_rng rv8
            refine lv_goto (tgt := 157) hx hb d_Engine_operate_143 (by decide) ?_
            exact j_iret F hr hlocks hK hS S7 ⟨⟨i_vst, i_vc0, i_vc1, i_vc2, i_vc3, i_vv0, i_vv1, i_vv2, i_vv3, i_vg, i_wct, i_wln, i_sd0, i_sd1, i_sd2, i_sd3, i_rln, i_rtx, i_rpl, i_rtk, i_cnv, i_pts, i_cik, i_und⟩, kScL_S7, kScP_S7, kScU_S7, kScW_S7⟩ hP hD d_Engine_operate_157
        by_cases h_6_1 : x1.toInt = 6
        · refine lv_tableIn (off := 116) (tgt := 158) hx hb d_Engine_operate_42 (by omega) (by omega) (by rw [show x1.toInt = 6 from h_6_1]; decide +kernel) (by decide) ?_
          refine lv_aload_n hx hb d_Engine_operate_158 rfl (lv_at hl 2 rfl) ?_
          refine va_get (D := D) (ci := 7) (v := .ref (ad 67)) (C := "PageScribe$Engine") (T := F_Engine) (N := 11) hx hb hts i_Engine hown hK hP 72 (ce_72 _ _ _) cl_7 2 (by decide) (hts _ k_2_24) (fun _ h9 => h9) rfl d_Engine_operate_159 ?_
          refine lv_aload_n hx hb d_Engine_operate_162 rfl (lv_at hl 1 rfl) ?_
          refine jc_ci (w := (fun u => u)) hK hP hD hS hA (va_runV (As := [.ref (g_en g (p0.toInt.toNat))]) (rest := []) F (c_Canvas_act l D T ad g Bq S (p0.toInt.toNat)  H.size hi1 ⟨i_vst, i_vc0, i_vc1, i_vc2, i_vc3, i_vv0, i_vv1, i_vv2, i_vv3, i_vg, i_wct, i_wln, i_sd0, i_sd1, i_sd2, i_sd3, i_rln, i_rtx, i_rpl, i_rtk, i_cnv, i_pts, i_cik, i_und⟩) (j_cV (k := 1) (C := "PageScribe$Canvas") hts k_5_129 k_1_8 k_5_126 k_5_127 k_5_128 (by decide +kernel) ⟨by dsimp only; omega, by dsimp only; omega⟩) (j_preV (q0 := 67) (ci := 6) hK hP hD csc csc_all csc_nd cl_6 (ce_67 _ _ _) (fun _ _ _ _ h => EC.calling h) (fun U hU hW => EC.at hS hAB hU hW hE)) rfl rfl hl.1 rfl (lv_room (Nat.le_of_ble_eq_true rfl)) d_Engine_operate_163 ⟨Nat.le_of_ble_eq_true rfl, Nat.le_of_ble_eq_true rfl⟩) (fun rv9 S8 H locs hw9 hP hD hS => ?_)
          have hP : va_P D classes (cW T ad S8) H := hP
          have hD : va_D A (cW T ad S8) := hD
          obtain ⟨⟨i_vst, i_vc0, i_vc1, i_vc2, i_vc3, i_vv0, i_vv1, i_vv2, i_vv3, i_vg, i_wct, i_wln, i_sd0, i_sd1, i_sd2, i_sd3, i_rln, i_rtx, i_rpl, i_rtk, i_cnv, i_pts, i_cik, i_und⟩, kpcL_S8, kpcP_S8, kpcU_S8, kpcW_S8⟩ := hw9
          have kScL_S8 : kcL S S8 := kcL_t (show kcL S S from (kcL_r S)) kpcL_S8
          have kScP_S8 : kcP S S8 := kcP_t (show kcP S S from (kcP_r S)) kpcP_S8
          have kScU_S8 : kcU S S8 := kcU_t (show kcU S S from (kcU_r S)) kpcU_S8
          have kScW_S8 : kcW S S8 := kcW_t (show kcW S S from (kcW_r S)) kpcW_S8
          have nxr_length_S8 : (f_xr_length S8).toInt = (f_xr_length S).toInt := congrArg Int32.toInt kpcL_S8
          have nxr_length_S8 : (f_xr_length S8).toInt = (f_xr_length S).toInt := congrArg Int32.toInt kpcP_S8.1
          have nxr_place_S8 : (f_xr_place S8).toInt = (f_xr_place S).toInt := congrArg Int32.toInt kpcP_S8.2.1
          have nxe_underWay_S8 : (f_xe_underWay S8).toInt = (f_xe_underWay S).toInt := congrArg Int32.toInt kpcU_S8
          have nxp_columns_S8 : (f_xp_columns S8).toInt = (f_xp_columns S).toInt := congrArg Int32.toInt kpcW_S8.1
          have nxp_rows_S8 : (f_xp_rows S8).toInt = (f_xp_rows S).toInt := congrArg Int32.toInt kpcW_S8.2
          have rrv9 := zt_rng rv9
          exact j_iret F hr hlocks hK hS S8 ⟨⟨i_vst, i_vc0, i_vc1, i_vc2, i_vc3, i_vv0, i_vv1, i_vv2, i_vv3, i_vg, i_wct, i_wln, i_sd0, i_sd1, i_sd2, i_sd3, i_rln, i_rtx, i_rpl, i_rtk, i_cnv, i_pts, i_cik, i_und⟩, kScL_S8, kScP_S8, kScU_S8, kScW_S8⟩ hP hD d_Engine_operate_166
        refine lv_tableOut (tgt := 167) hx hb d_Engine_operate_42 (by omega) (by decide) ?_
        refine lv_aload_n hx hb d_Engine_operate_167 rfl (lv_at hl 2 rfl) ?_
        refine lv_aload_n hx hb d_Engine_operate_168 rfl (lv_at hl 1 rfl) ?_
        refine jc_ci (w := (fun u => u)) hK hP hD hS hA (va_runV (As := [.ref (g_en g (p0.toInt.toNat))]) (rest := []) F (c_Engine_actOnRuns l D T ad g Bq d hdv S (p0.toInt.toNat)  H.size hi1 ⟨i_vst, i_vc0, i_vc1, i_vc2, i_vc3, i_vv0, i_vv1, i_vv2, i_vv3, i_vg, i_wct, i_wln, i_sd0, i_sd1, i_sd2, i_sd3, i_rln, i_rtx, i_rpl, i_rtk, i_cnv, i_pts, i_cik, i_und⟩ (show 8 ≤ (f_xe_underWay S).toInt + d by omega)) (j_cV (k := 1) (C := "PageScribe$Engine") hts k_5_189 k_1_9 k_5_186 k_5_188 k_0_66 (by decide +kernel) ⟨by dsimp only; omega, by dsimp only; omega⟩) (j_preV (q0 := 72) (ci := 7) hK hP hD csc csc_all csc_nd cl_7 (ce_72 _ _ _) (fun _ _ _ _ h => EC.calling h) (fun U hU hW => EC.at hS hAB hU hW hE)) rfl rfl hl.1 rfl (lv_room (Nat.le_of_ble_eq_true rfl)) d_Engine_operate_169 ⟨Nat.le_of_ble_eq_true rfl, Nat.le_of_ble_eq_true rfl⟩) (fun rv10 S9 H locs hw10 hP hD hS => ?_)
        have hP : va_P D classes (cW T ad S9) H := hP
        have hD : va_D A (cW T ad S9) := hD
        obtain ⟨⟨i_vst, i_vc0, i_vc1, i_vc2, i_vc3, i_vv0, i_vv1, i_vv2, i_vv3, i_vg, i_wct, i_wln, i_sd0, i_sd1, i_sd2, i_sd3, i_rln, i_rtx, i_rpl, i_rtk, i_cnv, i_pts, i_cik, i_und⟩, kpcL_S9, kpcP_S9, kpcU_S9, kpcW_S9⟩ := hw10
        have kScL_S9 : kcL S S9 := kcL_t (show kcL S S from (kcL_r S)) kpcL_S9
        have kScP_S9 : kcP S S9 := kcP_t (show kcP S S from (kcP_r S)) kpcP_S9
        have kScU_S9 : kcU S S9 := kcU_t (show kcU S S from (kcU_r S)) kpcU_S9
        have kScW_S9 : kcW S S9 := kcW_t (show kcW S S from (kcW_r S)) kpcW_S9
        have nxr_length_S9 : (f_xr_length S9).toInt = (f_xr_length S).toInt := congrArg Int32.toInt kpcL_S9
        have nxr_length_S9 : (f_xr_length S9).toInt = (f_xr_length S).toInt := congrArg Int32.toInt kpcP_S9.1
        have nxr_place_S9 : (f_xr_place S9).toInt = (f_xr_place S).toInt := congrArg Int32.toInt kpcP_S9.2.1
        have nxe_underWay_S9 : (f_xe_underWay S9).toInt = (f_xe_underWay S).toInt := congrArg Int32.toInt kpcU_S9
        have nxp_columns_S9 : (f_xp_columns S9).toInt = (f_xp_columns S).toInt := congrArg Int32.toInt kpcW_S9.1
        have nxp_rows_S9 : (f_xp_rows S9).toInt = (f_xp_rows S).toInt := congrArg Int32.toInt kpcW_S9.2
        have rrv10 := zt_rng rv10
        exact j_iret F hr hlocks hK hS S9 ⟨⟨i_vst, i_vc0, i_vc1, i_vc2, i_vc3, i_vv0, i_vv1, i_vv2, i_vv3, i_vg, i_wct, i_wln, i_sd0, i_sd1, i_sd2, i_sd3, i_rln, i_rtx, i_rpl, i_rtk, i_cnv, i_pts, i_cik, i_und⟩, kScL_S9, kScP_S9, kScU_S9, kScW_S9⟩ hP hD d_Engine_operate_172
      · first | have fc33_1 : rv1.toInt < 0 := (by have := zt_ne (show rv1.toInt = _ from rfl) tI_0 c33_1; omega) | have fc33_1 : 0 < rv1.toInt := (by have := zt_ne (show rv1.toInt = _ from rfl) tI_0 c33_1; omega) | skip
        refine lv_iload_n hx hb d_Engine_operate_36 rfl (lv_at hl 0 rfl) ?_
        exact j_iret F hr hlocks hK hS S ⟨⟨i_vst, i_vc0, i_vc1, i_vc2, i_vc3, i_vv0, i_vv1, i_vv2, i_vv3, i_vg, i_wct, i_wln, i_sd0, i_sd1, i_sd2, i_sd3, i_rln, i_rtx, i_rpl, i_rtk, i_cnv, i_pts, i_cik, i_und⟩, (kcL_r S), (kcP_r S), (kcU_r S), (kcW_r S)⟩ hP hD d_Engine_operate_37
    · have fc9_1 : 72 ≤ p0.toInt := Int.not_lt.mp (zt_nlt (show p0.toInt = _ from rfl) tI_72 c9_1)
      refine lv_iconst (v := 5) hx hb d_Engine_operate_12 (by decide) ?_
      exact j_iret F hr hlocks hK hS S ⟨⟨i_vst, i_vc0, i_vc1, i_vc2, i_vc3, i_vv0, i_vv1, i_vv2, i_vv3, i_vg, i_wct, i_wln, i_sd0, i_sd1, i_sd2, i_sd3, i_rln, i_rtx, i_rpl, i_rtk, i_cnv, i_pts, i_cik, i_und⟩, (kcL_r S), (kcP_r S), (kcU_r S), (kcW_r S)⟩ hP hD d_Engine_operate_13
theorem d_Engine_doValue_31 : decode prog_4_method_5_code 31 = .ok (.aload_n 0, 1) := by decide +kernel
theorem d_Engine_doValue_32 : decode prog_4_method_5_code 32 = .ok (.getfield 34, 3) := by decide +kernel
theorem d_Engine_doValue_35 : decode prog_4_method_5_code 35 = .ok (.iload_n 2, 1) := by decide +kernel
theorem d_Engine_doValue_36 : decode prog_4_method_5_code 36 = .ok (.invokevirtual 68, 3) := by decide +kernel
theorem k_3_173 : Cond.methodLink "PageScribe$Engine" 68 ⟨"PageScribe$Memory", "lookUp", "(I)I"⟩ ∈ gw := gw_of (tb_3 (List.mem_of_getElem? (i := 173) (by decide +kernel))) (by decide +kernel)
theorem d_Engine_doValue_39 : decode prog_4_method_5_code 39 = .ok (.istore 6, 2) := by decide +kernel
theorem d_Engine_doValue_41 : decode prog_4_method_5_code 41 = .ok (.iload 6, 2) := by decide +kernel
theorem d_Engine_doValue_43 : decode prog_4_method_5_code 43 = .ok (.ifCond .ge 11, 3) := by decide +kernel
theorem d_Engine_doValue_54 : decode prog_4_method_5_code 54 = .ok (.aload_n 0, 1) := by decide +kernel
theorem d_Engine_doValue_55 : decode prog_4_method_5_code 55 = .ok (.iload 6, 2) := by decide +kernel
theorem d_Engine_doValue_57 : decode prog_4_method_5_code 57 = .ok (.invokevirtual 77, 3) := by decide +kernel
theorem k_6_19 : Cond.code ⟨"PageScribe$Engine", "doFound", "(I)I"⟩ prog_4_method_6_code 5 (some .int) ∈ gw := gw_of (tb_6 (List.mem_of_getElem? (i := 19) (by decide +kernel))) (by decide +kernel)
theorem k_6_16 : Cond.methodLink "PageScribe$Engine" 77 ⟨"PageScribe$Engine", "doFound", "(I)I"⟩ ∈ gw := gw_of (tb_6 (List.mem_of_getElem? (i := 16) (by decide +kernel))) (by decide +kernel)
theorem k_6_18 : Cond.instanceMethod ⟨"PageScribe$Engine", "doFound", "(I)I"⟩ ∈ gw := gw_of (tb_6 (List.mem_of_getElem? (i := 18) (by decide +kernel))) (by decide +kernel)
theorem k_0_78 : Cond.selects "PageScribe$Engine" ⟨"PageScribe$Engine", "doFound", "(I)I"⟩ ⟨"PageScribe$Engine", "doFound", "(I)I"⟩ ∈ gw := gw_of (tb_0 (List.mem_of_getElem? (i := 78) (by decide +kernel))) (by decide +kernel)
theorem d_Engine_doValue_60 : decode prog_4_method_5_code 60 = .ok (.ireturn, 1) := by decide +kernel
theorem d_Engine_doValue_46 : decode prog_4_method_5_code 46 = .ok (.aload_n 0, 1) := by decide +kernel
theorem d_Engine_doValue_47 : decode prog_4_method_5_code 47 = .ok (.iload_n 2, 1) := by decide +kernel
theorem d_Engine_doValue_48 : decode prog_4_method_5_code 48 = .ok (.invokevirtual 74, 3) := by decide +kernel
theorem k_3_195 : Cond.code ⟨"PageScribe$Engine", "operate", "(I)I"⟩ prog_4_method_9_code 4 (some .int) ∈ gw := gw_of (tb_3 (List.mem_of_getElem? (i := 195) (by decide +kernel))) (by decide +kernel)
theorem k_3_192 : Cond.methodLink "PageScribe$Engine" 74 ⟨"PageScribe$Engine", "operate", "(I)I"⟩ ∈ gw := gw_of (tb_3 (List.mem_of_getElem? (i := 192) (by decide +kernel))) (by decide +kernel)
theorem k_3_194 : Cond.instanceMethod ⟨"PageScribe$Engine", "operate", "(I)I"⟩ ∈ gw := gw_of (tb_3 (List.mem_of_getElem? (i := 194) (by decide +kernel))) (by decide +kernel)
theorem k_0_16 : Cond.selects "PageScribe$Engine" ⟨"PageScribe$Engine", "operate", "(I)I"⟩ ⟨"PageScribe$Engine", "operate", "(I)I"⟩ ∈ gw := gw_of (tb_0 (List.mem_of_getElem? (i := 16) (by decide +kernel))) (by decide +kernel)
theorem d_Engine_doValue_51 : decode prog_4_method_5_code 51 = .ok (.goto 9, 3) := by decide +kernel
set_option maxHeartbeats 4000000 in
set_option maxRecDepth 100000 in
theorem c_Engine_doValue (l : Launch) (D : va_G) (T : Nat → ClassId) (ad : Nat → Nat) (g : GE) (Bq : Nat → Prop) (d : Nat) (hdv : ∀ d2, d2 < d → DVP l D T ad g Bq d2) (S : CS) (p0 : Int32) (p1 : Int32) (d0 : UInt64) (sz : Nat)  (hI : CIv S) (hd : 8 ≤ (f_xe_underWay S).toInt + d) (h1 : dB d0) : Met l ⟨"PageScribe$Engine", "doValue", "(IID)I"⟩ (wy ⟨"PageScribe$Engine", "doValue", "(IID)I"⟩ prog_4_method_5_code 7 (some .int)) ({ frames := 11 + 10 * d, cells := 0, slots := 0, locals := 70 * (11 + 10 * d) }) (va_Pc [.ref (ad 72), .int p0, .int p1, .double d0] (Pw D T (cW T ad S) sz (EC g Bq ad))) (va_Qi (fun (r : Int32) (u : CS) => CIv u ∧ kcL S u ∧ kcP S u ∧ kcU S u ∧ kcW S u) (fun u t => Bw D T (va_A (cW T ad S) sz) (cW T ad u) t) (va_A (cW T ad S) sz)) 0 0 (va_A (cW T ad S) sz) := by
  refine j_met (y := ⟨"PageScribe$Engine", "doValue", "(IID)I"⟩) (b := prog_4_method_5_code) (n := 7) (ret := (some .int)) (av := [.ref (ad 72), .int p0, .int p1, .double d0]) (Qc := fun A => va_Qi (fun (r : Int32) (u : CS) => CIv u ∧ kcL S u ∧ kcP S u ∧ kcU S u ∧ kcW S u) (fun u t => Bw D T A (cW T ad u) t) A) (by decide +kernel) (Nat.le_of_ble_eq_true rfl) (fun p e s m args below meth c A ls F hr hlocks hnm hK hP hD hS hA hN hE hl => ?_)
  obtain ⟨hx, hb, hml, hown, hts⟩ := id F
  have hl : lv_has ls 7 [(0, .ref (ad 72)), (1, .int p0), (2, .int p1), (3, .double d0)] := hl
  obtain ⟨i_vst, i_vc0, i_vc1, i_vc2, i_vc3, i_vv0, i_vv1, i_vv2, i_vv3, i_vg, i_wct, i_wln, i_sd0, i_sd1, i_sd2, i_sd3, i_rln, i_rtx, i_rpl, i_rtk, i_cnv, i_pts, i_cik, i_und⟩ := id hI
  have hAB : ∀ q, A q → Bq q := EC.ab hE hN
  have hEV := hE.1.narrow hAB
  have rp0 := zt_rng p0
  have rp1 := zt_rng p1
  refine lv_aload_n hx hb d_Engine_doValue_0 rfl (lv_at hl 0 rfl) ?_
  refine jc_ci (w := (fun u => u)) hK hP hD hS hA (va_runV (As := []) (rest := []) F (c_Engine_countStep l D T ad S  s.heap.size ⟨i_vst, i_vc0, i_vc1, i_vc2, i_vc3, i_vv0, i_vv1, i_vv2, i_vv3, i_vg, i_wct, i_wln, i_sd0, i_sd1, i_sd2, i_sd3, i_rln, i_rtx, i_rpl, i_rtk, i_cnv, i_pts, i_cik, i_und⟩) (j_cV (k := 0) (C := "PageScribe$Engine") hts k_3_171 k_1_9 k_3_168 k_3_170 k_0_14 (by decide +kernel) ⟨by dsimp only; omega, by dsimp only; omega⟩) (j_preV (q0 := 72) (ci := 7) hK hP hD csc csc_all csc_nd cl_7 (ce_72 _ _ _) (fun _ _ _ _ h => h) (fun _ _ _ => trivial)) rfl rfl hl.1 rfl (lv_room (Nat.le_of_ble_eq_true rfl)) d_Engine_doValue_1 ⟨Nat.le_of_ble_eq_true rfl, Nat.le_of_ble_eq_true rfl⟩) (fun rv1 S1 H locs hw1 hP hD hS => ?_)
  have hP : va_P D classes (cW T ad S1) H := hP
  have hD : va_D A (cW T ad S1) := hD
  obtain ⟨⟨i_vst, i_vc0, i_vc1, i_vc2, i_vc3, i_vv0, i_vv1, i_vv2, i_vv3, i_vg, i_wct, i_wln, i_sd0, i_sd1, i_sd2, i_sd3, i_rln, i_rtx, i_rpl, i_rtk, i_cnv, i_pts, i_cik, i_und⟩, kpcL_S1, kpcP_S1, kpcU_S1, kpcW_S1⟩ := hw1
  have kScL_S1 : kcL S S1 := kcL_t (show kcL S S from (kcL_r S)) kpcL_S1
  have kScP_S1 : kcP S S1 := kcP_t (show kcP S S from (kcP_r S)) kpcP_S1
  have kScU_S1 : kcU S S1 := kcU_t (show kcU S S from (kcU_r S)) kpcU_S1
  have kScW_S1 : kcW S S1 := kcW_t (show kcW S S from (kcW_r S)) kpcW_S1
  have nxr_length_S1 : (f_xr_length S1).toInt = (f_xr_length S).toInt := congrArg Int32.toInt kpcL_S1
  have nxr_length_S1 : (f_xr_length S1).toInt = (f_xr_length S).toInt := congrArg Int32.toInt kpcP_S1.1
  have nxr_place_S1 : (f_xr_place S1).toInt = (f_xr_place S).toInt := congrArg Int32.toInt kpcP_S1.2.1
  have nxe_underWay_S1 : (f_xe_underWay S1).toInt = (f_xe_underWay S).toInt := congrArg Int32.toInt kpcU_S1
  have nxp_columns_S1 : (f_xp_columns S1).toInt = (f_xp_columns S).toInt := congrArg Int32.toInt kpcW_S1.1
  have nxp_rows_S1 : (f_xp_rows S1).toInt = (f_xp_rows S).toInt := congrArg Int32.toInt kpcW_S1.2
  have rrv1 := zt_rng rv1
  refine lv_istore (lv' := [(5, .int rv1), (0, .ref (ad 72)), (1, .int p0), (2, .int p1), (3, .double d0)]) hx hb d_Engine_doValue_4 hl (by decide) rfl (fun ls hl => ?_)
  refine lv_iload hx hb d_Engine_doValue_6 (lv_at hl 0 rfl) ?_
  refine lv_if_eq (tgt := 14) hx hb d_Engine_doValue_8 (by decide) (fun c8_1 => ?_) (fun c8_1 => ?_)
  · have fc8_1 : rv1.toInt = 0 := zt_eq (show rv1.toInt = _ from rfl) tI_0 c8_1
    refine lv_iload_n hx hb d_Engine_doValue_14 rfl (lv_at hl 2 rfl) ?_
    refine lv_bipush (v := 11) hx hb d_Engine_doValue_15 (by decide) ?_
    refine lv_icmp_eq (tgt := 31) hx hb d_Engine_doValue_17 (by decide) (fun c17_1 => ?_) (fun c17_1 => ?_)
    · have fc17_1 : p0.toInt = 11 := zt_eq (show p0.toInt = _ from rfl) tI_11 c17_1
      refine lv_aload_n hx hb d_Engine_doValue_31 rfl (lv_at hl 1 rfl) ?_
      refine va_get (D := D) (ci := 7) (v := .ref (ad 8)) (C := "PageScribe$Engine") (T := F_Engine) (N := 11) hx hb hts i_Engine hown hK hP 72 (ce_72 _ _ _) cl_7 1 (by decide) (hts _ k_2_23) (fun _ h9 => h9) rfl d_Engine_doValue_32 ?_
      refine lv_iload_n hx hb d_Engine_doValue_35 rfl (lv_at hl 3 rfl) ?_
      refine jc_ci (w := (fun _ => S1)) hK hP hD hS hA (va_runV (As := [.int p1]) (rest := []) F (c_Memory_lookUp l D T ad S1 p1  H.size ⟨i_vst, i_vc0, i_vc1, i_vc2, i_vc3, i_vv0, i_vv1, i_vv2, i_vv3, i_vg, i_wct, i_wln, i_sd0, i_sd1, i_sd2, i_sd3, i_rln, i_rtx, i_rpl, i_rtk, i_cnv, i_pts, i_cik, i_und⟩) (j_cV (k := 1) (C := "PageScribe$Memory") hts k_3_176 k_1_5 k_3_173 k_3_174 k_3_175 (by decide +kernel) ⟨by dsimp only; omega, by dsimp only; omega⟩) (j_preV (q0 := 8) (ci := 2) hK hP hD csc csc_all csc_nd cl_2 (ce_8 _ _ _) (fun _ _ _ _ h => h) (fun _ _ _ => trivial)) rfl rfl hl.1 rfl (lv_room (Nat.le_of_ble_eq_true rfl)) d_Engine_doValue_36 ⟨Nat.le_of_ble_eq_true rfl, Nat.le_of_ble_eq_true rfl⟩) (fun rv2 u1 H locs hw2 hP hD hS => ?_)
      have hP : va_P D classes (cW T ad S1) H := hP
      have hD : va_D A (cW T ad S1) := hD
      have rrv2 := zt_rng rv2
      refine lv_istore (lv' := [(6, .int rv2), (5, .int rv1), (0, .ref (ad 72)), (1, .int p0), (2, .int p1), (3, .double d0)]) hx hb d_Engine_doValue_39 hl (by decide) rfl (fun ls hl => ?_)
      refine lv_iload hx hb d_Engine_doValue_41 (lv_at hl 0 rfl) ?_
      refine lv_if_ge (tgt := 54) hx hb d_Engine_doValue_43 (by decide) (fun c43_1 => ?_) (fun c43_1 => ?_)
      · have fc43_1 : 0 ≤ rv2.toInt := zt_le tI_0 (show rv2.toInt = _ from rfl) c43_1
        refine lv_aload_n hx hb d_Engine_doValue_54 rfl (lv_at hl 2 rfl) ?_
        refine lv_iload hx hb d_Engine_doValue_55 (lv_at hl 0 rfl) ?_
        refine jc_ci (w := (fun u => u)) hK hP hD hS hA (va_runV (As := [.int rv2]) (rest := []) F (c_Engine_doFound l D T ad g Bq d hdv S1 rv2  H.size ⟨i_vst, i_vc0, i_vc1, i_vc2, i_vc3, i_vv0, i_vv1, i_vv2, i_vv3, i_vg, i_wct, i_wln, i_sd0, i_sd1, i_sd2, i_sd3, i_rln, i_rtx, i_rpl, i_rtk, i_cnv, i_pts, i_cik, i_und⟩ (show 8 ≤ (f_xe_underWay S1).toInt + d by omega)) (j_cV (k := 1) (C := "PageScribe$Engine") hts k_6_19 k_1_9 k_6_16 k_6_18 k_0_78 (by decide +kernel) ⟨by dsimp only; omega, by dsimp only; omega⟩) (j_preV (q0 := 72) (ci := 7) hK hP hD csc csc_all csc_nd cl_7 (ce_72 _ _ _) (fun _ _ _ _ h => EC.calling h) (fun U hU hW => EC.at hS hAB hU hW hE)) rfl rfl hl.1 rfl (lv_room (Nat.le_of_ble_eq_true rfl)) d_Engine_doValue_57 ⟨Nat.le_of_ble_eq_true rfl, Nat.le_of_ble_eq_true rfl⟩) (fun rv3 S2 H locs hw3 hP hD hS => ?_)
        have hP : va_P D classes (cW T ad S2) H := hP
        have hD : va_D A (cW T ad S2) := hD
        obtain ⟨⟨i_vst, i_vc0, i_vc1, i_vc2, i_vc3, i_vv0, i_vv1, i_vv2, i_vv3, i_vg, i_wct, i_wln, i_sd0, i_sd1, i_sd2, i_sd3, i_rln, i_rtx, i_rpl, i_rtk, i_cnv, i_pts, i_cik, i_und⟩, kpcL_S2, kpcP_S2, kpcU_S2, kpcW_S2⟩ := hw3
        have kScL_S2 : kcL S S2 := kcL_t (show kcL S S1 from kScL_S1) kpcL_S2
        have kScP_S2 : kcP S S2 := kcP_t (show kcP S S1 from kScP_S1) kpcP_S2
        have kScU_S2 : kcU S S2 := kcU_t (show kcU S S1 from kScU_S1) kpcU_S2
        have kScW_S2 : kcW S S2 := kcW_t (show kcW S S1 from kScW_S1) kpcW_S2
        have nxr_length_S2 : (f_xr_length S2).toInt = (f_xr_length S1).toInt := congrArg Int32.toInt kpcL_S2
        have nxr_length_S2 : (f_xr_length S2).toInt = (f_xr_length S1).toInt := congrArg Int32.toInt kpcP_S2.1
        have nxr_place_S2 : (f_xr_place S2).toInt = (f_xr_place S1).toInt := congrArg Int32.toInt kpcP_S2.2.1
        have nxe_underWay_S2 : (f_xe_underWay S2).toInt = (f_xe_underWay S1).toInt := congrArg Int32.toInt kpcU_S2
        have nxp_columns_S2 : (f_xp_columns S2).toInt = (f_xp_columns S1).toInt := congrArg Int32.toInt kpcW_S2.1
        have nxp_rows_S2 : (f_xp_rows S2).toInt = (f_xp_rows S1).toInt := congrArg Int32.toInt kpcW_S2.2
        have rrv3 := zt_rng rv3
        exact j_iret F hr hlocks hK hS S2 ⟨⟨i_vst, i_vc0, i_vc1, i_vc2, i_vc3, i_vv0, i_vv1, i_vv2, i_vv3, i_vg, i_wct, i_wln, i_sd0, i_sd1, i_sd2, i_sd3, i_rln, i_rtx, i_rpl, i_rtk, i_cnv, i_pts, i_cik, i_und⟩, kScL_S2, kScP_S2, kScU_S2, kScW_S2⟩ hP hD d_Engine_doValue_60
      · have fc43_1 : rv2.toInt < 0 := Int.not_le.mp (zt_nle tI_0 (show rv2.toInt = _ from rfl) c43_1)
        refine lv_aload_n hx hb d_Engine_doValue_46 rfl (lv_at hl 2 rfl) ?_
        refine lv_iload_n hx hb d_Engine_doValue_47 rfl (lv_at hl 4 rfl) ?_
        refine jc_ci (w := (fun u => u)) hK hP hD hS hA (va_runV (As := [.int p1]) (rest := []) F (c_Engine_operate l D T ad g Bq d hdv S1 p1  H.size ⟨i_vst, i_vc0, i_vc1, i_vc2, i_vc3, i_vv0, i_vv1, i_vv2, i_vv3, i_vg, i_wct, i_wln, i_sd0, i_sd1, i_sd2, i_sd3, i_rln, i_rtx, i_rpl, i_rtk, i_cnv, i_pts, i_cik, i_und⟩ (show 8 ≤ (f_xe_underWay S1).toInt + d by omega)) (j_cV (k := 1) (C := "PageScribe$Engine") hts k_3_195 k_1_9 k_3_192 k_3_194 k_0_16 (by decide +kernel) ⟨by dsimp only; omega, by dsimp only; omega⟩) (j_preV (q0 := 72) (ci := 7) hK hP hD csc csc_all csc_nd cl_7 (ce_72 _ _ _) (fun _ _ _ _ h => EC.calling h) (fun U hU hW => EC.at hS hAB hU hW hE)) rfl rfl hl.1 rfl (lv_room (Nat.le_of_ble_eq_true rfl)) d_Engine_doValue_48 ⟨Nat.le_of_ble_eq_true rfl, Nat.le_of_ble_eq_true rfl⟩) (fun rv4 S3 H locs hw4 hP hD hS => ?_)
        have hP : va_P D classes (cW T ad S3) H := hP
        have hD : va_D A (cW T ad S3) := hD
        obtain ⟨⟨i_vst, i_vc0, i_vc1, i_vc2, i_vc3, i_vv0, i_vv1, i_vv2, i_vv3, i_vg, i_wct, i_wln, i_sd0, i_sd1, i_sd2, i_sd3, i_rln, i_rtx, i_rpl, i_rtk, i_cnv, i_pts, i_cik, i_und⟩, kpcL_S3, kpcP_S3, kpcU_S3, kpcW_S3⟩ := hw4
        have kScL_S3 : kcL S S3 := kcL_t (show kcL S S1 from kScL_S1) kpcL_S3
        have kScP_S3 : kcP S S3 := kcP_t (show kcP S S1 from kScP_S1) kpcP_S3
        have kScU_S3 : kcU S S3 := kcU_t (show kcU S S1 from kScU_S1) kpcU_S3
        have kScW_S3 : kcW S S3 := kcW_t (show kcW S S1 from kScW_S1) kpcW_S3
        have nxr_length_S3 : (f_xr_length S3).toInt = (f_xr_length S1).toInt := congrArg Int32.toInt kpcL_S3
        have nxr_length_S3 : (f_xr_length S3).toInt = (f_xr_length S1).toInt := congrArg Int32.toInt kpcP_S3.1
        have nxr_place_S3 : (f_xr_place S3).toInt = (f_xr_place S1).toInt := congrArg Int32.toInt kpcP_S3.2.1
        have nxe_underWay_S3 : (f_xe_underWay S3).toInt = (f_xe_underWay S1).toInt := congrArg Int32.toInt kpcU_S3
        have nxp_columns_S3 : (f_xp_columns S3).toInt = (f_xp_columns S1).toInt := congrArg Int32.toInt kpcW_S3.1
        have nxp_rows_S3 : (f_xp_rows S3).toInt = (f_xp_rows S1).toInt := congrArg Int32.toInt kpcW_S3.2
        have rrv4 := zt_rng rv4
        refine lv_goto (tgt := 60) hx hb d_Engine_doValue_51 (by decide) ?_
        exact j_iret F hr hlocks hK hS S3 ⟨⟨i_vst, i_vc0, i_vc1, i_vc2, i_vc3, i_vv0, i_vv1, i_vv2, i_vv3, i_vg, i_wct, i_wln, i_sd0, i_sd1, i_sd2, i_sd3, i_rln, i_rtx, i_rpl, i_rtk, i_cnv, i_pts, i_cik, i_und⟩, kScL_S3, kScP_S3, kScU_S3, kScW_S3⟩ hP hD d_Engine_doValue_60
    · first | have fc17_1 : p0.toInt < 11 := (by have := zt_ne (show p0.toInt = _ from rfl) tI_11 c17_1; omega) | have fc17_1 : 11 < p0.toInt := (by have := zt_ne (show p0.toInt = _ from rfl) tI_11 c17_1; omega) | skip
      refine lv_aload_n hx hb d_Engine_doValue_20 rfl (lv_at hl 1 rfl) ?_
      refine va_get (D := D) (ci := 7) (v := .ref (ad 1)) (C := "PageScribe$Engine") (T := F_Engine) (N := 11) hx hb hts i_Engine hown hK hP 72 (ce_72 _ _ _) cl_7 0 (by decide) (hts _ k_2_22) (fun _ h9 => h9) rfl d_Engine_doValue_21 ?_
      refine lv_iload_n hx hb d_Engine_doValue_24 rfl (lv_at hl 2 rfl) ?_
      refine lv_iload_n hx hb d_Engine_doValue_25 rfl (lv_at hl 3 rfl) ?_
      refine lv_dload_n hx hb d_Engine_doValue_26 rfl (lv_at hl 4 rfl) ?_
      refine jc_ci (w := (fun u => u)) hK hP hD hS hA (va_runU (As := [.int p0, .int p1, .double d0]) (rest := []) F (c_Row_push l D T ad S1 p0 p1 d0  H.size ⟨i_vst, i_vc0, i_vc1, i_vc2, i_vc3, i_vv0, i_vv1, i_vv2, i_vv3, i_vg, i_wct, i_wln, i_sd0, i_sd1, i_sd2, i_sd3, i_rln, i_rtx, i_rpl, i_rtk, i_cnv, i_pts, i_cik, i_und⟩ (show dB d0 by omega)) (j_cU (k := 3) (C := "PageScribe$Stack") (owner := "PageScribe$Row") (x := ⟨"PageScribe$Stack", "push", "(IID)I"⟩) hts k_2_104 k_3_172 k_2_100 k_2_102 k_2_103 k_1_2 rfl (by decide +kernel) ⟨by dsimp only; omega, by dsimp only; omega⟩) (j_preV (q0 := 1) (ci := 0) hK hP hD csc csc_all csc_nd cl_0 (ce_1 _ _ _) (fun _ _ _ _ h => h) (fun _ _ _ => trivial)) rfl rfl hl.1 rfl (lv_room (Nat.le_of_ble_eq_true rfl)) d_Engine_doValue_27 ⟨Nat.le_of_ble_eq_true rfl, Nat.le_of_ble_eq_true rfl⟩) (fun rv5 S4 H locs hw5 hP hD hS => ?_)
      have hP : va_P D classes (cW T ad S4) H := hP
      have hD : va_D A (cW T ad S4) := hD
      obtain ⟨⟨i_vst, i_vc0, i_vc1, i_vc2, i_vc3, i_vv0, i_vv1, i_vv2, i_vv3, i_vg, i_wct, i_wln, i_sd0, i_sd1, i_sd2, i_sd3, i_rln, i_rtx, i_rpl, i_rtk, i_cnv, i_pts, i_cik, i_und⟩, kpcL_S4, kpcP_S4, kpcU_S4, kpcW_S4⟩ := hw5
      have kScL_S4 : kcL S S4 := kcL_t (show kcL S S1 from kScL_S1) kpcL_S4
      have kScP_S4 : kcP S S4 := kcP_t (show kcP S S1 from kScP_S1) kpcP_S4
      have kScU_S4 : kcU S S4 := kcU_t (show kcU S S1 from kScU_S1) kpcU_S4
      have kScW_S4 : kcW S S4 := kcW_t (show kcW S S1 from kScW_S1) kpcW_S4
      have nxr_length_S4 : (f_xr_length S4).toInt = (f_xr_length S1).toInt := congrArg Int32.toInt kpcL_S4
      have nxr_length_S4 : (f_xr_length S4).toInt = (f_xr_length S1).toInt := congrArg Int32.toInt kpcP_S4.1
      have nxr_place_S4 : (f_xr_place S4).toInt = (f_xr_place S1).toInt := congrArg Int32.toInt kpcP_S4.2.1
      have nxe_underWay_S4 : (f_xe_underWay S4).toInt = (f_xe_underWay S1).toInt := congrArg Int32.toInt kpcU_S4
      have nxp_columns_S4 : (f_xp_columns S4).toInt = (f_xp_columns S1).toInt := congrArg Int32.toInt kpcW_S4.1
      have nxp_rows_S4 : (f_xp_rows S4).toInt = (f_xp_rows S1).toInt := congrArg Int32.toInt kpcW_S4.2
      have rrv5 := zt_rng rv5
      exact j_iret F hr hlocks hK hS S4 ⟨⟨i_vst, i_vc0, i_vc1, i_vc2, i_vc3, i_vv0, i_vv1, i_vv2, i_vv3, i_vg, i_wct, i_wln, i_sd0, i_sd1, i_sd2, i_sd3, i_rln, i_rtx, i_rpl, i_rtk, i_cnv, i_pts, i_cik, i_und⟩, kScL_S4, kScP_S4, kScU_S4, kScW_S4⟩ hP hD d_Engine_doValue_30
  · first | have fc8_1 : rv1.toInt < 0 := (by have := zt_ne (show rv1.toInt = _ from rfl) tI_0 c8_1; omega) | have fc8_1 : 0 < rv1.toInt := (by have := zt_ne (show rv1.toInt = _ from rfl) tI_0 c8_1; omega) | skip
    refine lv_iload hx hb d_Engine_doValue_11 (lv_at hl 0 rfl) ?_
    exact j_iret F hr hlocks hK hS S1 ⟨⟨i_vst, i_vc0, i_vc1, i_vc2, i_vc3, i_vv0, i_vv1, i_vv2, i_vv3, i_vg, i_wct, i_wln, i_sd0, i_sd1, i_sd2, i_sd3, i_rln, i_rtx, i_rpl, i_rtk, i_cnv, i_pts, i_cik, i_und⟩, kScL_S1, kScP_S1, kScU_S1, kScW_S1⟩ hP hD d_Engine_doValue_13
theorem c_Engine_dv (l : Launch) (D : va_G) (T : Nat → ClassId) (ad : Nat → Nat) (g : GE) (Bq : Nat → Prop) : ∀ d, DVP l D T ad g Bq d := by
  intro d
  induction d using Nat.strongRecOn with
  | _ d ih =>
    intro S p0 p1 d0 sz hI hd h1
    exact c_Engine_doValue l D T ad g Bq d ih S p0 p1 d0 sz hI hd h1
