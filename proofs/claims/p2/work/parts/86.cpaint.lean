theorem d_Canvas_paint_0 : decode prog_3_method_12_code 0 = .ok (.ldc 103, 2) := by decide +kernel
theorem k_5_171 : Cond.constantFloat "PageScribe$Canvas" 103 (1097859072 : UInt32) ∈ gw := gw_of (tb_5 (List.mem_of_getElem? (i := 171) (by decide +kernel))) (by decide +kernel)
theorem d_Canvas_paint_2 : decode prog_3_method_12_code 2 = .ok (.aload_n 0, 1) := by decide +kernel
theorem d_Canvas_paint_3 : decode prog_3_method_12_code 3 = .ok (.getfield 9, 3) := by decide +kernel
theorem d_Canvas_paint_6 : decode prog_3_method_12_code 6 = .ok (.fmul, 1) := by decide +kernel
theorem d_Canvas_paint_7 : decode prog_3_method_12_code 7 = .ok (.ldc 104, 2) := by decide +kernel
theorem k_5_172 : Cond.constantFloat "PageScribe$Canvas" 104 (1056964608 : UInt32) ∈ gw := gw_of (tb_5 (List.mem_of_getElem? (i := 172) (by decide +kernel))) (by decide +kernel)
theorem d_Canvas_paint_9 : decode prog_3_method_12_code 9 = .ok (.fadd, 1) := by decide +kernel
theorem d_Canvas_paint_10 : decode prog_3_method_12_code 10 = .ok (.f2i, 1) := by decide +kernel
theorem d_Canvas_paint_11 : decode prog_3_method_12_code 11 = .ok (.istore_n 2, 1) := by decide +kernel
theorem d_Canvas_paint_12 : decode prog_3_method_12_code 12 = .ok (.iconst 0, 1) := by decide +kernel
theorem d_Canvas_paint_13 : decode prog_3_method_12_code 13 = .ok (.istore_n 3, 1) := by decide +kernel
theorem d_Canvas_paint_14 : decode prog_3_method_12_code 14 = .ok (.iload_n 3, 1) := by decide +kernel
theorem d_Canvas_paint_15 : decode prog_3_method_12_code 15 = .ok (.aload_n 0, 1) := by decide +kernel
theorem d_Canvas_paint_16 : decode prog_3_method_12_code 16 = .ok (.getfield 37, 3) := by decide +kernel
theorem d_Canvas_paint_19 : decode prog_3_method_12_code 19 = .ok (.if_icmp .ge 70, 3) := by decide +kernel
theorem d_Canvas_paint_89 : decode prog_3_method_12_code 89 = .ok (.aload_n 0, 1) := by decide +kernel
theorem d_Canvas_paint_90 : decode prog_3_method_12_code 90 = .ok (.iconst 0, 1) := by decide +kernel
theorem d_Canvas_paint_91 : decode prog_3_method_12_code 91 = .ok (.putfield 26, 3) := by decide +kernel
theorem d_Canvas_paint_94 : decode prog_3_method_12_code 94 = .ok (.iconst 0, 1) := by decide +kernel
theorem d_Canvas_paint_95 : decode prog_3_method_12_code 95 = .ok (.ireturn, 1) := by decide +kernel
theorem d_Canvas_paint_22 : decode prog_3_method_12_code 22 = .ok (.aload_n 0, 1) := by decide +kernel
theorem d_Canvas_paint_23 : decode prog_3_method_12_code 23 = .ok (.getfield 26, 3) := by decide +kernel
theorem d_Canvas_paint_26 : decode prog_3_method_12_code 26 = .ok (.ifCond .le 63, 3) := by decide +kernel
theorem d_Canvas_paint_29 : decode prog_3_method_12_code 29 = .ok (.iconst 0, 1) := by decide +kernel
theorem d_Canvas_paint_30 : decode prog_3_method_12_code 30 = .ok (.istore 4, 2) := by decide +kernel
theorem d_Canvas_paint_32 : decode prog_3_method_12_code 32 = .ok (.iload 4, 2) := by decide +kernel
theorem d_Canvas_paint_34 : decode prog_3_method_12_code 34 = .ok (.aload_n 0, 1) := by decide +kernel
theorem d_Canvas_paint_35 : decode prog_3_method_12_code 35 = .ok (.getfield 34, 3) := by decide +kernel
theorem d_Canvas_paint_38 : decode prog_3_method_12_code 38 = .ok (.if_icmp .ge 45, 3) := by decide +kernel
theorem d_Canvas_paint_83 : decode prog_3_method_12_code 83 = .ok (.iinc 3 1, 3) := by decide +kernel
theorem d_Canvas_paint_86 : decode prog_3_method_12_code 86 = .ok (.goto (-72), 3) := by decide +kernel
theorem d_Canvas_paint_41 : decode prog_3_method_12_code 41 = .ok (.aload_n 0, 1) := by decide +kernel
theorem d_Canvas_paint_42 : decode prog_3_method_12_code 42 = .ok (.iload 4, 2) := by decide +kernel
theorem d_Canvas_paint_44 : decode prog_3_method_12_code 44 = .ok (.i2d, 1) := by decide +kernel
theorem d_Canvas_paint_45 : decode prog_3_method_12_code 45 = .ok (.ldc2_w 105, 3) := by decide +kernel
theorem k_5_173 : Cond.constantDouble "PageScribe$Canvas" 105 (4602678819172646912 : UInt64) ∈ gw := gw_of (tb_5 (List.mem_of_getElem? (i := 173) (by decide +kernel))) (by decide +kernel)
theorem d_Canvas_paint_48 : decode prog_3_method_12_code 48 = .ok (.dadd, 1) := by decide +kernel
theorem d_Canvas_paint_49 : decode prog_3_method_12_code 49 = .ok (.iload_n 3, 1) := by decide +kernel
theorem d_Canvas_paint_50 : decode prog_3_method_12_code 50 = .ok (.i2d, 1) := by decide +kernel
theorem d_Canvas_paint_51 : decode prog_3_method_12_code 51 = .ok (.ldc2_w 105, 3) := by decide +kernel
theorem d_Canvas_paint_54 : decode prog_3_method_12_code 54 = .ok (.dadd, 1) := by decide +kernel
theorem d_Canvas_paint_55 : decode prog_3_method_12_code 55 = .ok (.iload_n 1, 1) := by decide +kernel
theorem d_Canvas_paint_56 : decode prog_3_method_12_code 56 = .ok (.invokevirtual 107, 3) := by decide +kernel
theorem k_5_177 : Cond.code ⟨"PageScribe$Canvas", "isInside", "(DDZ)Z"⟩ prog_3_method_13_code 10 (some .boolean) ∈ gw := gw_of (tb_5 (List.mem_of_getElem? (i := 177) (by decide +kernel))) (by decide +kernel)
theorem k_5_174 : Cond.methodLink "PageScribe$Canvas" 107 ⟨"PageScribe$Canvas", "isInside", "(DDZ)Z"⟩ ∈ gw := gw_of (tb_5 (List.mem_of_getElem? (i := 174) (by decide +kernel))) (by decide +kernel)
theorem k_5_176 : Cond.instanceMethod ⟨"PageScribe$Canvas", "isInside", "(DDZ)Z"⟩ ∈ gw := gw_of (tb_5 (List.mem_of_getElem? (i := 176) (by decide +kernel))) (by decide +kernel)
theorem k_0_63 : Cond.selects "PageScribe$Canvas" ⟨"PageScribe$Canvas", "isInside", "(DDZ)Z"⟩ ⟨"PageScribe$Canvas", "isInside", "(DDZ)Z"⟩ ∈ gw := gw_of (tb_0 (List.mem_of_getElem? (i := 63) (by decide +kernel))) (by decide +kernel)
theorem d_Canvas_paint_59 : decode prog_3_method_12_code 59 = .ok (.ifCond .eq 18, 3) := by decide +kernel
theorem d_Canvas_paint_77 : decode prog_3_method_12_code 77 = .ok (.iinc 4 1, 3) := by decide +kernel
theorem d_Canvas_paint_80 : decode prog_3_method_12_code 80 = .ok (.goto (-48), 3) := by decide +kernel
theorem d_Canvas_paint_62 : decode prog_3_method_12_code 62 = .ok (.aload_n 0, 1) := by decide +kernel
theorem d_Canvas_paint_63 : decode prog_3_method_12_code 63 = .ok (.getfield 40, 3) := by decide +kernel
theorem d_Canvas_paint_66 : decode prog_3_method_12_code 66 = .ok (.iload_n 3, 1) := by decide +kernel
theorem d_Canvas_paint_67 : decode prog_3_method_12_code 67 = .ok (.aload_n 0, 1) := by decide +kernel
theorem d_Canvas_paint_68 : decode prog_3_method_12_code 68 = .ok (.getfield 34, 3) := by decide +kernel
theorem d_Canvas_paint_71 : decode prog_3_method_12_code 71 = .ok (.imul, 1) := by decide +kernel
theorem d_Canvas_paint_72 : decode prog_3_method_12_code 72 = .ok (.iload 4, 2) := by decide +kernel
theorem d_Canvas_paint_74 : decode prog_3_method_12_code 74 = .ok (.iadd, 1) := by decide +kernel
theorem d_Canvas_paint_75 : decode prog_3_method_12_code 75 = .ok (.iload_n 2, 1) := by decide +kernel
theorem d_Canvas_paint_76 : decode prog_3_method_12_code 76 = .ok (.iastore, 1) := by decide +kernel
set_option maxHeartbeats 4000000 in
set_option maxRecDepth 100000 in
theorem c_Canvas_paint (l : Launch) (D : va_G) (T : Nat → ClassId) (ad : Nat → Nat) (S : CS) (p0 : Int32) (sz : Nat)  (hI : CIv S) : Met l ⟨"PageScribe$Canvas", "paint", "(Z)I"⟩ (wy ⟨"PageScribe$Canvas", "paint", "(Z)I"⟩ prog_3_method_12_code 5 (some .int)) ({ frames := 3, cells := 0, slots := 0, locals := 210 }) (va_Pc [.ref (ad 67), .int p0] (Pw D T (cW T ad S) sz E0)) (va_Qi (fun (r : Int32) (u : CS) => CIv u ∧ kcL S u ∧ kcP S u ∧ kcU S u ∧ kcW S u) (fun u t => Bw D T (va_A (cW T ad S) sz) (cW T ad u) t) (va_A (cW T ad S) sz)) 0 0 (va_A (cW T ad S) sz) := by
  refine j_met (y := ⟨"PageScribe$Canvas", "paint", "(Z)I"⟩) (b := prog_3_method_12_code) (n := 5) (ret := (some .int)) (av := [.ref (ad 67), .int p0]) (Qc := fun A => va_Qi (fun (r : Int32) (u : CS) => CIv u ∧ kcL S u ∧ kcP S u ∧ kcU S u ∧ kcW S u) (fun u t => Bw D T A (cW T ad u) t) A) (by decide +kernel) (Nat.le_of_ble_eq_true rfl) (fun p e s m args below meth c A ls F hr hlocks hnm hK hP hD hS hA hN hE hl => ?_)
  obtain ⟨hx, hb, hml, hown, hts⟩ := id F
  have hl : lv_has ls 5 [(0, .ref (ad 67)), (1, .int p0)] := hl
  obtain ⟨i_vst, i_vc0, i_vc1, i_vc2, i_vc3, i_vv0, i_vv1, i_vv2, i_vv3, i_vg, i_wct, i_wln, i_sd0, i_sd1, i_sd2, i_sd3, i_rln, i_rtx, i_rpl, i_rtk, i_cnv, i_pts, i_cik, i_und⟩ := id hI
  have rp0 := zt_rng p0
  refine lv_ldcf (v := 1097859072) hx hb hown (hts _ k_5_171) d_Canvas_paint_0 ?_
  refine lv_aload_n hx hb d_Canvas_paint_2 rfl (lv_at hl 0 rfl) ?_
  refine va_get (D := D) (ci := 6) (v := .float (f_xp_gray S)) (C := "PageScribe$Canvas") (T := F_Canvas) (N := 9) hx hb hts i_Canvas hown hK hP 67 (ce_67 _ _ _) cl_6 4 (by decide) (hts _ k_1_211) (fun _ h9 => h9) rfl d_Canvas_paint_3 ?_
  have nf1 := zf_mul15 i_cik.1
  refine lv_fmul hx hb d_Canvas_paint_6 (zf_N nf1) ?_
  refine lv_ldcf (v := 1056964608) hx hb hown (hts _ k_5_172) d_Canvas_paint_7 ?_
  have nf2 := zf_add05 nf1
  refine lv_fadd hx hb d_Canvas_paint_9 (zf_N nf2) ?_
  refine lv_f2i hx hb d_Canvas_paint_10 ?_
  refine lv_topi (fun x1 ex1 => ?_)
  refine lv_istore_n (lv' := [(2, .int x1), (0, .ref (ad 67)), (1, .int p0)]) hx hb d_Canvas_paint_11 rfl hl (by decide) rfl (fun ls hl => ?_)
  refine lv_iconst (v := 0) hx hb d_Canvas_paint_12 (by decide) ?_
  refine lv_istore_n (lv' := [(3, .int 0), (2, .int x1), (0, .ref (ad 67)), (1, .int p0)]) hx hb d_Canvas_paint_13 rfl hl (by decide) rfl (fun ls hl => ?_)
  refine j_loop (α := CS × Int32) (fun k x H locs ls => (0 ≤ x.2.toInt ∧ x.2.toInt ≤ 16 ∧ 16 ≤ x.2.toInt + ((k : Nat) : Int)) ∧ CIv x.1 ∧ kcL S x.1 ∧ kcP S x.1 ∧ kcU S x.1 ∧ kcW S x.1 ∧ va_P D classes (cW T ad x.1) H ∧ va_D A (cW T ad x.1) ∧ va_S A s.heap H locs ∧ lv_has ls 5 [(3, .int x.2), (2, .int x1), (0, .ref (ad 67)), (1, .int p0)]) (fun _ _ ls => F0 m 14 ls []) (fun k x H locs ls hI9 ih => ?_) 16 (S, (0 : Int32)) _ _ _ ⟨(show 0 ≤ (0 : Int32).toInt ∧ (0 : Int32).toInt ≤ 16 ∧ 16 ≤ (0 : Int32).toInt + ((16 : Nat) : Int) by have := tI_0; omega), ⟨i_vst, i_vc0, i_vc1, i_vc2, i_vc3, i_vv0, i_vv1, i_vv2, i_vv3, i_vg, i_wct, i_wln, i_sd0, i_sd1, i_sd2, i_sd3, i_rln, i_rtx, i_rpl, i_rtk, i_cnv, i_pts, i_cik, i_und⟩, (show kcL S S from (kcL_r S)), (show kcP S S from (kcP_r S)), (show kcU S S from (kcU_r S)), (show kcW S S from (kcW_r S)), hP, hD, hS, lv_sub hl [0, 1, 2, 3] rfl⟩
  obtain ⟨S1, i⟩ := x
  obtain ⟨hf1, hIx, klcL_S1, klcP_S1, klcU_S1, klcW_S1, hP, hD, hS, hl⟩ := hI9
  obtain ⟨i_vst, i_vc0, i_vc1, i_vc2, i_vc3, i_vv0, i_vv1, i_vv2, i_vv3, i_vg, i_wct, i_wln, i_sd0, i_sd1, i_sd2, i_sd3, i_rln, i_rtx, i_rpl, i_rtk, i_cnv, i_pts, i_cik, i_und⟩ := (show CIv S1 from hIx)
  have klcL_S1 : kcL S S1 := klcL_S1
  have klcP_S1 : kcP S S1 := klcP_S1
  have klcU_S1 : kcU S S1 := klcU_S1
  have klcW_S1 : kcW S S1 := klcW_S1
  have hf1 : 0 ≤ i.toInt ∧ i.toInt ≤ 16 ∧ 16 ≤ i.toInt + ((k : Nat) : Int) := hf1
  have hP : va_P D classes (cW T ad S1) H := hP
  have hD : va_D A (cW T ad S1) := hD
  have hl : lv_has ls 5 [(3, .int i), (2, .int x1), (0, .ref (ad 67)), (1, .int p0)] := hl
  have hw9_S1 : (f_xp_columns S1).toInt = (f_xp_columns S).toInt ∧ (f_xp_rows S1).toInt = (f_xp_rows S).toInt := ⟨congrArg Int32.toInt klcW_S1.1, congrArg Int32.toInt klcW_S1.2⟩
  refine lv_iload_n hx hb d_Canvas_paint_14 rfl (lv_at hl 0 rfl) ?_
  refine lv_aload_n hx hb d_Canvas_paint_15 rfl (lv_at hl 2 rfl) ?_
  refine va_get (D := D) (ci := 6) (v := .int (f_xp_rows S1)) (C := "PageScribe$Canvas") (T := F_Canvas) (N := 9) hx hb hts i_Canvas hown hK hP 67 (ce_67 _ _ _) cl_6 2 (by decide) (hts _ k_1_209) (fun _ h9 => h9) rfl d_Canvas_paint_16 ?_
  refine lv_icmp_ge (tgt := 89) hx hb d_Canvas_paint_19 (by decide) (fun c19_1 => ?_) (fun c19_1 => ?_)
  · have fc19_1 : (f_xp_rows S1).toInt ≤ i.toInt := zt_le (show (f_xp_rows S1).toInt = _ from rfl) (show i.toInt = _ from rfl) c19_1
    refine lv_aload_n hx hb d_Canvas_paint_89 rfl (lv_at hl 2 rfl) ?_
    refine lv_iconst (v := 0) hx hb d_Canvas_paint_90 (by decide) ?_
    refine va_put (D := D) (ci := 6) (v := .int 0) (ty := .int) (C := "PageScribe$Canvas") (T := F_Canvas) (N := 9) hx hb hts i_Canvas t_Canvas t_Canvas_ok n_Canvas hown hK hP hD hS 67 (ce_67 _ _ _) cl_6 8 (by decide) (hts _ k_1_215) (fun _ h9 => h9) rfl (by decide +kernel) rfl rfl (Nat.le_of_ble_eq_true rfl) d_Canvas_paint_91 (fun H locs hP hD hS => ?_)
    rw [cp_xp_points] at hP hD
    have hP : va_P D classes (cW T ad ((S1.1, S1.2.1, S1.2.2.1, S1.2.2.2.1, S1.2.2.2.2.1, S1.2.2.2.2.2.1, S1.2.2.2.2.2.2.1, ((f_xp_columns S1), (f_xp_rows S1), (a_xp_levels S1), (f_xp_gray S1), (a_xp_across S1), (a_xp_along S1), (a_xp_begins S1), 0), S1.2.2.2.2.2.2.2.2) : CS)) H := hP
    have hD : va_D A (cW T ad ((S1.1, S1.2.1, S1.2.2.1, S1.2.2.2.1, S1.2.2.2.2.1, S1.2.2.2.2.2.1, S1.2.2.2.2.2.2.1, ((f_xp_columns S1), (f_xp_rows S1), (a_xp_levels S1), (f_xp_gray S1), (a_xp_across S1), (a_xp_along S1), (a_xp_begins S1), 0), S1.2.2.2.2.2.2.2.2) : CS)) := hD
    refine lv_iconst (v := 0) hx hb d_Canvas_paint_94 (by decide) ?_
    exact j_iret F hr hlocks hK hS ((S1.1, S1.2.1, S1.2.2.1, S1.2.2.2.1, S1.2.2.2.2.1, S1.2.2.2.2.2.1, S1.2.2.2.2.2.2.1, ((f_xp_columns S1), (f_xp_rows S1), (a_xp_levels S1), (f_xp_gray S1), (a_xp_across S1), (a_xp_along S1), (a_xp_begins S1), 0), S1.2.2.2.2.2.2.2.2) : CS) ⟨⟨i_vst, i_vc0, i_vc1, i_vc2, i_vc3, i_vv0, i_vv1, i_vv2, i_vv3, i_vg, i_wct, i_wln, i_sd0, i_sd1, i_sd2, i_sd3, i_rln, i_rtx, i_rpl, i_rtk, i_cnv, (show 0 ≤ (0 : Int32).toInt ∧ (0 : Int32).toInt ≤ 30 by have := tI_0; omega), i_cik, i_und⟩, klcL_S1, klcP_S1, klcU_S1, klcW_S1⟩ hP hD d_Canvas_paint_95
  · have fc19_1 : i.toInt < (f_xp_rows S1).toInt := Int.not_le.mp (zt_nle (show (f_xp_rows S1).toInt = _ from rfl) (show i.toInt = _ from rfl) c19_1)
    refine lv_aload_n hx hb d_Canvas_paint_22 rfl (lv_at hl 2 rfl) ?_
    refine va_get (D := D) (ci := 6) (v := .int (f_xp_points S1)) (C := "PageScribe$Canvas") (T := F_Canvas) (N := 9) hx hb hts i_Canvas hown hK hP 67 (ce_67 _ _ _) cl_6 8 (by decide) (hts _ k_1_215) (fun _ h9 => h9) rfl d_Canvas_paint_23 ?_
    refine lv_if_le (tgt := 89) hx hb d_Canvas_paint_26 (by decide) (fun c26_1 => ?_) (fun c26_1 => ?_)
    · have fc26_1 : (f_xp_points S1).toInt ≤ 0 := zt_le (show (f_xp_points S1).toInt = _ from rfl) tI_0 c26_1
      refine lv_aload_n hx hb d_Canvas_paint_89 rfl (lv_at hl 2 rfl) ?_
      refine lv_iconst (v := 0) hx hb d_Canvas_paint_90 (by decide) ?_
      refine va_put (D := D) (ci := 6) (v := .int 0) (ty := .int) (C := "PageScribe$Canvas") (T := F_Canvas) (N := 9) hx hb hts i_Canvas t_Canvas t_Canvas_ok n_Canvas hown hK hP hD hS 67 (ce_67 _ _ _) cl_6 8 (by decide) (hts _ k_1_215) (fun _ h9 => h9) rfl (by decide +kernel) rfl rfl (Nat.le_of_ble_eq_true rfl) d_Canvas_paint_91 (fun H locs hP hD hS => ?_)
      rw [cp_xp_points] at hP hD
      have hP : va_P D classes (cW T ad ((S1.1, S1.2.1, S1.2.2.1, S1.2.2.2.1, S1.2.2.2.2.1, S1.2.2.2.2.2.1, S1.2.2.2.2.2.2.1, ((f_xp_columns S1), (f_xp_rows S1), (a_xp_levels S1), (f_xp_gray S1), (a_xp_across S1), (a_xp_along S1), (a_xp_begins S1), 0), S1.2.2.2.2.2.2.2.2) : CS)) H := hP
      have hD : va_D A (cW T ad ((S1.1, S1.2.1, S1.2.2.1, S1.2.2.2.1, S1.2.2.2.2.1, S1.2.2.2.2.2.1, S1.2.2.2.2.2.2.1, ((f_xp_columns S1), (f_xp_rows S1), (a_xp_levels S1), (f_xp_gray S1), (a_xp_across S1), (a_xp_along S1), (a_xp_begins S1), 0), S1.2.2.2.2.2.2.2.2) : CS)) := hD
      refine lv_iconst (v := 0) hx hb d_Canvas_paint_94 (by decide) ?_
      exact j_iret F hr hlocks hK hS ((S1.1, S1.2.1, S1.2.2.1, S1.2.2.2.1, S1.2.2.2.2.1, S1.2.2.2.2.2.1, S1.2.2.2.2.2.2.1, ((f_xp_columns S1), (f_xp_rows S1), (a_xp_levels S1), (f_xp_gray S1), (a_xp_across S1), (a_xp_along S1), (a_xp_begins S1), 0), S1.2.2.2.2.2.2.2.2) : CS) ⟨⟨i_vst, i_vc0, i_vc1, i_vc2, i_vc3, i_vv0, i_vv1, i_vv2, i_vv3, i_vg, i_wct, i_wln, i_sd0, i_sd1, i_sd2, i_sd3, i_rln, i_rtx, i_rpl, i_rtk, i_cnv, (show 0 ≤ (0 : Int32).toInt ∧ (0 : Int32).toInt ≤ 30 by have := tI_0; omega), i_cik, i_und⟩, klcL_S1, klcP_S1, klcU_S1, klcW_S1⟩ hP hD d_Canvas_paint_95
    · have fc26_1 : 0 < (f_xp_points S1).toInt := Int.not_le.mp (zt_nle (show (f_xp_points S1).toInt = _ from rfl) tI_0 c26_1)
      refine lv_iconst (v := 0) hx hb d_Canvas_paint_29 (by decide) ?_
      refine lv_istore (lv' := [(4, .int 0), (3, .int i), (2, .int x1), (0, .ref (ad 67)), (1, .int p0)]) hx hb d_Canvas_paint_30 hl (by decide) rfl (fun ls hl => ?_)
      refine j_loop (α := CS × Int32) (fun k x H locs ls => (0 ≤ x.2.toInt ∧ x.2.toInt ≤ 24 ∧ 24 ≤ x.2.toInt + ((k : Nat) : Int)) ∧ CIv x.1 ∧ kcL S x.1 ∧ kcP S x.1 ∧ kcU S x.1 ∧ kcW S x.1 ∧ va_P D classes (cW T ad x.1) H ∧ va_D A (cW T ad x.1) ∧ va_S A s.heap H locs ∧ lv_has ls 5 [(4, .int x.2), (3, .int i), (2, .int x1), (0, .ref (ad 67)), (1, .int p0)]) (fun _ _ ls => F0 m 32 ls []) (fun k2 x H locs ls hI9 ih2 => ?_) 24 (S1, (0 : Int32)) _ _ _ ⟨(show 0 ≤ (0 : Int32).toInt ∧ (0 : Int32).toInt ≤ 24 ∧ 24 ≤ (0 : Int32).toInt + ((24 : Nat) : Int) by have := tI_0; omega), ⟨i_vst, i_vc0, i_vc1, i_vc2, i_vc3, i_vv0, i_vv1, i_vv2, i_vv3, i_vg, i_wct, i_wln, i_sd0, i_sd1, i_sd2, i_sd3, i_rln, i_rtx, i_rpl, i_rtk, i_cnv, i_pts, i_cik, i_und⟩, (show kcL S S1 from klcL_S1), (show kcP S S1 from klcP_S1), (show kcU S S1 from klcU_S1), (show kcW S S1 from klcW_S1), hP, hD, hS, lv_sub hl [0, 1, 2, 3, 4] rfl⟩
      obtain ⟨S2, j⟩ := x
      obtain ⟨hf2, hIx, klcL_S2, klcP_S2, klcU_S2, klcW_S2, hP, hD, hS, hl⟩ := hI9
      obtain ⟨i_vst, i_vc0, i_vc1, i_vc2, i_vc3, i_vv0, i_vv1, i_vv2, i_vv3, i_vg, i_wct, i_wln, i_sd0, i_sd1, i_sd2, i_sd3, i_rln, i_rtx, i_rpl, i_rtk, i_cnv, i_pts, i_cik, i_und⟩ := (show CIv S2 from hIx)
      have klcL_S2 : kcL S S2 := klcL_S2
      have klcP_S2 : kcP S S2 := klcP_S2
      have klcU_S2 : kcU S S2 := klcU_S2
      have klcW_S2 : kcW S S2 := klcW_S2
      have hf2 : 0 ≤ j.toInt ∧ j.toInt ≤ 24 ∧ 24 ≤ j.toInt + ((k2 : Nat) : Int) := hf2
      have hP : va_P D classes (cW T ad S2) H := hP
      have hD : va_D A (cW T ad S2) := hD
      have hl : lv_has ls 5 [(4, .int j), (3, .int i), (2, .int x1), (0, .ref (ad 67)), (1, .int p0)] := hl
      have hw9_S2 : (f_xp_columns S2).toInt = (f_xp_columns S).toInt ∧ (f_xp_rows S2).toInt = (f_xp_rows S).toInt := ⟨congrArg Int32.toInt klcW_S2.1, congrArg Int32.toInt klcW_S2.2⟩
      refine lv_iload hx hb d_Canvas_paint_32 (lv_at hl 0 rfl) ?_
      refine lv_aload_n hx hb d_Canvas_paint_34 rfl (lv_at hl 3 rfl) ?_
      refine va_get (D := D) (ci := 6) (v := .int (f_xp_columns S2)) (C := "PageScribe$Canvas") (T := F_Canvas) (N := 9) hx hb hts i_Canvas hown hK hP 67 (ce_67 _ _ _) cl_6 1 (by decide) (hts _ k_1_208) (fun _ h9 => h9) rfl d_Canvas_paint_35 ?_
      refine lv_icmp_ge (tgt := 83) hx hb d_Canvas_paint_38 (by decide) (fun c38_1 => ?_) (fun c38_1 => ?_)
      · have fc38_1 : (f_xp_columns S2).toInt ≤ j.toInt := zt_le (show (f_xp_columns S2).toInt = _ from rfl) (show j.toInt = _ from rfl) c38_1
        refine lv_iinc (v := (i + 1)) (lv' := [(3, .int (i + 1)), (4, .int j), (2, .int x1), (0, .ref (ad 67)), (1, .int p0)]) hx hb d_Canvas_paint_83 hl (k := 1) rfl (by first | rfl | decide) (by decide) rfl (fun ls hl => ?_)
        obtain ⟨x2, ex2⟩ : ∃ z, z = (i + 1) := ⟨_, rfl⟩
        rw [← ex2] at hl
        have fx2 : x2.toInt = (i.toInt + 1) := by rw [ex2]; exact (zt_add (show i.toInt = _ from rfl) tI_1 (by omega) (by omega)).trans (by omega)
        have hl : lv_has ls 5 [(3, .int x2), (4, .int j), (2, .int x1), (0, .ref (ad 67)), (1, .int p0)] := hl
        refine lv_goto (tgt := 14) hx hb d_Canvas_paint_86 (by decide) ?_
        exact ih (k - 1) (S2, x2) _ _ _ (by omega) ⟨(show 0 ≤ x2.toInt ∧ x2.toInt ≤ 16 ∧ 16 ≤ x2.toInt + (((k - 1) : Nat) : Int) by omega), ⟨i_vst, i_vc0, i_vc1, i_vc2, i_vc3, i_vv0, i_vv1, i_vv2, i_vv3, i_vg, i_wct, i_wln, i_sd0, i_sd1, i_sd2, i_sd3, i_rln, i_rtx, i_rpl, i_rtk, i_cnv, i_pts, i_cik, i_und⟩, (show kcL S S2 from klcL_S2), (show kcP S S2 from klcP_S2), (show kcU S S2 from klcU_S2), (show kcW S S2 from klcW_S2), hP, hD, hS, lv_sub hl [0, 2, 3, 4] rfl⟩
      · have fc38_1 : j.toInt < (f_xp_columns S2).toInt := Int.not_le.mp (zt_nle (show (f_xp_columns S2).toInt = _ from rfl) (show j.toInt = _ from rfl) c38_1)
        refine lv_aload_n hx hb d_Canvas_paint_41 rfl (lv_at hl 3 rfl) ?_
        refine lv_iload hx hb d_Canvas_paint_42 (lv_at hl 0 rfl) ?_
        refine lv_i2d hx hb d_Canvas_paint_44 ?_
        refine lv_topd (fun x3 ex3 => ?_)
        have fx3 : dB x3 := by rw [ex3]; exact zd_i2d _
        have mx3 : dM 1056 x3 := by rw [ex3]; exact FP.Core.i2d_mag _
        refine lv_ldc2d (v := 4602678819172646912) hx hb hown (hts _ k_5_173) d_Canvas_paint_45 ?_
        have := tD_4602678819172646912
        have m48_0 : dM 1058 (FP.dadd x3 4602678819172646912) := dM_add (K := 1056) (dM_le mx3 (by decide)) (dM_le (show dM 1023 4602678819172646912 by unfold dM; decide +kernel) (by decide)) (by decide)
        refine lv_dadd hx hb d_Canvas_paint_48 (vf_N (dF_N (dM_F m48_0 (by decide)))) ?_
        refine lv_topd (fun x4 ex4 => ?_)
        rw [show FP.dadd x3 4602678819172646912 = x4 from ex4.symm] at m48_0
        have dx4 : dF x4 := dM_F m48_0 (by decide)
        refine lv_iload_n hx hb d_Canvas_paint_49 rfl (lv_at hl 1 rfl) ?_
        refine lv_i2d hx hb d_Canvas_paint_50 ?_
        refine lv_topd (fun x5 ex5 => ?_)
        have fx5 : dB x5 := by rw [ex5]; exact zd_i2d _
        have mx5 : dM 1056 x5 := by rw [ex5]; exact FP.Core.i2d_mag _
        refine lv_ldc2d (v := 4602678819172646912) hx hb hown (hts _ k_5_173) d_Canvas_paint_51 ?_
        have := tD_4602678819172646912
        have m54_1 : dM 1058 (FP.dadd x5 4602678819172646912) := dM_add (K := 1056) (dM_le mx5 (by decide)) (dM_le (show dM 1023 4602678819172646912 by unfold dM; decide +kernel) (by decide)) (by decide)
        refine lv_dadd hx hb d_Canvas_paint_54 (vf_N (dF_N (dM_F m54_1 (by decide)))) ?_
        refine lv_topd (fun x6 ex6 => ?_)
        rw [show FP.dadd x5 4602678819172646912 = x6 from ex6.symm] at m54_1
        have dx6 : dF x6 := dM_F m54_1 (by decide)
        refine lv_iload_n hx hb d_Canvas_paint_55 rfl (lv_at hl 4 rfl) ?_
        refine jc_ci (w := (fun _ => S2)) hK hP hD hS hA (va_runV (As := [.double x4, .double x6, .int p0]) (rest := []) F (c_Canvas_isInside l D T ad S2 x4 x6 p0  H.size ⟨i_vst, i_vc0, i_vc1, i_vc2, i_vc3, i_vv0, i_vv1, i_vv2, i_vv3, i_vg, i_wct, i_wln, i_sd0, i_sd1, i_sd2, i_sd3, i_rln, i_rtx, i_rpl, i_rtk, i_cnv, i_pts, i_cik, i_und⟩ (dM_le m48_0 (by decide)) (dM_le m54_1 (by decide))) (j_cV (k := 3) (C := "PageScribe$Canvas") hts k_5_177 k_1_8 k_5_174 k_5_176 k_0_63 (by decide +kernel) ⟨Nat.le_of_ble_eq_true rfl, Nat.le_of_ble_eq_true rfl⟩) (j_preV (q0 := 67) (ci := 6) hK hP hD csc csc_all csc_nd cl_6 (ce_67 _ _ _) (fun _ _ _ _ h => h) (fun _ _ _ => trivial)) rfl rfl hl.1 rfl (lv_room (Nat.le_of_ble_eq_true rfl)) d_Canvas_paint_56 ⟨Nat.le_of_ble_eq_true rfl, Nat.le_of_ble_eq_true rfl⟩) (fun rv1 u1 H locs hw1 hP hD hS => ?_)
        have hP : va_P D classes (cW T ad S2) H := hP
        have hD : va_D A (cW T ad S2) := hD
        have qhw1 : rv1.toInt = 0 ∨ rv1.toInt = 1 := hw1
        have rrv1 := zt_rng rv1
        refine lv_if_eq (tgt := 77) hx hb d_Canvas_paint_59 (by decide) (fun c59_1 => ?_) (fun c59_1 => ?_)
        · have fc59_1 : rv1.toInt = 0 := zt_eq (show rv1.toInt = _ from rfl) tI_0 c59_1
          refine lv_iinc (v := (j + 1)) (lv' := [(4, .int (j + 1)), (3, .int i), (2, .int x1), (0, .ref (ad 67)), (1, .int p0)]) hx hb d_Canvas_paint_77 hl (k := 0) rfl (by first | rfl | decide) (by decide) rfl (fun ls hl => ?_)
          obtain ⟨x7, ex7⟩ : ∃ z, z = (j + 1) := ⟨_, rfl⟩
          rw [← ex7] at hl
          have fx7 : x7.toInt = (j.toInt + 1) := by rw [ex7]; exact (zt_add (show j.toInt = _ from rfl) tI_1 (by omega) (by omega)).trans (by omega)
          have hl : lv_has ls 5 [(4, .int x7), (3, .int i), (2, .int x1), (0, .ref (ad 67)), (1, .int p0)] := hl
          refine lv_goto (tgt := 32) hx hb d_Canvas_paint_80 (by decide) ?_
          exact ih2 (k2 - 1) (S2, x7) _ _ _ (by omega) ⟨(show 0 ≤ x7.toInt ∧ x7.toInt ≤ 24 ∧ 24 ≤ x7.toInt + (((k2 - 1) : Nat) : Int) by omega), ⟨i_vst, i_vc0, i_vc1, i_vc2, i_vc3, i_vv0, i_vv1, i_vv2, i_vv3, i_vg, i_wct, i_wln, i_sd0, i_sd1, i_sd2, i_sd3, i_rln, i_rtx, i_rpl, i_rtk, i_cnv, i_pts, i_cik, i_und⟩, (show kcL S S2 from klcL_S2), (show kcP S S2 from klcP_S2), (show kcU S S2 from klcU_S2), (show kcW S S2 from klcW_S2), hP, hD, hS, lv_sub hl [0, 1, 2, 3, 4] rfl⟩
        · first | have fc59_1 : rv1.toInt < 0 := (by have := zt_ne (show rv1.toInt = _ from rfl) tI_0 c59_1; omega) | have fc59_1 : 0 < rv1.toInt := (by have := zt_ne (show rv1.toInt = _ from rfl) tI_0 c59_1; omega) | skip
          refine lv_aload_n hx hb d_Canvas_paint_62 rfl (lv_at hl 3 rfl) ?_
          refine va_get (D := D) (ci := 6) (v := .ref (ad 68)) (C := "PageScribe$Canvas") (T := F_Canvas) (N := 9) hx hb hts i_Canvas hown hK hP 67 (ce_67 _ _ _) cl_6 3 (by decide) (hts _ k_1_210) (fun _ h9 => h9) rfl d_Canvas_paint_63 ?_
          refine lv_iload_n hx hb d_Canvas_paint_66 rfl (lv_at hl 1 rfl) ?_
          refine lv_aload_n hx hb d_Canvas_paint_67 rfl (lv_at hl 3 rfl) ?_
          refine va_get (D := D) (ci := 6) (v := .int (f_xp_columns S2)) (C := "PageScribe$Canvas") (T := F_Canvas) (N := 9) hx hb hts i_Canvas hown hK hP 67 (ce_67 _ _ _) cl_6 1 (by decide) (hts _ k_1_208) (fun _ h9 => h9) rfl d_Canvas_paint_68 ?_
          refine lv_imul hx hb d_Canvas_paint_71 ?_
          refine lv_topi (fun x8 ex8 => ?_)
          have fx8 : x8.toInt = i.toInt * (f_xp_columns S2).toInt ∧ 0 ≤ i.toInt * (f_xp_columns S2).toInt ∧ i.toInt * (f_xp_columns S2).toInt ≤ 384 := by rw [ex8]; exact zt_mulC (show i.toInt = _ from rfl) (show (f_xp_columns S2).toInt = _ from rfl) (by omega) (by omega)
          have hx8 := lv_in (S := S2) (r := i.toInt) (c := j.toInt) i_cnv (by omega) (by omega)
          refine lv_iload hx hb d_Canvas_paint_72 (lv_at hl 0 rfl) ?_
          refine lv_iadd hx hb d_Canvas_paint_74 ?_
          refine lv_topi (fun x9 ex9 => ?_)
          have fx9 : x9.toInt = (j.toInt + x8.toInt) := by rw [ex9]; exact (zt_add (show x8.toInt = _ from rfl) (show j.toInt = _ from rfl) (by omega) (by omega)).trans (by omega)
          refine lv_iload_n hx hb d_Canvas_paint_75 rfl (lv_at hl 2 rfl) ?_
          refine va_iast hx hb hK hP hD hS 68 0 (ce_68 _ _ _) rfl (zt_in fx9 (by omega) (by omega)) d_Canvas_paint_76 (fun H locs hP hD hS => ?_)
          rw [cs_xp_levels] at hP hD
          rw [zt_ix fx9] at hP hD
          have hP : va_P D classes (cW T ad ((S2.1, S2.2.1, S2.2.2.1, S2.2.2.2.1, S2.2.2.2.2.1, S2.2.2.2.2.2.1, S2.2.2.2.2.2.2.1, ((f_xp_columns S2), (f_xp_rows S2), (upd (a_xp_levels S2) ((j.toInt + x8.toInt).toNat) x1), (f_xp_gray S2), (a_xp_across S2), (a_xp_along S2), (a_xp_begins S2), (f_xp_points S2)), S2.2.2.2.2.2.2.2.2) : CS)) H := hP
          have hD : va_D A (cW T ad ((S2.1, S2.2.1, S2.2.2.1, S2.2.2.2.1, S2.2.2.2.2.1, S2.2.2.2.2.2.1, S2.2.2.2.2.2.2.1, ((f_xp_columns S2), (f_xp_rows S2), (upd (a_xp_levels S2) ((j.toInt + x8.toInt).toNat) x1), (f_xp_gray S2), (a_xp_across S2), (a_xp_along S2), (a_xp_begins S2), (f_xp_points S2)), S2.2.2.2.2.2.2.2.2) : CS)) := hD
          refine lv_iinc (v := (j + 1)) (lv' := [(4, .int (j + 1)), (3, .int i), (2, .int x1), (0, .ref (ad 67)), (1, .int p0)]) hx hb d_Canvas_paint_77 hl (k := 0) rfl (by first | rfl | decide) (by decide) rfl (fun ls hl => ?_)
          obtain ⟨x10, ex10⟩ : ∃ z, z = (j + 1) := ⟨_, rfl⟩
          rw [← ex10] at hl
          have fx10 : x10.toInt = (j.toInt + 1) := by rw [ex10]; exact (zt_add (show j.toInt = _ from rfl) tI_1 (by omega) (by omega)).trans (by omega)
          have hl : lv_has ls 5 [(4, .int x10), (3, .int i), (2, .int x1), (0, .ref (ad 67)), (1, .int p0)] := hl
          refine lv_goto (tgt := 32) hx hb d_Canvas_paint_80 (by decide) ?_
          exact ih2 (k2 - 1) (((S2.1, S2.2.1, S2.2.2.1, S2.2.2.2.1, S2.2.2.2.2.1, S2.2.2.2.2.2.1, S2.2.2.2.2.2.2.1, ((f_xp_columns S2), (f_xp_rows S2), (upd (a_xp_levels S2) ((j.toInt + x8.toInt).toNat) x1), (f_xp_gray S2), (a_xp_across S2), (a_xp_along S2), (a_xp_begins S2), (f_xp_points S2)), S2.2.2.2.2.2.2.2.2) : CS), x10) _ _ _ (by omega) ⟨(show 0 ≤ x10.toInt ∧ x10.toInt ≤ 24 ∧ 24 ≤ x10.toInt + (((k2 - 1) : Nat) : Int) by omega), ⟨i_vst, i_vc0, i_vc1, i_vc2, i_vc3, i_vv0, i_vv1, i_vv2, i_vv3, i_vg, i_wct, i_wln, i_sd0, i_sd1, i_sd2, i_sd3, i_rln, i_rtx, i_rpl, i_rtk, i_cnv, i_pts, i_cik, i_und⟩, (show kcL S ((S2.1, S2.2.1, S2.2.2.1, S2.2.2.2.1, S2.2.2.2.2.1, S2.2.2.2.2.2.1, S2.2.2.2.2.2.2.1, ((f_xp_columns S2), (f_xp_rows S2), (upd (a_xp_levels S2) ((j.toInt + x8.toInt).toNat) x1), (f_xp_gray S2), (a_xp_across S2), (a_xp_along S2), (a_xp_begins S2), (f_xp_points S2)), S2.2.2.2.2.2.2.2.2) : CS) from klcL_S2), (show kcP S ((S2.1, S2.2.1, S2.2.2.1, S2.2.2.2.1, S2.2.2.2.2.1, S2.2.2.2.2.2.1, S2.2.2.2.2.2.2.1, ((f_xp_columns S2), (f_xp_rows S2), (upd (a_xp_levels S2) ((j.toInt + x8.toInt).toNat) x1), (f_xp_gray S2), (a_xp_across S2), (a_xp_along S2), (a_xp_begins S2), (f_xp_points S2)), S2.2.2.2.2.2.2.2.2) : CS) from klcP_S2), (show kcU S ((S2.1, S2.2.1, S2.2.2.1, S2.2.2.2.1, S2.2.2.2.2.1, S2.2.2.2.2.2.1, S2.2.2.2.2.2.2.1, ((f_xp_columns S2), (f_xp_rows S2), (upd (a_xp_levels S2) ((j.toInt + x8.toInt).toNat) x1), (f_xp_gray S2), (a_xp_across S2), (a_xp_along S2), (a_xp_begins S2), (f_xp_points S2)), S2.2.2.2.2.2.2.2.2) : CS) from klcU_S2), (show kcW S ((S2.1, S2.2.1, S2.2.2.1, S2.2.2.2.1, S2.2.2.2.2.1, S2.2.2.2.2.2.1, S2.2.2.2.2.2.2.1, ((f_xp_columns S2), (f_xp_rows S2), (upd (a_xp_levels S2) ((j.toInt + x8.toInt).toNat) x1), (f_xp_gray S2), (a_xp_across S2), (a_xp_along S2), (a_xp_begins S2), (f_xp_points S2)), S2.2.2.2.2.2.2.2.2) : CS) from klcW_S2), hP, hD, hS, lv_sub hl [0, 1, 2, 3, 4] rfl⟩
theorem d_Canvas_act_0 : decode prog_3_method_4_code 0 = .ok (.getstatic 43, 3) := by decide +kernel
theorem k_5_130 : Cond.fieldLink "PageScribe$Canvas" 43 "PageScribe$1" "$SwitchMap$PageScribe$Op" "[I" ∈ gw := gw_of (tb_5 (List.mem_of_getElem? (i := 130) (by decide +kernel))) (by decide +kernel)
theorem d_Canvas_act_3 : decode prog_3_method_4_code 3 = .ok (.aload_n 1, 1) := by decide +kernel
theorem d_Canvas_act_4 : decode prog_3_method_4_code 4 = .ok (.invokevirtual 48, 3) := by decide +kernel
theorem k_5_131 : Cond.methodLink "PageScribe$Canvas" 48 ⟨"PageScribe$Op", "ordinal", "()I"⟩ ∈ gw := gw_of (tb_5 (List.mem_of_getElem? (i := 131) (by decide +kernel))) (by decide +kernel)
theorem d_Canvas_act_7 : decode prog_3_method_4_code 7 = .ok (.iaload, 1) := by decide +kernel
theorem d_Canvas_act_8 : decode prog_3_method_4_code 8 = .ok (.tableswitch 70 45 49 #[36, 41, 48, 48, 65], 36) := by decide +kernel
theorem d_Canvas_act_44 : decode prog_3_method_4_code 44 = .ok (.aload_n 0, 1) := by decide +kernel
theorem d_Canvas_act_45 : decode prog_3_method_4_code 45 = .ok (.invokevirtual 54, 3) := by decide +kernel
theorem k_5_135 : Cond.code ⟨"PageScribe$Canvas", "setGray", "()I"⟩ prog_3_method_5_code 3 (some .int) ∈ gw := gw_of (tb_5 (List.mem_of_getElem? (i := 135) (by decide +kernel))) (by decide +kernel)
theorem k_5_132 : Cond.methodLink "PageScribe$Canvas" 54 ⟨"PageScribe$Canvas", "setGray", "()I"⟩ ∈ gw := gw_of (tb_5 (List.mem_of_getElem? (i := 132) (by decide +kernel))) (by decide +kernel)
theorem k_5_134 : Cond.instanceMethod ⟨"PageScribe$Canvas", "setGray", "()I"⟩ ∈ gw := gw_of (tb_5 (List.mem_of_getElem? (i := 134) (by decide +kernel))) (by decide +kernel)
theorem k_0_56 : Cond.selects "PageScribe$Canvas" ⟨"PageScribe$Canvas", "setGray", "()I"⟩ ⟨"PageScribe$Canvas", "setGray", "()I"⟩ ∈ gw := gw_of (tb_0 (List.mem_of_getElem? (i := 56) (by decide +kernel))) (by decide +kernel)
theorem d_Canvas_act_48 : decode prog_3_method_4_code 48 = .ok (.ireturn, 1) := by decide +kernel
theorem d_Canvas_act_49 : decode prog_3_method_4_code 49 = .ok (.aload_n 0, 1) := by decide +kernel
theorem d_Canvas_act_50 : decode prog_3_method_4_code 50 = .ok (.iconst 0, 1) := by decide +kernel
theorem d_Canvas_act_51 : decode prog_3_method_4_code 51 = .ok (.putfield 26, 3) := by decide +kernel
theorem d_Canvas_act_54 : decode prog_3_method_4_code 54 = .ok (.iconst 0, 1) := by decide +kernel
theorem d_Canvas_act_55 : decode prog_3_method_4_code 55 = .ok (.ireturn, 1) := by decide +kernel
theorem d_Canvas_act_56 : decode prog_3_method_4_code 56 = .ok (.aload_n 0, 1) := by decide +kernel
theorem d_Canvas_act_57 : decode prog_3_method_4_code 57 = .ok (.aload_n 1, 1) := by decide +kernel
theorem d_Canvas_act_58 : decode prog_3_method_4_code 58 = .ok (.getstatic 57, 3) := by decide +kernel
theorem k_5_138 : Cond.fieldLink "PageScribe$Canvas" 57 "PageScribe$Op" "MOVETO" "LPageScribe$Op;" ∈ gw := gw_of (tb_5 (List.mem_of_getElem? (i := 138) (by decide +kernel))) (by decide +kernel)
theorem d_Canvas_act_61 : decode prog_3_method_4_code 61 = .ok (.if_acmp .ne 7, 3) := by decide +kernel
theorem d_Canvas_act_68 : decode prog_3_method_4_code 68 = .ok (.iconst 0, 1) := by decide +kernel
theorem d_Canvas_act_69 : decode prog_3_method_4_code 69 = .ok (.invokevirtual 61, 3) := by decide +kernel
theorem k_5_143 : Cond.code ⟨"PageScribe$Canvas", "addGiven", "(Z)I"⟩ prog_3_method_7_code 7 (some .int) ∈ gw := gw_of (tb_5 (List.mem_of_getElem? (i := 143) (by decide +kernel))) (by decide +kernel)
theorem k_5_140 : Cond.methodLink "PageScribe$Canvas" 61 ⟨"PageScribe$Canvas", "addGiven", "(Z)I"⟩ ∈ gw := gw_of (tb_5 (List.mem_of_getElem? (i := 140) (by decide +kernel))) (by decide +kernel)
theorem k_5_142 : Cond.instanceMethod ⟨"PageScribe$Canvas", "addGiven", "(Z)I"⟩ ∈ gw := gw_of (tb_5 (List.mem_of_getElem? (i := 142) (by decide +kernel))) (by decide +kernel)
theorem k_0_57 : Cond.selects "PageScribe$Canvas" ⟨"PageScribe$Canvas", "addGiven", "(Z)I"⟩ ⟨"PageScribe$Canvas", "addGiven", "(Z)I"⟩ ∈ gw := gw_of (tb_0 (List.mem_of_getElem? (i := 57) (by decide +kernel))) (by decide +kernel)
theorem d_Canvas_act_72 : decode prog_3_method_4_code 72 = .ok (.ireturn, 1) := by decide +kernel
theorem d_Canvas_act_64 : decode prog_3_method_4_code 64 = .ok (.iconst 1, 1) := by decide +kernel
theorem d_Canvas_act_65 : decode prog_3_method_4_code 65 = .ok (.goto 4, 3) := by decide +kernel
theorem d_Canvas_act_73 : decode prog_3_method_4_code 73 = .ok (.aload_n 0, 1) := by decide +kernel
theorem d_Canvas_act_74 : decode prog_3_method_4_code 74 = .ok (.invokevirtual 65, 3) := by decide +kernel
theorem k_5_164 : Cond.code ⟨"PageScribe$Canvas", "closePath", "()I"⟩ prog_3_method_10_code 2 (some .int) ∈ gw := gw_of (tb_5 (List.mem_of_getElem? (i := 164) (by decide +kernel))) (by decide +kernel)
theorem k_5_161 : Cond.methodLink "PageScribe$Canvas" 65 ⟨"PageScribe$Canvas", "closePath", "()I"⟩ ∈ gw := gw_of (tb_5 (List.mem_of_getElem? (i := 161) (by decide +kernel))) (by decide +kernel)
theorem k_5_163 : Cond.instanceMethod ⟨"PageScribe$Canvas", "closePath", "()I"⟩ ∈ gw := gw_of (tb_5 (List.mem_of_getElem? (i := 163) (by decide +kernel))) (by decide +kernel)
theorem k_0_61 : Cond.selects "PageScribe$Canvas" ⟨"PageScribe$Canvas", "closePath", "()I"⟩ ⟨"PageScribe$Canvas", "closePath", "()I"⟩ ∈ gw := gw_of (tb_0 (List.mem_of_getElem? (i := 61) (by decide +kernel))) (by decide +kernel)
theorem d_Canvas_act_77 : decode prog_3_method_4_code 77 = .ok (.ireturn, 1) := by decide +kernel
theorem d_Canvas_act_78 : decode prog_3_method_4_code 78 = .ok (.aload_n 0, 1) := by decide +kernel
theorem d_Canvas_act_79 : decode prog_3_method_4_code 79 = .ok (.aload_n 1, 1) := by decide +kernel
theorem d_Canvas_act_80 : decode prog_3_method_4_code 80 = .ok (.getstatic 68, 3) := by decide +kernel
theorem k_5_165 : Cond.fieldLink "PageScribe$Canvas" 68 "PageScribe$Op" "EOFILL" "LPageScribe$Op;" ∈ gw := gw_of (tb_5 (List.mem_of_getElem? (i := 165) (by decide +kernel))) (by decide +kernel)
theorem d_Canvas_act_83 : decode prog_3_method_4_code 83 = .ok (.if_acmp .ne 7, 3) := by decide +kernel
theorem d_Canvas_act_90 : decode prog_3_method_4_code 90 = .ok (.iconst 0, 1) := by decide +kernel
theorem d_Canvas_act_91 : decode prog_3_method_4_code 91 = .ok (.invokevirtual 71, 3) := by decide +kernel
theorem k_5_170 : Cond.code ⟨"PageScribe$Canvas", "paint", "(Z)I"⟩ prog_3_method_12_code 5 (some .int) ∈ gw := gw_of (tb_5 (List.mem_of_getElem? (i := 170) (by decide +kernel))) (by decide +kernel)
theorem k_5_167 : Cond.methodLink "PageScribe$Canvas" 71 ⟨"PageScribe$Canvas", "paint", "(Z)I"⟩ ∈ gw := gw_of (tb_5 (List.mem_of_getElem? (i := 167) (by decide +kernel))) (by decide +kernel)
theorem k_5_169 : Cond.instanceMethod ⟨"PageScribe$Canvas", "paint", "(Z)I"⟩ ∈ gw := gw_of (tb_5 (List.mem_of_getElem? (i := 169) (by decide +kernel))) (by decide +kernel)
theorem k_0_62 : Cond.selects "PageScribe$Canvas" ⟨"PageScribe$Canvas", "paint", "(Z)I"⟩ ⟨"PageScribe$Canvas", "paint", "(Z)I"⟩ ∈ gw := gw_of (tb_0 (List.mem_of_getElem? (i := 62) (by decide +kernel))) (by decide +kernel)
theorem d_Canvas_act_94 : decode prog_3_method_4_code 94 = .ok (.ireturn, 1) := by decide +kernel
theorem d_Canvas_act_86 : decode prog_3_method_4_code 86 = .ok (.iconst 1, 1) := by decide +kernel
theorem d_Canvas_act_87 : decode prog_3_method_4_code 87 = .ok (.goto 4, 3) := by decide +kernel
set_option maxHeartbeats 4000000 in
set_option maxRecDepth 100000 in
theorem c_Canvas_act (l : Launch) (D : va_G) (T : Nat → ClassId) (ad : Nat → Nat) (g : GE) (Bq : Nat → Prop) (S : CS) (op : Nat) (sz : Nat) (hi_op : op < 72) (hI : CIv S) : Met l ⟨"PageScribe$Canvas", "act", "(LPageScribe$Op;)I"⟩ (wy ⟨"PageScribe$Canvas", "act", "(LPageScribe$Op;)I"⟩ prog_3_method_4_code 2 (some .int)) ({ frames := 4, cells := 0, slots := 0, locals := 280 }) (va_Pc [.ref (ad 67), .ref (g_en g op)] (Pw D T (cW T ad S) sz (EC g Bq ad))) (va_Qi (fun (r : Int32) (u : CS) => CIv u ∧ kcL S u ∧ kcP S u ∧ kcU S u ∧ kcW S u) (fun u t => Bw D T (va_A (cW T ad S) sz) (cW T ad u) t) (va_A (cW T ad S) sz)) 0 0 (va_A (cW T ad S) sz) := by
  refine j_met (y := ⟨"PageScribe$Canvas", "act", "(LPageScribe$Op;)I"⟩) (b := prog_3_method_4_code) (n := 2) (ret := (some .int)) (av := [.ref (ad 67), .ref (g_en g op)]) (Qc := fun A => va_Qi (fun (r : Int32) (u : CS) => CIv u ∧ kcL S u ∧ kcP S u ∧ kcU S u ∧ kcW S u) (fun u t => Bw D T A (cW T ad u) t) A) (by decide +kernel) (Nat.le_of_ble_eq_true rfl) (fun p e s m args below meth c A ls F hr hlocks hnm hK hP hD hS hA hN hE hl => ?_)
  obtain ⟨hx, hb, hml, hown, hts⟩ := id F
  have hl : lv_has ls 2 [(0, .ref (ad 67)), (1, .ref (g_en g op))] := hl
  obtain ⟨i_vst, i_vc0, i_vc1, i_vc2, i_vc3, i_vv0, i_vv1, i_vv2, i_vv3, i_vg, i_wct, i_wln, i_sd0, i_sd1, i_sd2, i_sd3, i_rln, i_rtx, i_rpl, i_rtk, i_cnv, i_pts, i_cik, i_und⟩ := id hI
  have hAB : ∀ q, A q → Bq q := EC.ab hE hN
  have hEV := hE.1.narrow hAB
  refine va_gets hx hb hEV.2.2.1.1 hS hown (hts _ k_5_130) (fun _ h9 => h9) d_Canvas_act_0 ?_
  refine lv_aload_n hx hb d_Canvas_act_3 rfl (lv_at hl 1 rfl) ?_
  refine jc_ci (w := (fun _ => S)) hK hP hD hS hA (va_runU (As := []) (rest := [.ref (g_tS g)]) F (c_Enum_ordinal l D T ad g Bq S op  s.heap.size hi_op) (j_cU (k := 0) (C := "PageScribe$Op") (owner := "java/lang/Enum") (x := ⟨"PageScribe$Op", "ordinal", "()I"⟩) hts k_4_41 k_5_131 k_4_37 k_4_39 k_4_40 k_1_24 rfl (by decide +kernel) ⟨Nat.le_of_ble_eq_true rfl, Nat.le_of_ble_eq_true rfl⟩) (jc_preO (j_preS hK hP hD csc csc_all csc_nd (fun _ _ _ _ h => EC.calling h) (fun U hU hW => EC.at hS hAB hU hW hE)) (hEV.1 _ hi_op).1.1 hS) rfl rfl hl.1 rfl (lv_room (Nat.le_of_ble_eq_true rfl)) d_Canvas_act_4 ⟨Nat.le_of_ble_eq_true rfl, Nat.le_of_ble_eq_true rfl⟩) (fun rv1 u1 H locs hw1 hP hD hS => ?_)
  have hP : va_P D classes (cW T ad S) H := hP
  have hD : va_D A (cW T ad S) := hD
  have qhw1 : rv1.toInt = (op : Int) := hw1
  have rrv1 := zt_rng rv1
  refine va_ti hx hb hEV.2.2.1.2 hS (zt_in (show rv1.toInt = _ from rfl) (by omega) (by omega)) rfl d_Canvas_act_7 ?_
  refine lv_topi (fun x1 ex1 => ?_)
  have rx1 := zt_rng x1
  by_cases h_45_1 : x1.toInt = 45
  · refine lv_tableIn (off := 36) (tgt := 44) hx hb d_Canvas_act_8 (by omega) (by omega) (by rw [show x1.toInt = 45 from h_45_1]; decide +kernel) (by decide) ?_
    refine lv_aload_n hx hb d_Canvas_act_44 rfl (lv_at hl 0 rfl) ?_
    refine jc_ci (w := (fun u => u)) hK hP hD hS hA (va_runV (As := []) (rest := []) F (c_Canvas_setGray l D T ad S  H.size ⟨i_vst, i_vc0, i_vc1, i_vc2, i_vc3, i_vv0, i_vv1, i_vv2, i_vv3, i_vg, i_wct, i_wln, i_sd0, i_sd1, i_sd2, i_sd3, i_rln, i_rtx, i_rpl, i_rtk, i_cnv, i_pts, i_cik, i_und⟩) (j_cV (k := 0) (C := "PageScribe$Canvas") hts k_5_135 k_1_8 k_5_132 k_5_134 k_0_56 (by decide +kernel) ⟨Nat.le_of_ble_eq_true rfl, Nat.le_of_ble_eq_true rfl⟩) (j_preV (q0 := 67) (ci := 6) hK hP hD csc csc_all csc_nd cl_6 (ce_67 _ _ _) (fun _ _ _ _ h => h) (fun _ _ _ => trivial)) rfl rfl hl.1 rfl (lv_room (Nat.le_of_ble_eq_true rfl)) d_Canvas_act_45 ⟨Nat.le_of_ble_eq_true rfl, Nat.le_of_ble_eq_true rfl⟩) (fun rv2 S1 H locs hw2 hP hD hS => ?_)
    have hP : va_P D classes (cW T ad S1) H := hP
    have hD : va_D A (cW T ad S1) := hD
    obtain ⟨⟨i_vst, i_vc0, i_vc1, i_vc2, i_vc3, i_vv0, i_vv1, i_vv2, i_vv3, i_vg, i_wct, i_wln, i_sd0, i_sd1, i_sd2, i_sd3, i_rln, i_rtx, i_rpl, i_rtk, i_cnv, i_pts, i_cik, i_und⟩, kpcL_S1, kpcP_S1, kpcU_S1, kpcW_S1⟩ := hw2
    have kScL_S1 : kcL S S1 := kcL_t (show kcL S S from (kcL_r S)) kpcL_S1
    have kScP_S1 : kcP S S1 := kcP_t (show kcP S S from (kcP_r S)) kpcP_S1
    have kScU_S1 : kcU S S1 := kcU_t (show kcU S S from (kcU_r S)) kpcU_S1
    have kScW_S1 : kcW S S1 := kcW_t (show kcW S S from (kcW_r S)) kpcW_S1
    have nxr_length_S1 : (f_xr_length S1).toInt = (f_xr_length S).toInt := congrArg Int32.toInt kpcL_S1
    have nxr_length_S1 : (f_xr_length S1).toInt = (f_xr_length S).toInt := congrArg Int32.toInt kpcP_S1.1
    have nxr_place_S1 : (f_xr_place S1).toInt = (f_xr_place S).toInt := congrArg Int32.toInt kpcP_S1.2.1
    have nxe_underWay_S1 : (f_xe_underWay S1).toInt = (f_xe_underWay S).toInt := congrArg Int32.toInt kpcU_S1
    have nxp_columns_S1 : (f_xp_columns S1).toInt = (f_xp_columns S).toInt := congrArg Int32.toInt kpcW_S1.1
    have nxp_rows_S1 : (f_xp_rows S1).toInt = (f_xp_rows S).toInt := congrArg Int32.toInt kpcW_S1.2
    have rrv2 := zt_rng rv2
    exact j_iret F hr hlocks hK hS S1 ⟨⟨i_vst, i_vc0, i_vc1, i_vc2, i_vc3, i_vv0, i_vv1, i_vv2, i_vv3, i_vg, i_wct, i_wln, i_sd0, i_sd1, i_sd2, i_sd3, i_rln, i_rtx, i_rpl, i_rtk, i_cnv, i_pts, i_cik, i_und⟩, kScL_S1, kScP_S1, kScU_S1, kScW_S1⟩ hP hD d_Canvas_act_48
  by_cases h_46_1 : x1.toInt = 46
  · refine lv_tableIn (off := 41) (tgt := 49) hx hb d_Canvas_act_8 (by omega) (by omega) (by rw [show x1.toInt = 46 from h_46_1]; decide +kernel) (by decide) ?_
    refine lv_aload_n hx hb d_Canvas_act_49 rfl (lv_at hl 0 rfl) ?_
    refine lv_iconst (v := 0) hx hb d_Canvas_act_50 (by decide) ?_
    refine va_put (D := D) (ci := 6) (v := .int 0) (ty := .int) (C := "PageScribe$Canvas") (T := F_Canvas) (N := 9) hx hb hts i_Canvas t_Canvas t_Canvas_ok n_Canvas hown hK hP hD hS 67 (ce_67 _ _ _) cl_6 8 (by decide) (hts _ k_1_215) (fun _ h9 => h9) rfl (by decide +kernel) rfl rfl (Nat.le_of_ble_eq_true rfl) d_Canvas_act_51 (fun H locs hP hD hS => ?_)
    rw [cp_xp_points] at hP hD
    have hP : va_P D classes (cW T ad ((S.1, S.2.1, S.2.2.1, S.2.2.2.1, S.2.2.2.2.1, S.2.2.2.2.2.1, S.2.2.2.2.2.2.1, ((f_xp_columns S), (f_xp_rows S), (a_xp_levels S), (f_xp_gray S), (a_xp_across S), (a_xp_along S), (a_xp_begins S), 0), S.2.2.2.2.2.2.2.2) : CS)) H := hP
    have hD : va_D A (cW T ad ((S.1, S.2.1, S.2.2.1, S.2.2.2.1, S.2.2.2.2.1, S.2.2.2.2.2.1, S.2.2.2.2.2.2.1, ((f_xp_columns S), (f_xp_rows S), (a_xp_levels S), (f_xp_gray S), (a_xp_across S), (a_xp_along S), (a_xp_begins S), 0), S.2.2.2.2.2.2.2.2) : CS)) := hD
    refine lv_iconst (v := 0) hx hb d_Canvas_act_54 (by decide) ?_
    exact j_iret F hr hlocks hK hS ((S.1, S.2.1, S.2.2.1, S.2.2.2.1, S.2.2.2.2.1, S.2.2.2.2.2.1, S.2.2.2.2.2.2.1, ((f_xp_columns S), (f_xp_rows S), (a_xp_levels S), (f_xp_gray S), (a_xp_across S), (a_xp_along S), (a_xp_begins S), 0), S.2.2.2.2.2.2.2.2) : CS) ⟨⟨i_vst, i_vc0, i_vc1, i_vc2, i_vc3, i_vv0, i_vv1, i_vv2, i_vv3, i_vg, i_wct, i_wln, i_sd0, i_sd1, i_sd2, i_sd3, i_rln, i_rtx, i_rpl, i_rtk, i_cnv, (show 0 ≤ (0 : Int32).toInt ∧ (0 : Int32).toInt ≤ 30 by have := tI_0; omega), i_cik, i_und⟩, (kcL_r S), (kcP_r S), (kcU_r S), (kcW_r S)⟩ hP hD d_Canvas_act_55
  by_cases h_47_1 : x1.toInt = 47
  · refine lv_tableIn (off := 48) (tgt := 56) hx hb d_Canvas_act_8 (by omega) (by omega) (by rw [show x1.toInt = 47 from h_47_1]; decide +kernel) (by decide) ?_
    refine lv_aload_n hx hb d_Canvas_act_56 rfl (lv_at hl 0 rfl) ?_
    refine lv_aload_n hx hb d_Canvas_act_57 rfl (lv_at hl 1 rfl) ?_
    refine va_gets hx hb (v := .ref (g_en g 67)) (hEV.1 67 (by decide)).1.2 hS hown (hts _ k_5_138) (fun _ h9 => h9) d_Canvas_act_58 ?_
    refine lv_acmp_ne (rx := some (g_en g op)) (ry := some (g_en g 67)) (tgt := 68) hx hb d_Canvas_act_61 (by decide) (fun c61_1 => ?_) (fun c61_1 => ?_)
    · refine lv_iconst (v := 0) hx hb d_Canvas_act_68 (by decide) ?_
      refine jc_ci (w := (fun u => u)) hK hP hD hS hA (va_runV (As := [.int 0]) (rest := []) F (c_Canvas_addGiven l D T ad S (0 : Int32)  H.size ⟨i_vst, i_vc0, i_vc1, i_vc2, i_vc3, i_vv0, i_vv1, i_vv2, i_vv3, i_vg, i_wct, i_wln, i_sd0, i_sd1, i_sd2, i_sd3, i_rln, i_rtx, i_rpl, i_rtk, i_cnv, i_pts, i_cik, i_und⟩) (j_cV (k := 1) (C := "PageScribe$Canvas") hts k_5_143 k_1_8 k_5_140 k_5_142 k_0_57 (by decide +kernel) ⟨Nat.le_of_ble_eq_true rfl, Nat.le_of_ble_eq_true rfl⟩) (j_preV (q0 := 67) (ci := 6) hK hP hD csc csc_all csc_nd cl_6 (ce_67 _ _ _) (fun _ _ _ _ h => h) (fun _ _ _ => trivial)) rfl rfl hl.1 rfl (lv_room (Nat.le_of_ble_eq_true rfl)) d_Canvas_act_69 ⟨Nat.le_of_ble_eq_true rfl, Nat.le_of_ble_eq_true rfl⟩) (fun rv3 S2 H locs hw3 hP hD hS => ?_)
      have hP : va_P D classes (cW T ad S2) H := hP
      have hD : va_D A (cW T ad S2) := hD
      obtain ⟨⟨i_vst, i_vc0, i_vc1, i_vc2, i_vc3, i_vv0, i_vv1, i_vv2, i_vv3, i_vg, i_wct, i_wln, i_sd0, i_sd1, i_sd2, i_sd3, i_rln, i_rtx, i_rpl, i_rtk, i_cnv, i_pts, i_cik, i_und⟩, kpcL_S2, kpcP_S2, kpcU_S2, kpcW_S2⟩ := hw3
      have kScL_S2 : kcL S S2 := kcL_t (show kcL S S from (kcL_r S)) kpcL_S2
      have kScP_S2 : kcP S S2 := kcP_t (show kcP S S from (kcP_r S)) kpcP_S2
      have kScU_S2 : kcU S S2 := kcU_t (show kcU S S from (kcU_r S)) kpcU_S2
      have kScW_S2 : kcW S S2 := kcW_t (show kcW S S from (kcW_r S)) kpcW_S2
      have nxr_length_S2 : (f_xr_length S2).toInt = (f_xr_length S).toInt := congrArg Int32.toInt kpcL_S2
      have nxr_length_S2 : (f_xr_length S2).toInt = (f_xr_length S).toInt := congrArg Int32.toInt kpcP_S2.1
      have nxr_place_S2 : (f_xr_place S2).toInt = (f_xr_place S).toInt := congrArg Int32.toInt kpcP_S2.2.1
      have nxe_underWay_S2 : (f_xe_underWay S2).toInt = (f_xe_underWay S).toInt := congrArg Int32.toInt kpcU_S2
      have nxp_columns_S2 : (f_xp_columns S2).toInt = (f_xp_columns S).toInt := congrArg Int32.toInt kpcW_S2.1
      have nxp_rows_S2 : (f_xp_rows S2).toInt = (f_xp_rows S).toInt := congrArg Int32.toInt kpcW_S2.2
      have rrv3 := zt_rng rv3
      exact j_iret F hr hlocks hK hS S2 ⟨⟨i_vst, i_vc0, i_vc1, i_vc2, i_vc3, i_vv0, i_vv1, i_vv2, i_vv3, i_vg, i_wct, i_wln, i_sd0, i_sd1, i_sd2, i_sd3, i_rln, i_rtx, i_rpl, i_rtk, i_cnv, i_pts, i_cik, i_und⟩, kScL_S2, kScP_S2, kScU_S2, kScW_S2⟩ hP hD d_Canvas_act_72
    · refine lv_iconst (v := 1) hx hb d_Canvas_act_64 (by decide) ?_
      refine lv_goto (tgt := 69) hx hb d_Canvas_act_65 (by decide) ?_
      refine jc_ci (w := (fun u => u)) hK hP hD hS hA (va_runV (As := [.int 1]) (rest := []) F (c_Canvas_addGiven l D T ad S (1 : Int32)  H.size ⟨i_vst, i_vc0, i_vc1, i_vc2, i_vc3, i_vv0, i_vv1, i_vv2, i_vv3, i_vg, i_wct, i_wln, i_sd0, i_sd1, i_sd2, i_sd3, i_rln, i_rtx, i_rpl, i_rtk, i_cnv, i_pts, i_cik, i_und⟩) (j_cV (k := 1) (C := "PageScribe$Canvas") hts k_5_143 k_1_8 k_5_140 k_5_142 k_0_57 (by decide +kernel) ⟨Nat.le_of_ble_eq_true rfl, Nat.le_of_ble_eq_true rfl⟩) (j_preV (q0 := 67) (ci := 6) hK hP hD csc csc_all csc_nd cl_6 (ce_67 _ _ _) (fun _ _ _ _ h => h) (fun _ _ _ => trivial)) rfl rfl hl.1 rfl (lv_room (Nat.le_of_ble_eq_true rfl)) d_Canvas_act_69 ⟨Nat.le_of_ble_eq_true rfl, Nat.le_of_ble_eq_true rfl⟩) (fun rv4 S3 H locs hw4 hP hD hS => ?_)
      have hP : va_P D classes (cW T ad S3) H := hP
      have hD : va_D A (cW T ad S3) := hD
      obtain ⟨⟨i_vst, i_vc0, i_vc1, i_vc2, i_vc3, i_vv0, i_vv1, i_vv2, i_vv3, i_vg, i_wct, i_wln, i_sd0, i_sd1, i_sd2, i_sd3, i_rln, i_rtx, i_rpl, i_rtk, i_cnv, i_pts, i_cik, i_und⟩, kpcL_S3, kpcP_S3, kpcU_S3, kpcW_S3⟩ := hw4
      have kScL_S3 : kcL S S3 := kcL_t (show kcL S S from (kcL_r S)) kpcL_S3
      have kScP_S3 : kcP S S3 := kcP_t (show kcP S S from (kcP_r S)) kpcP_S3
      have kScU_S3 : kcU S S3 := kcU_t (show kcU S S from (kcU_r S)) kpcU_S3
      have kScW_S3 : kcW S S3 := kcW_t (show kcW S S from (kcW_r S)) kpcW_S3
      have nxr_length_S3 : (f_xr_length S3).toInt = (f_xr_length S).toInt := congrArg Int32.toInt kpcL_S3
      have nxr_length_S3 : (f_xr_length S3).toInt = (f_xr_length S).toInt := congrArg Int32.toInt kpcP_S3.1
      have nxr_place_S3 : (f_xr_place S3).toInt = (f_xr_place S).toInt := congrArg Int32.toInt kpcP_S3.2.1
      have nxe_underWay_S3 : (f_xe_underWay S3).toInt = (f_xe_underWay S).toInt := congrArg Int32.toInt kpcU_S3
      have nxp_columns_S3 : (f_xp_columns S3).toInt = (f_xp_columns S).toInt := congrArg Int32.toInt kpcW_S3.1
      have nxp_rows_S3 : (f_xp_rows S3).toInt = (f_xp_rows S).toInt := congrArg Int32.toInt kpcW_S3.2
      have rrv4 := zt_rng rv4
      exact j_iret F hr hlocks hK hS S3 ⟨⟨i_vst, i_vc0, i_vc1, i_vc2, i_vc3, i_vv0, i_vv1, i_vv2, i_vv3, i_vg, i_wct, i_wln, i_sd0, i_sd1, i_sd2, i_sd3, i_rln, i_rtx, i_rpl, i_rtk, i_cnv, i_pts, i_cik, i_und⟩, kScL_S3, kScP_S3, kScU_S3, kScW_S3⟩ hP hD d_Canvas_act_72
  by_cases h_48_1 : x1.toInt = 48
  · refine lv_tableIn (off := 48) (tgt := 56) hx hb d_Canvas_act_8 (by omega) (by omega) (by rw [show x1.toInt = 48 from h_48_1]; decide +kernel) (by decide) ?_
    refine lv_aload_n hx hb d_Canvas_act_56 rfl (lv_at hl 0 rfl) ?_
    refine lv_aload_n hx hb d_Canvas_act_57 rfl (lv_at hl 1 rfl) ?_
    refine va_gets hx hb (v := .ref (g_en g 67)) (hEV.1 67 (by decide)).1.2 hS hown (hts _ k_5_138) (fun _ h9 => h9) d_Canvas_act_58 ?_
    refine lv_acmp_ne (rx := some (g_en g op)) (ry := some (g_en g 67)) (tgt := 68) hx hb d_Canvas_act_61 (by decide) (fun c61_2 => ?_) (fun c61_2 => ?_)
    · refine lv_iconst (v := 0) hx hb d_Canvas_act_68 (by decide) ?_
      refine jc_ci (w := (fun u => u)) hK hP hD hS hA (va_runV (As := [.int 0]) (rest := []) F (c_Canvas_addGiven l D T ad S (0 : Int32)  H.size ⟨i_vst, i_vc0, i_vc1, i_vc2, i_vc3, i_vv0, i_vv1, i_vv2, i_vv3, i_vg, i_wct, i_wln, i_sd0, i_sd1, i_sd2, i_sd3, i_rln, i_rtx, i_rpl, i_rtk, i_cnv, i_pts, i_cik, i_und⟩) (j_cV (k := 1) (C := "PageScribe$Canvas") hts k_5_143 k_1_8 k_5_140 k_5_142 k_0_57 (by decide +kernel) ⟨Nat.le_of_ble_eq_true rfl, Nat.le_of_ble_eq_true rfl⟩) (j_preV (q0 := 67) (ci := 6) hK hP hD csc csc_all csc_nd cl_6 (ce_67 _ _ _) (fun _ _ _ _ h => h) (fun _ _ _ => trivial)) rfl rfl hl.1 rfl (lv_room (Nat.le_of_ble_eq_true rfl)) d_Canvas_act_69 ⟨Nat.le_of_ble_eq_true rfl, Nat.le_of_ble_eq_true rfl⟩) (fun rv5 S4 H locs hw5 hP hD hS => ?_)
      have hP : va_P D classes (cW T ad S4) H := hP
      have hD : va_D A (cW T ad S4) := hD
      obtain ⟨⟨i_vst, i_vc0, i_vc1, i_vc2, i_vc3, i_vv0, i_vv1, i_vv2, i_vv3, i_vg, i_wct, i_wln, i_sd0, i_sd1, i_sd2, i_sd3, i_rln, i_rtx, i_rpl, i_rtk, i_cnv, i_pts, i_cik, i_und⟩, kpcL_S4, kpcP_S4, kpcU_S4, kpcW_S4⟩ := hw5
      have kScL_S4 : kcL S S4 := kcL_t (show kcL S S from (kcL_r S)) kpcL_S4
      have kScP_S4 : kcP S S4 := kcP_t (show kcP S S from (kcP_r S)) kpcP_S4
      have kScU_S4 : kcU S S4 := kcU_t (show kcU S S from (kcU_r S)) kpcU_S4
      have kScW_S4 : kcW S S4 := kcW_t (show kcW S S from (kcW_r S)) kpcW_S4
      have nxr_length_S4 : (f_xr_length S4).toInt = (f_xr_length S).toInt := congrArg Int32.toInt kpcL_S4
      have nxr_length_S4 : (f_xr_length S4).toInt = (f_xr_length S).toInt := congrArg Int32.toInt kpcP_S4.1
      have nxr_place_S4 : (f_xr_place S4).toInt = (f_xr_place S).toInt := congrArg Int32.toInt kpcP_S4.2.1
      have nxe_underWay_S4 : (f_xe_underWay S4).toInt = (f_xe_underWay S).toInt := congrArg Int32.toInt kpcU_S4
      have nxp_columns_S4 : (f_xp_columns S4).toInt = (f_xp_columns S).toInt := congrArg Int32.toInt kpcW_S4.1
      have nxp_rows_S4 : (f_xp_rows S4).toInt = (f_xp_rows S).toInt := congrArg Int32.toInt kpcW_S4.2
      have rrv5 := zt_rng rv5
      exact j_iret F hr hlocks hK hS S4 ⟨⟨i_vst, i_vc0, i_vc1, i_vc2, i_vc3, i_vv0, i_vv1, i_vv2, i_vv3, i_vg, i_wct, i_wln, i_sd0, i_sd1, i_sd2, i_sd3, i_rln, i_rtx, i_rpl, i_rtk, i_cnv, i_pts, i_cik, i_und⟩, kScL_S4, kScP_S4, kScU_S4, kScW_S4⟩ hP hD d_Canvas_act_72
    · refine lv_iconst (v := 1) hx hb d_Canvas_act_64 (by decide) ?_
      refine lv_goto (tgt := 69) hx hb d_Canvas_act_65 (by decide) ?_
      refine jc_ci (w := (fun u => u)) hK hP hD hS hA (va_runV (As := [.int 1]) (rest := []) F (c_Canvas_addGiven l D T ad S (1 : Int32)  H.size ⟨i_vst, i_vc0, i_vc1, i_vc2, i_vc3, i_vv0, i_vv1, i_vv2, i_vv3, i_vg, i_wct, i_wln, i_sd0, i_sd1, i_sd2, i_sd3, i_rln, i_rtx, i_rpl, i_rtk, i_cnv, i_pts, i_cik, i_und⟩) (j_cV (k := 1) (C := "PageScribe$Canvas") hts k_5_143 k_1_8 k_5_140 k_5_142 k_0_57 (by decide +kernel) ⟨Nat.le_of_ble_eq_true rfl, Nat.le_of_ble_eq_true rfl⟩) (j_preV (q0 := 67) (ci := 6) hK hP hD csc csc_all csc_nd cl_6 (ce_67 _ _ _) (fun _ _ _ _ h => h) (fun _ _ _ => trivial)) rfl rfl hl.1 rfl (lv_room (Nat.le_of_ble_eq_true rfl)) d_Canvas_act_69 ⟨Nat.le_of_ble_eq_true rfl, Nat.le_of_ble_eq_true rfl⟩) (fun rv6 S5 H locs hw6 hP hD hS => ?_)
      have hP : va_P D classes (cW T ad S5) H := hP
      have hD : va_D A (cW T ad S5) := hD
      obtain ⟨⟨i_vst, i_vc0, i_vc1, i_vc2, i_vc3, i_vv0, i_vv1, i_vv2, i_vv3, i_vg, i_wct, i_wln, i_sd0, i_sd1, i_sd2, i_sd3, i_rln, i_rtx, i_rpl, i_rtk, i_cnv, i_pts, i_cik, i_und⟩, kpcL_S5, kpcP_S5, kpcU_S5, kpcW_S5⟩ := hw6
      have kScL_S5 : kcL S S5 := kcL_t (show kcL S S from (kcL_r S)) kpcL_S5
      have kScP_S5 : kcP S S5 := kcP_t (show kcP S S from (kcP_r S)) kpcP_S5
      have kScU_S5 : kcU S S5 := kcU_t (show kcU S S from (kcU_r S)) kpcU_S5
      have kScW_S5 : kcW S S5 := kcW_t (show kcW S S from (kcW_r S)) kpcW_S5
      have nxr_length_S5 : (f_xr_length S5).toInt = (f_xr_length S).toInt := congrArg Int32.toInt kpcL_S5
      have nxr_length_S5 : (f_xr_length S5).toInt = (f_xr_length S).toInt := congrArg Int32.toInt kpcP_S5.1
      have nxr_place_S5 : (f_xr_place S5).toInt = (f_xr_place S).toInt := congrArg Int32.toInt kpcP_S5.2.1
      have nxe_underWay_S5 : (f_xe_underWay S5).toInt = (f_xe_underWay S).toInt := congrArg Int32.toInt kpcU_S5
      have nxp_columns_S5 : (f_xp_columns S5).toInt = (f_xp_columns S).toInt := congrArg Int32.toInt kpcW_S5.1
      have nxp_rows_S5 : (f_xp_rows S5).toInt = (f_xp_rows S).toInt := congrArg Int32.toInt kpcW_S5.2
      have rrv6 := zt_rng rv6
      exact j_iret F hr hlocks hK hS S5 ⟨⟨i_vst, i_vc0, i_vc1, i_vc2, i_vc3, i_vv0, i_vv1, i_vv2, i_vv3, i_vg, i_wct, i_wln, i_sd0, i_sd1, i_sd2, i_sd3, i_rln, i_rtx, i_rpl, i_rtk, i_cnv, i_pts, i_cik, i_und⟩, kScL_S5, kScP_S5, kScU_S5, kScW_S5⟩ hP hD d_Canvas_act_72
  by_cases h_49_1 : x1.toInt = 49
  · refine lv_tableIn (off := 65) (tgt := 73) hx hb d_Canvas_act_8 (by omega) (by omega) (by rw [show x1.toInt = 49 from h_49_1]; decide +kernel) (by decide) ?_
    refine lv_aload_n hx hb d_Canvas_act_73 rfl (lv_at hl 0 rfl) ?_
    refine jc_ci (w := (fun u => u)) hK hP hD hS hA (va_runV (As := []) (rest := []) F (c_Canvas_closePath l D T ad S  H.size ⟨i_vst, i_vc0, i_vc1, i_vc2, i_vc3, i_vv0, i_vv1, i_vv2, i_vv3, i_vg, i_wct, i_wln, i_sd0, i_sd1, i_sd2, i_sd3, i_rln, i_rtx, i_rpl, i_rtk, i_cnv, i_pts, i_cik, i_und⟩) (j_cV (k := 0) (C := "PageScribe$Canvas") hts k_5_164 k_1_8 k_5_161 k_5_163 k_0_61 (by decide +kernel) ⟨Nat.le_of_ble_eq_true rfl, Nat.le_of_ble_eq_true rfl⟩) (j_preV (q0 := 67) (ci := 6) hK hP hD csc csc_all csc_nd cl_6 (ce_67 _ _ _) (fun _ _ _ _ h => h) (fun _ _ _ => trivial)) rfl rfl hl.1 rfl (lv_room (Nat.le_of_ble_eq_true rfl)) d_Canvas_act_74 ⟨Nat.le_of_ble_eq_true rfl, Nat.le_of_ble_eq_true rfl⟩) (fun rv7 S6 H locs hw7 hP hD hS => ?_)
    have hP : va_P D classes (cW T ad S6) H := hP
    have hD : va_D A (cW T ad S6) := hD
    obtain ⟨⟨i_vst, i_vc0, i_vc1, i_vc2, i_vc3, i_vv0, i_vv1, i_vv2, i_vv3, i_vg, i_wct, i_wln, i_sd0, i_sd1, i_sd2, i_sd3, i_rln, i_rtx, i_rpl, i_rtk, i_cnv, i_pts, i_cik, i_und⟩, kpcL_S6, kpcP_S6, kpcU_S6, kpcW_S6⟩ := hw7
    have kScL_S6 : kcL S S6 := kcL_t (show kcL S S from (kcL_r S)) kpcL_S6
    have kScP_S6 : kcP S S6 := kcP_t (show kcP S S from (kcP_r S)) kpcP_S6
    have kScU_S6 : kcU S S6 := kcU_t (show kcU S S from (kcU_r S)) kpcU_S6
    have kScW_S6 : kcW S S6 := kcW_t (show kcW S S from (kcW_r S)) kpcW_S6
    have nxr_length_S6 : (f_xr_length S6).toInt = (f_xr_length S).toInt := congrArg Int32.toInt kpcL_S6
    have nxr_length_S6 : (f_xr_length S6).toInt = (f_xr_length S).toInt := congrArg Int32.toInt kpcP_S6.1
    have nxr_place_S6 : (f_xr_place S6).toInt = (f_xr_place S).toInt := congrArg Int32.toInt kpcP_S6.2.1
    have nxe_underWay_S6 : (f_xe_underWay S6).toInt = (f_xe_underWay S).toInt := congrArg Int32.toInt kpcU_S6
    have nxp_columns_S6 : (f_xp_columns S6).toInt = (f_xp_columns S).toInt := congrArg Int32.toInt kpcW_S6.1
    have nxp_rows_S6 : (f_xp_rows S6).toInt = (f_xp_rows S).toInt := congrArg Int32.toInt kpcW_S6.2
    have rrv7 := zt_rng rv7
    exact j_iret F hr hlocks hK hS S6 ⟨⟨i_vst, i_vc0, i_vc1, i_vc2, i_vc3, i_vv0, i_vv1, i_vv2, i_vv3, i_vg, i_wct, i_wln, i_sd0, i_sd1, i_sd2, i_sd3, i_rln, i_rtx, i_rpl, i_rtk, i_cnv, i_pts, i_cik, i_und⟩, kScL_S6, kScP_S6, kScU_S6, kScW_S6⟩ hP hD d_Canvas_act_77
  refine lv_tableOut (tgt := 78) hx hb d_Canvas_act_8 (by omega) (by decide) ?_
  refine lv_aload_n hx hb d_Canvas_act_78 rfl (lv_at hl 0 rfl) ?_
  refine lv_aload_n hx hb d_Canvas_act_79 rfl (lv_at hl 1 rfl) ?_
  refine va_gets hx hb (v := .ref (g_en g 71)) (hEV.1 71 (by decide)).1.2 hS hown (hts _ k_5_165) (fun _ h9 => h9) d_Canvas_act_80 ?_
  refine lv_acmp_ne (rx := some (g_en g op)) (ry := some (g_en g 71)) (tgt := 90) hx hb d_Canvas_act_83 (by decide) (fun c83_1 => ?_) (fun c83_1 => ?_)
  · refine lv_iconst (v := 0) hx hb d_Canvas_act_90 (by decide) ?_
    refine jc_ci (w := (fun u => u)) hK hP hD hS hA (va_runV (As := [.int 0]) (rest := []) F (c_Canvas_paint l D T ad S (0 : Int32)  H.size ⟨i_vst, i_vc0, i_vc1, i_vc2, i_vc3, i_vv0, i_vv1, i_vv2, i_vv3, i_vg, i_wct, i_wln, i_sd0, i_sd1, i_sd2, i_sd3, i_rln, i_rtx, i_rpl, i_rtk, i_cnv, i_pts, i_cik, i_und⟩) (j_cV (k := 1) (C := "PageScribe$Canvas") hts k_5_170 k_1_8 k_5_167 k_5_169 k_0_62 (by decide +kernel) ⟨Nat.le_of_ble_eq_true rfl, Nat.le_of_ble_eq_true rfl⟩) (j_preV (q0 := 67) (ci := 6) hK hP hD csc csc_all csc_nd cl_6 (ce_67 _ _ _) (fun _ _ _ _ h => h) (fun _ _ _ => trivial)) rfl rfl hl.1 rfl (lv_room (Nat.le_of_ble_eq_true rfl)) d_Canvas_act_91 ⟨Nat.le_of_ble_eq_true rfl, Nat.le_of_ble_eq_true rfl⟩) (fun rv8 S7 H locs hw8 hP hD hS => ?_)
    have hP : va_P D classes (cW T ad S7) H := hP
    have hD : va_D A (cW T ad S7) := hD
    obtain ⟨⟨i_vst, i_vc0, i_vc1, i_vc2, i_vc3, i_vv0, i_vv1, i_vv2, i_vv3, i_vg, i_wct, i_wln, i_sd0, i_sd1, i_sd2, i_sd3, i_rln, i_rtx, i_rpl, i_rtk, i_cnv, i_pts, i_cik, i_und⟩, kpcL_S7, kpcP_S7, kpcU_S7, kpcW_S7⟩ := hw8
    have kScL_S7 : kcL S S7 := kcL_t (show kcL S S from (kcL_r S)) kpcL_S7
    have kScP_S7 : kcP S S7 := kcP_t (show kcP S S from (kcP_r S)) kpcP_S7
    have kScU_S7 : kcU S S7 := kcU_t (show kcU S S from (kcU_r S)) kpcU_S7
    have kScW_S7 : kcW S S7 := kcW_t (show kcW S S from (kcW_r S)) kpcW_S7
    have nxr_length_S7 : (f_xr_length S7).toInt = (f_xr_length S).toInt := congrArg Int32.toInt kpcL_S7
    have nxr_length_S7 : (f_xr_length S7).toInt = (f_xr_length S).toInt := congrArg Int32.toInt kpcP_S7.1
    have nxr_place_S7 : (f_xr_place S7).toInt = (f_xr_place S).toInt := congrArg Int32.toInt kpcP_S7.2.1
    have nxe_underWay_S7 : (f_xe_underWay S7).toInt = (f_xe_underWay S).toInt := congrArg Int32.toInt kpcU_S7
    have nxp_columns_S7 : (f_xp_columns S7).toInt = (f_xp_columns S).toInt := congrArg Int32.toInt kpcW_S7.1
    have nxp_rows_S7 : (f_xp_rows S7).toInt = (f_xp_rows S).toInt := congrArg Int32.toInt kpcW_S7.2
    have rrv8 := zt_rng rv8
    exact j_iret F hr hlocks hK hS S7 ⟨⟨i_vst, i_vc0, i_vc1, i_vc2, i_vc3, i_vv0, i_vv1, i_vv2, i_vv3, i_vg, i_wct, i_wln, i_sd0, i_sd1, i_sd2, i_sd3, i_rln, i_rtx, i_rpl, i_rtk, i_cnv, i_pts, i_cik, i_und⟩, kScL_S7, kScP_S7, kScU_S7, kScW_S7⟩ hP hD d_Canvas_act_94
  · refine lv_iconst (v := 1) hx hb d_Canvas_act_86 (by decide) ?_
    refine lv_goto (tgt := 91) hx hb d_Canvas_act_87 (by decide) ?_
    refine jc_ci (w := (fun u => u)) hK hP hD hS hA (va_runV (As := [.int 1]) (rest := []) F (c_Canvas_paint l D T ad S (1 : Int32)  H.size ⟨i_vst, i_vc0, i_vc1, i_vc2, i_vc3, i_vv0, i_vv1, i_vv2, i_vv3, i_vg, i_wct, i_wln, i_sd0, i_sd1, i_sd2, i_sd3, i_rln, i_rtx, i_rpl, i_rtk, i_cnv, i_pts, i_cik, i_und⟩) (j_cV (k := 1) (C := "PageScribe$Canvas") hts k_5_170 k_1_8 k_5_167 k_5_169 k_0_62 (by decide +kernel) ⟨Nat.le_of_ble_eq_true rfl, Nat.le_of_ble_eq_true rfl⟩) (j_preV (q0 := 67) (ci := 6) hK hP hD csc csc_all csc_nd cl_6 (ce_67 _ _ _) (fun _ _ _ _ h => h) (fun _ _ _ => trivial)) rfl rfl hl.1 rfl (lv_room (Nat.le_of_ble_eq_true rfl)) d_Canvas_act_91 ⟨Nat.le_of_ble_eq_true rfl, Nat.le_of_ble_eq_true rfl⟩) (fun rv9 S8 H locs hw9 hP hD hS => ?_)
    have hP : va_P D classes (cW T ad S8) H := hP
    have hD : va_D A (cW T ad S8) := hD
    obtain ⟨⟨i_vst, i_vc0, i_vc1, i_vc2, i_vc3, i_vv0, i_vv1, i_vv2, i_vv3, i_vg, i_wct, i_wln, i_sd0, i_sd1, i_sd2, i_sd3, i_rln, i_rtx, i_rpl, i_rtk, i_cnv, i_pts, i_cik, i_und⟩, kpcL_S8, kpcP_S8, kpcU_S8, kpcW_S8⟩ := hw9
    have kScL_S8 : kcL S S8 := kcL_t (show kcL S S from (kcL_r S)) kpcL_S8
    have kScP_S8 : kcP S S8 := kcP_t (show kcP S S from (kcP_r S)) kpcP_S8
    have kScU_S8 : kcU S S8 := kcU_t (show kcU S S from (kcU_r S)) kpcU_S8
    have kScW_S8 : kcW S S8 := kcW_t (show kcW S S from (kcW_r S)) kpcW_S8
    have nxr_length_S8 : (f_xr_length S8).toInt = (f_xr_length S).toInt := congrArg Int32.toInt kpcL_S8
    have nxr_length_S8 : (f_xr_length S8).toInt = (f_xr_length S).toInt := congrArg Int32.toInt kpcP_S8.1
    have nxr_place_S8 : (f_xr_place S8).toInt = (f_xr_place S).toInt := congrArg Int32.toInt kpcP_S8.2.1
    have nxe_underWay_S8 : (f_xe_underWay S8).toInt = (f_xe_underWay S).toInt := congrArg Int32.toInt kpcU_S8
    have nxp_columns_S8 : (f_xp_columns S8).toInt = (f_xp_columns S).toInt := congrArg Int32.toInt kpcW_S8.1
    have nxp_rows_S8 : (f_xp_rows S8).toInt = (f_xp_rows S).toInt := congrArg Int32.toInt kpcW_S8.2
    have rrv9 := zt_rng rv9
    exact j_iret F hr hlocks hK hS S8 ⟨⟨i_vst, i_vc0, i_vc1, i_vc2, i_vc3, i_vv0, i_vv1, i_vv2, i_vv3, i_vg, i_wct, i_wln, i_sd0, i_sd1, i_sd2, i_sd3, i_rln, i_rtx, i_rpl, i_rtk, i_cnv, i_pts, i_cik, i_und⟩, kScL_S8, kScP_S8, kScU_S8, kScW_S8⟩ hP hD d_Canvas_act_94
