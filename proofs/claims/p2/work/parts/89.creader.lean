theorem d_Reader_readName_0 : decode prog_7_method_11_code 0 = .ok (.aload_n 0, 1) := by decide +kernel
theorem d_Reader_readName_1 : decode prog_7_method_11_code 1 = .ok (.getfield 45, 3) := by decide +kernel
theorem k_1_166 : Cond.fieldLink "PageScribe$Reader" 45 "PageScribe$Reader" "words" "LPageScribe$Words;" ∈ gw := gw_of (tb_1 (List.mem_of_getElem? (i := 166) (by decide +kernel))) (by decide +kernel)
theorem d_Reader_readName_4 : decode prog_7_method_11_code 4 = .ok (.aload_n 0, 1) := by decide +kernel
theorem d_Reader_readName_5 : decode prog_7_method_11_code 5 = .ok (.getfield 9, 3) := by decide +kernel
theorem d_Reader_readName_8 : decode prog_7_method_11_code 8 = .ok (.iload_n 2, 1) := by decide +kernel
theorem d_Reader_readName_9 : decode prog_7_method_11_code 9 = .ok (.iload_n 3, 1) := by decide +kernel
theorem d_Reader_readName_10 : decode prog_7_method_11_code 10 = .ok (.invokevirtual 103, 3) := by decide +kernel
theorem k_3_150 : Cond.code ⟨"PageScribe$Words", "find", "([CII)I"⟩ prog_13_method_2_code 5 (some .int) ∈ gw := gw_of (tb_3 (List.mem_of_getElem? (i := 150) (by decide +kernel))) (by decide +kernel)
theorem k_3_147 : Cond.methodLink "PageScribe$Reader" 103 ⟨"PageScribe$Words", "find", "([CII)I"⟩ ∈ gw := gw_of (tb_3 (List.mem_of_getElem? (i := 147) (by decide +kernel))) (by decide +kernel)
theorem k_3_148 : Cond.instanceMethod ⟨"PageScribe$Words", "find", "([CII)I"⟩ ∈ gw := gw_of (tb_3 (List.mem_of_getElem? (i := 148) (by decide +kernel))) (by decide +kernel)
theorem k_3_149 : Cond.selects "PageScribe$Words" ⟨"PageScribe$Words", "find", "([CII)I"⟩ ⟨"PageScribe$Words", "find", "([CII)I"⟩ ∈ gw := gw_of (tb_3 (List.mem_of_getElem? (i := 149) (by decide +kernel))) (by decide +kernel)
theorem d_Reader_readName_13 : decode prog_7_method_11_code 13 = .ok (.istore 4, 2) := by decide +kernel
theorem d_Reader_readName_15 : decode prog_7_method_11_code 15 = .ok (.iload_n 3, 1) := by decide +kernel
theorem d_Reader_readName_16 : decode prog_7_method_11_code 16 = .ok (.ifCond .eq 14, 3) := by decide +kernel
theorem d_Reader_readName_30 : decode prog_7_method_11_code 30 = .ok (.bipush 15, 2) := by decide +kernel
theorem d_Reader_readName_32 : decode prog_7_method_11_code 32 = .ok (.ireturn, 1) := by decide +kernel
theorem d_Reader_readName_19 : decode prog_7_method_11_code 19 = .ok (.iload 4, 2) := by decide +kernel
theorem d_Reader_readName_21 : decode prog_7_method_11_code 21 = .ok (.ifCond .ge 12, 3) := by decide +kernel
theorem d_Reader_readName_33 : decode prog_7_method_11_code 33 = .ok (.iload 4, 2) := by decide +kernel
theorem d_Reader_readName_35 : decode prog_7_method_11_code 35 = .ok (.ifCond .ge 18, 3) := by decide +kernel
theorem d_Reader_readName_53 : decode prog_7_method_11_code 53 = .ok (.iload 4, 2) := by decide +kernel
theorem d_Reader_readName_55 : decode prog_7_method_11_code 55 = .ok (.ifCond .ge 6, 3) := by decide +kernel
theorem d_Reader_readName_61 : decode prog_7_method_11_code 61 = .ok (.aload_n 0, 1) := by decide +kernel
theorem d_Reader_readName_62 : decode prog_7_method_11_code 62 = .ok (.iload_n 1, 1) := by decide +kernel
theorem d_Reader_readName_63 : decode prog_7_method_11_code 63 = .ok (.iload 4, 2) := by decide +kernel
theorem d_Reader_readName_65 : decode prog_7_method_11_code 65 = .ok (.dconst 0, 1) := by decide +kernel
theorem d_Reader_readName_66 : decode prog_7_method_11_code 66 = .ok (.invokevirtual 85, 3) := by decide +kernel
theorem d_Reader_readName_69 : decode prog_7_method_11_code 69 = .ok (.aload_n 0, 1) := by decide +kernel
theorem d_Reader_readName_70 : decode prog_7_method_11_code 70 = .ok (.iload_n 2, 1) := by decide +kernel
theorem d_Reader_readName_71 : decode prog_7_method_11_code 71 = .ok (.iload_n 3, 1) := by decide +kernel
theorem d_Reader_readName_72 : decode prog_7_method_11_code 72 = .ok (.iadd, 1) := by decide +kernel
theorem d_Reader_readName_73 : decode prog_7_method_11_code 73 = .ok (.putfield 19, 3) := by decide +kernel
theorem d_Reader_readName_76 : decode prog_7_method_11_code 76 = .ok (.iconst 0, 1) := by decide +kernel
theorem d_Reader_readName_77 : decode prog_7_method_11_code 77 = .ok (.ireturn, 1) := by decide +kernel
theorem d_Reader_readName_58 : decode prog_7_method_11_code 58 = .ok (.bipush 7, 2) := by decide +kernel
theorem d_Reader_readName_60 : decode prog_7_method_11_code 60 = .ok (.ireturn, 1) := by decide +kernel
theorem d_Reader_readName_38 : decode prog_7_method_11_code 38 = .ok (.aload_n 0, 1) := by decide +kernel
theorem d_Reader_readName_39 : decode prog_7_method_11_code 39 = .ok (.getfield 45, 3) := by decide +kernel
theorem d_Reader_readName_42 : decode prog_7_method_11_code 42 = .ok (.aload_n 0, 1) := by decide +kernel
theorem d_Reader_readName_43 : decode prog_7_method_11_code 43 = .ok (.getfield 9, 3) := by decide +kernel
theorem d_Reader_readName_46 : decode prog_7_method_11_code 46 = .ok (.iload_n 2, 1) := by decide +kernel
theorem d_Reader_readName_47 : decode prog_7_method_11_code 47 = .ok (.iload_n 3, 1) := by decide +kernel
theorem d_Reader_readName_48 : decode prog_7_method_11_code 48 = .ok (.invokevirtual 109, 3) := by decide +kernel
theorem k_3_162 : Cond.code ⟨"PageScribe$Words", "learn", "([CII)I"⟩ prog_13_method_5_code 5 (some .int) ∈ gw := gw_of (tb_3 (List.mem_of_getElem? (i := 162) (by decide +kernel))) (by decide +kernel)
theorem k_3_159 : Cond.methodLink "PageScribe$Reader" 109 ⟨"PageScribe$Words", "learn", "([CII)I"⟩ ∈ gw := gw_of (tb_3 (List.mem_of_getElem? (i := 159) (by decide +kernel))) (by decide +kernel)
theorem k_3_160 : Cond.instanceMethod ⟨"PageScribe$Words", "learn", "([CII)I"⟩ ∈ gw := gw_of (tb_3 (List.mem_of_getElem? (i := 160) (by decide +kernel))) (by decide +kernel)
theorem k_3_161 : Cond.selects "PageScribe$Words" ⟨"PageScribe$Words", "learn", "([CII)I"⟩ ⟨"PageScribe$Words", "learn", "([CII)I"⟩ ∈ gw := gw_of (tb_3 (List.mem_of_getElem? (i := 161) (by decide +kernel))) (by decide +kernel)
theorem d_Reader_readName_51 : decode prog_7_method_11_code 51 = .ok (.istore 4, 2) := by decide +kernel
theorem d_Reader_readName_24 : decode prog_7_method_11_code 24 = .ok (.iload_n 3, 1) := by decide +kernel
theorem d_Reader_readName_25 : decode prog_7_method_11_code 25 = .ok (.bipush 8, 2) := by decide +kernel
theorem d_Reader_readName_27 : decode prog_7_method_11_code 27 = .ok (.if_icmp .le 6, 3) := by decide +kernel
set_option maxHeartbeats 4000000 in
set_option maxRecDepth 100000 in
theorem c_Reader_readName (l : Launch) (D : va_G) (T : Nat → ClassId) (ad : Nat → Nat) (g : GE) (Bq : Nat → Prop) (S : CS) (p0 : Int32) (p1 : Int32) (p2 : Int32) (sz : Nat)  (hI : CIv S) (h1 : 0 ≤ p1.toInt ∧ 0 ≤ p2.toInt ∧ p1.toInt + p2.toInt ≤ 300) : Met l ⟨"PageScribe$Reader", "readName", "(III)I"⟩ (wy ⟨"PageScribe$Reader", "readName", "(III)I"⟩ prog_7_method_11_code 5 (some .int)) ({ frames := 6, cells := 0, slots := 0, locals := 420 }) (va_Pc [.ref (ad 60), .int p0, .int p1, .int p2] (Pw D T (cW T ad S) sz (EC g Bq ad))) (va_Qi (fun (r : Int32) (u : CS) => CIv u ∧ kcL S u ∧ kcU S u ∧ kcW S u) (fun u t => Bw D T (va_A (cW T ad S) sz) (cW T ad u) t) (va_A (cW T ad S) sz)) 0 0 (va_A (cW T ad S) sz) := by
  refine j_met (y := ⟨"PageScribe$Reader", "readName", "(III)I"⟩) (b := prog_7_method_11_code) (n := 5) (ret := (some .int)) (av := [.ref (ad 60), .int p0, .int p1, .int p2]) (Qc := fun A => va_Qi (fun (r : Int32) (u : CS) => CIv u ∧ kcL S u ∧ kcU S u ∧ kcW S u) (fun u t => Bw D T A (cW T ad u) t) A) (by decide +kernel) (Nat.le_of_ble_eq_true rfl) (fun p e s m args below meth c A ls F hr hlocks hnm hK hP hD hS hA hN hE hl => ?_)
  obtain ⟨hx, hb, hml, hown, hts⟩ := id F
  have hl : lv_has ls 5 [(0, .ref (ad 60)), (1, .int p0), (2, .int p1), (3, .int p2)] := hl
  obtain ⟨i_vst, i_vc0, i_vc1, i_vc2, i_vc3, i_vv0, i_vv1, i_vv2, i_vv3, i_vg, i_wct, i_wln, i_sd0, i_sd1, i_sd2, i_sd3, i_rln, i_rtx, i_rpl, i_rtk, i_cnv, i_pts, i_cik, i_und⟩ := id hI
  have hAB : ∀ q, A q → Bq q := EC.ab hE hN
  have hEV := hE.1.narrow hAB
  have rp0 := zt_rng p0
  have rp1 := zt_rng p1
  have rp2 := zt_rng p2
  refine lv_aload_n hx hb d_Reader_readName_0 rfl (lv_at hl 0 rfl) ?_
  refine va_get (D := D) (ci := 5) (v := .ref (ad 5)) (C := "PageScribe$Reader") (T := F_Reader) (N := 10) hx hb hts i_Reader hown hK hP 60 (ce_60 _ _ _) cl_5 0 (by decide) (hts _ k_1_166) (fun _ h9 => h9) rfl d_Reader_readName_1 ?_
  refine lv_aload_n hx hb d_Reader_readName_4 rfl (lv_at hl 0 rfl) ?_
  refine va_get (D := D) (ci := 5) (v := .ref (ad 61)) (C := "PageScribe$Reader") (T := F_Reader) (N := 10) hx hb hts i_Reader hown hK hP 60 (ce_60 _ _ _) cl_5 2 (by decide) (hts _ k_1_168) (fun _ h9 => h9) rfl d_Reader_readName_5 ?_
  refine lv_iload_n hx hb d_Reader_readName_8 rfl (lv_at hl 2 rfl) ?_
  refine lv_iload_n hx hb d_Reader_readName_9 rfl (lv_at hl 3 rfl) ?_
  refine jc_ci (w := (fun _ => S)) hK hP hD hS hA (va_runV (As := [.ref (ad 61), .int p1, .int p2]) (rest := []) F (c_Words_find l D T ad g Bq S p1 p2  s.heap.size ⟨i_vst, i_vc0, i_vc1, i_vc2, i_vc3, i_vv0, i_vv1, i_vv2, i_vv3, i_vg, i_wct, i_wln, i_sd0, i_sd1, i_sd2, i_sd3, i_rln, i_rtx, i_rpl, i_rtk, i_cnv, i_pts, i_cik, i_und⟩) (j_cV (k := 3) (C := "PageScribe$Words") hts k_3_150 k_1_4 k_3_147 k_3_148 k_3_149 (by decide +kernel) ⟨Nat.le_of_ble_eq_true rfl, Nat.le_of_ble_eq_true rfl⟩) (j_preV (q0 := 5) (ci := 1) hK hP hD csc csc_all csc_nd cl_1 (ce_5 _ _ _) (fun _ _ _ _ h => EC.calling h) (fun U hU hW => EC.at hS hAB hU hW hE)) rfl rfl hl.1 rfl (lv_room (Nat.le_of_ble_eq_true rfl)) d_Reader_readName_10 ⟨Nat.le_of_ble_eq_true rfl, Nat.le_of_ble_eq_true rfl⟩) (fun rv1 u1 H locs hw1 hP hD hS => ?_)
  have hP : va_P D classes (cW T ad S) H := hP
  have hD : va_D A (cW T ad S) := hD
  have rrv1 := zt_rng rv1
  refine lv_istore (lv' := [(4, .int rv1), (0, .ref (ad 60)), (1, .int p0), (2, .int p1), (3, .int p2)]) hx hb d_Reader_readName_13 hl (by decide) rfl (fun ls hl => ?_)
  refine lv_iload_n hx hb d_Reader_readName_15 rfl (lv_at hl 4 rfl) ?_
  refine lv_if_eq (tgt := 30) hx hb d_Reader_readName_16 (by decide) (fun c16_1 => ?_) (fun c16_1 => ?_)
  · have fc16_1 : p2.toInt = 0 := zt_eq (show p2.toInt = _ from rfl) tI_0 c16_1
    refine lv_bipush (v := 15) hx hb d_Reader_readName_30 (by decide) ?_
    exact j_iret F hr hlocks hK hS S ⟨⟨i_vst, i_vc0, i_vc1, i_vc2, i_vc3, i_vv0, i_vv1, i_vv2, i_vv3, i_vg, i_wct, i_wln, i_sd0, i_sd1, i_sd2, i_sd3, i_rln, i_rtx, i_rpl, i_rtk, i_cnv, i_pts, i_cik, i_und⟩, (kcL_r S), (kcU_r S), (kcW_r S)⟩ hP hD d_Reader_readName_32
  · first | have fc16_1 : p2.toInt < 0 := (by have := zt_ne (show p2.toInt = _ from rfl) tI_0 c16_1; omega) | have fc16_1 : 0 < p2.toInt := (by have := zt_ne (show p2.toInt = _ from rfl) tI_0 c16_1; omega) | skip
    refine lv_iload hx hb d_Reader_readName_19 (lv_at hl 0 rfl) ?_
    refine lv_if_ge (tgt := 33) hx hb d_Reader_readName_21 (by decide) (fun c21_1 => ?_) (fun c21_1 => ?_)
    · have fc21_1 : 0 ≤ rv1.toInt := zt_le tI_0 (show rv1.toInt = _ from rfl) c21_1
      refine lv_iload hx hb d_Reader_readName_33 (lv_at hl 0 rfl) ?_
      refine lv_if_ge (tgt := 53) hx hb d_Reader_readName_35 (by decide) (fun c35_1 => ?_) (fun c35_1 => ?_)
      · have fc35_1 : 0 ≤ rv1.toInt := zt_le tI_0 (show rv1.toInt = _ from rfl) c35_1
        refine lv_iload hx hb d_Reader_readName_53 (lv_at hl 0 rfl) ?_
        refine lv_if_ge (tgt := 61) hx hb d_Reader_readName_55 (by decide) (fun c55_1 => ?_) (fun c55_1 => ?_)
        · have fc55_1 : 0 ≤ rv1.toInt := zt_le tI_0 (show rv1.toInt = _ from rfl) c55_1
          refine lv_aload_n hx hb d_Reader_readName_61 rfl (lv_at hl 1 rfl) ?_
          refine lv_iload_n hx hb d_Reader_readName_62 rfl (lv_at hl 2 rfl) ?_
          refine lv_iload hx hb d_Reader_readName_63 (lv_at hl 0 rfl) ?_
          refine lv_dconst0 hx hb d_Reader_readName_65 ?_
          have := tD_0
          refine jc_cv (w := (fun u => u)) hK hP hD hS hA (va_runV (As := [.int p0, .int rv1, .double 0]) (rest := []) F (c_Reader_giveToken l D T ad S p0 rv1 0  H.size ⟨i_vst, i_vc0, i_vc1, i_vc2, i_vc3, i_vv0, i_vv1, i_vv2, i_vv3, i_vg, i_wct, i_wln, i_sd0, i_sd1, i_sd2, i_sd3, i_rln, i_rtx, i_rpl, i_rtk, i_cnv, i_pts, i_cik, i_und⟩ (show dB 0 by omega)) (j_cV (k := 3) (C := "PageScribe$Reader") hts k_3_112 k_1_7 k_3_109 k_3_111 k_0_4 (by decide +kernel) ⟨Nat.le_of_ble_eq_true rfl, Nat.le_of_ble_eq_true rfl⟩) (j_preV (q0 := 60) (ci := 5) hK hP hD csc csc_all csc_nd cl_5 (ce_60 _ _ _) (fun _ _ _ _ h => h) (fun _ _ _ => trivial)) rfl rfl hl.1 rfl (lv_room (Nat.le_of_ble_eq_true rfl)) d_Reader_readName_66 ⟨Nat.le_of_ble_eq_true rfl, Nat.le_of_ble_eq_true rfl⟩) (fun S1 H locs hw2 hP hD hS => ?_)
          have hP : va_P D classes (cW T ad S1) H := hP
          have hD : va_D A (cW T ad S1) := hD
          obtain ⟨⟨i_vst, i_vc0, i_vc1, i_vc2, i_vc3, i_vv0, i_vv1, i_vv2, i_vv3, i_vg, i_wct, i_wln, i_sd0, i_sd1, i_sd2, i_sd3, i_rln, i_rtx, i_rpl, i_rtk, i_cnv, i_pts, i_cik, i_und⟩, kpcL_S1, kpcU_S1, kpcW_S1, qqhw2⟩ := hw2
          have kScL_S1 : kcL S S1 := kcL_t (show kcL S S from (kcL_r S)) kpcL_S1
          have kScU_S1 : kcU S S1 := kcU_t (show kcU S S from (kcU_r S)) kpcU_S1
          have kScW_S1 : kcW S S1 := kcW_t (show kcW S S from (kcW_r S)) kpcW_S1
          have nxr_length_S1 : (f_xr_length S1).toInt = (f_xr_length S).toInt := congrArg Int32.toInt kpcL_S1
          have nxe_underWay_S1 : (f_xe_underWay S1).toInt = (f_xe_underWay S).toInt := congrArg Int32.toInt kpcU_S1
          have nxp_columns_S1 : (f_xp_columns S1).toInt = (f_xp_columns S).toInt := congrArg Int32.toInt kpcW_S1.1
          have nxp_rows_S1 : (f_xp_rows S1).toInt = (f_xp_rows S).toInt := congrArg Int32.toInt kpcW_S1.2
          have qhw2 : (f_xr_place S1).toInt = (f_xr_place S).toInt := qqhw2
          refine lv_aload_n hx hb d_Reader_readName_69 rfl (lv_at hl 1 rfl) ?_
          refine lv_iload_n hx hb d_Reader_readName_70 rfl (lv_at hl 3 rfl) ?_
          refine lv_iload_n hx hb d_Reader_readName_71 rfl (lv_at hl 4 rfl) ?_
          refine lv_iadd hx hb d_Reader_readName_72 ?_
          refine lv_topi (fun x1 ex1 => ?_)
          have fx1 : x1.toInt = (p1.toInt + p2.toInt) := by rw [ex1]; exact (zt_add (show p1.toInt = _ from rfl) (show p2.toInt = _ from rfl) (by omega) (by omega)).trans (by omega)
          refine va_put (D := D) (ci := 5) (v := .int x1) (ty := .int) (C := "PageScribe$Reader") (T := F_Reader) (N := 10) hx hb hts i_Reader t_Reader t_Reader_ok n_Reader hown hK hP hD hS 60 (ce_60 _ _ _) cl_5 4 (by decide) (hts _ k_1_171) (fun _ h9 => h9) rfl (by decide +kernel) rfl rfl (Nat.le_of_ble_eq_true rfl) d_Reader_readName_73 (fun H locs hP hD hS => ?_)
          rw [cp_xr_place] at hP hD
          have hP : va_P D classes (cW T ad ((S1.1, S1.2.1, S1.2.2.1, S1.2.2.2.1, S1.2.2.2.2.1, S1.2.2.2.2.2.1, ((a_xr_text S1), (f_xr_length S1), x1, (f_xr_tokenKind S1), (f_xr_tokenNumber S1), (f_xr_tokenReal S1), (a_xr_begins S1), (a_xg_k S1), (a_xg_n S1), (a_xg_r S1), (f_xg_z S1)), S1.2.2.2.2.2.2.2.1, S1.2.2.2.2.2.2.2.2) : CS)) H := hP
          have hD : va_D A (cW T ad ((S1.1, S1.2.1, S1.2.2.1, S1.2.2.2.1, S1.2.2.2.2.1, S1.2.2.2.2.2.1, ((a_xr_text S1), (f_xr_length S1), x1, (f_xr_tokenKind S1), (f_xr_tokenNumber S1), (f_xr_tokenReal S1), (a_xr_begins S1), (a_xg_k S1), (a_xg_n S1), (a_xg_r S1), (f_xg_z S1)), S1.2.2.2.2.2.2.2.1, S1.2.2.2.2.2.2.2.2) : CS)) := hD
          refine lv_iconst (v := 0) hx hb d_Reader_readName_76 (by decide) ?_
          exact j_iret F hr hlocks hK hS ((S1.1, S1.2.1, S1.2.2.1, S1.2.2.2.1, S1.2.2.2.2.1, S1.2.2.2.2.2.1, ((a_xr_text S1), (f_xr_length S1), x1, (f_xr_tokenKind S1), (f_xr_tokenNumber S1), (f_xr_tokenReal S1), (a_xr_begins S1), (a_xg_k S1), (a_xg_n S1), (a_xg_r S1), (f_xg_z S1)), S1.2.2.2.2.2.2.2.1, S1.2.2.2.2.2.2.2.2) : CS) ⟨⟨i_vst, i_vc0, i_vc1, i_vc2, i_vc3, i_vv0, i_vv1, i_vv2, i_vv3, i_vg, i_wct, i_wln, i_sd0, i_sd1, i_sd2, i_sd3, i_rln, i_rtx, (show 0 ≤ x1.toInt ∧ x1.toInt ≤ 300 by omega), i_rtk, i_cnv, i_pts, i_cik, i_und⟩, kScL_S1, kScU_S1, kScW_S1⟩ hP hD d_Reader_readName_77
        · have fc55_1 : rv1.toInt < 0 := Int.not_le.mp (zt_nle tI_0 (show rv1.toInt = _ from rfl) c55_1)
          refine lv_bipush (v := 7) hx hb d_Reader_readName_58 (by decide) ?_
          exact j_iret F hr hlocks hK hS S ⟨⟨i_vst, i_vc0, i_vc1, i_vc2, i_vc3, i_vv0, i_vv1, i_vv2, i_vv3, i_vg, i_wct, i_wln, i_sd0, i_sd1, i_sd2, i_sd3, i_rln, i_rtx, i_rpl, i_rtk, i_cnv, i_pts, i_cik, i_und⟩, (kcL_r S), (kcU_r S), (kcW_r S)⟩ hP hD d_Reader_readName_60
      · have fc35_1 : rv1.toInt < 0 := Int.not_le.mp (zt_nle tI_0 (show rv1.toInt = _ from rfl) c35_1)
        refine lv_aload_n hx hb d_Reader_readName_38 rfl (lv_at hl 1 rfl) ?_
        refine va_get (D := D) (ci := 5) (v := .ref (ad 5)) (C := "PageScribe$Reader") (T := F_Reader) (N := 10) hx hb hts i_Reader hown hK hP 60 (ce_60 _ _ _) cl_5 0 (by decide) (hts _ k_1_166) (fun _ h9 => h9) rfl d_Reader_readName_39 ?_
        refine lv_aload_n hx hb d_Reader_readName_42 rfl (lv_at hl 1 rfl) ?_
        refine va_get (D := D) (ci := 5) (v := .ref (ad 61)) (C := "PageScribe$Reader") (T := F_Reader) (N := 10) hx hb hts i_Reader hown hK hP 60 (ce_60 _ _ _) cl_5 2 (by decide) (hts _ k_1_168) (fun _ h9 => h9) rfl d_Reader_readName_43 ?_
        refine lv_iload_n hx hb d_Reader_readName_46 rfl (lv_at hl 3 rfl) ?_
        refine lv_iload_n hx hb d_Reader_readName_47 rfl (lv_at hl 4 rfl) ?_
        refine jc_ci (w := (fun u => u)) hK hP hD hS hA (va_runV (As := [.ref (ad 61), .int p1, .int p2]) (rest := []) F (c_Words_learn l D T ad g Bq S p1 p2  H.size ⟨i_vst, i_vc0, i_vc1, i_vc2, i_vc3, i_vv0, i_vv1, i_vv2, i_vv3, i_vg, i_wct, i_wln, i_sd0, i_sd1, i_sd2, i_sd3, i_rln, i_rtx, i_rpl, i_rtk, i_cnv, i_pts, i_cik, i_und⟩) (j_cV (k := 3) (C := "PageScribe$Words") hts k_3_162 k_1_4 k_3_159 k_3_160 k_3_161 (by decide +kernel) ⟨Nat.le_of_ble_eq_true rfl, Nat.le_of_ble_eq_true rfl⟩) (j_preV (q0 := 5) (ci := 1) hK hP hD csc csc_all csc_nd cl_1 (ce_5 _ _ _) (fun _ _ _ _ h => EC.calling h) (fun U hU hW => EC.at hS hAB hU hW hE)) rfl rfl hl.1 rfl (lv_room (Nat.le_of_ble_eq_true rfl)) d_Reader_readName_48 ⟨Nat.le_of_ble_eq_true rfl, Nat.le_of_ble_eq_true rfl⟩) (fun rv3 S2 H locs hw3 hP hD hS => ?_)
        have hP : va_P D classes (cW T ad S2) H := hP
        have hD : va_D A (cW T ad S2) := hD
        obtain ⟨⟨i_vst, i_vc0, i_vc1, i_vc2, i_vc3, i_vv0, i_vv1, i_vv2, i_vv3, i_vg, i_wct, i_wln, i_sd0, i_sd1, i_sd2, i_sd3, i_rln, i_rtx, i_rpl, i_rtk, i_cnv, i_pts, i_cik, i_und⟩, kpcL_S2, kpcP_S2, kpcU_S2, kpcW_S2⟩ := hw3
        have kScL_S2 : kcL S S2 := kcL_t (show kcL S S from (kcL_r S)) kpcL_S2
        have kScP_S2 : kcP S S2 := kcP_t (show kcP S S from (kcP_r S)) kpcP_S2
        have kScU_S2 : kcU S S2 := kcU_t (show kcU S S from (kcU_r S)) kpcU_S2
        have kScW_S2 : kcW S S2 := kcW_t (show kcW S S from (kcW_r S)) kpcW_S2
        have nxr_length_S2 : (f_xr_length S2).toInt = (f_xr_length S).toInt := congrArg Int32.toInt kpcL_S2
        have nxr_length_S2 : (f_xr_length S2).toInt = (f_xr_length S).toInt := congrArg Int32.toInt kpcP_S2.1
        have nxr_place_S2 : (f_xr_place S2).toInt = (f_xr_place S).toInt := congrArg Int32.toInt kpcP_S2.2.1
        have nxe_underWay_S2 : (f_xe_underWay S2).toInt = (f_xe_underWay S).toInt := congrArg Int32.toInt kpcU_S2
        have nxp_columns_S2 : (f_xp_columns S2).toInt = (f_xp_columns S).toInt := congrArg Int32.toInt kpcW_S2.1
        have nxp_rows_S2 : (f_xp_rows S2).toInt = (f_xp_rows S).toInt := congrArg Int32.toInt kpcW_S2.2
        have rrv3 := zt_rng rv3
        refine lv_istore (lv' := [(4, .int rv3), (0, .ref (ad 60)), (1, .int p0), (2, .int p1), (3, .int p2)]) hx hb d_Reader_readName_51 hl (by decide) rfl (fun ls hl => ?_)
        refine lv_iload hx hb d_Reader_readName_53 (lv_at hl 0 rfl) ?_
        refine lv_if_ge (tgt := 61) hx hb d_Reader_readName_55 (by decide) (fun c55_2 => ?_) (fun c55_2 => ?_)
        · have fc55_2 : 0 ≤ rv3.toInt := zt_le tI_0 (show rv3.toInt = _ from rfl) c55_2
          refine lv_aload_n hx hb d_Reader_readName_61 rfl (lv_at hl 1 rfl) ?_
          refine lv_iload_n hx hb d_Reader_readName_62 rfl (lv_at hl 2 rfl) ?_
          refine lv_iload hx hb d_Reader_readName_63 (lv_at hl 0 rfl) ?_
          refine lv_dconst0 hx hb d_Reader_readName_65 ?_
          have := tD_0
          refine jc_cv (w := (fun u => u)) hK hP hD hS hA (va_runV (As := [.int p0, .int rv3, .double 0]) (rest := []) F (c_Reader_giveToken l D T ad S2 p0 rv3 0  H.size ⟨i_vst, i_vc0, i_vc1, i_vc2, i_vc3, i_vv0, i_vv1, i_vv2, i_vv3, i_vg, i_wct, i_wln, i_sd0, i_sd1, i_sd2, i_sd3, i_rln, i_rtx, i_rpl, i_rtk, i_cnv, i_pts, i_cik, i_und⟩ (show dB 0 by omega)) (j_cV (k := 3) (C := "PageScribe$Reader") hts k_3_112 k_1_7 k_3_109 k_3_111 k_0_4 (by decide +kernel) ⟨Nat.le_of_ble_eq_true rfl, Nat.le_of_ble_eq_true rfl⟩) (j_preV (q0 := 60) (ci := 5) hK hP hD csc csc_all csc_nd cl_5 (ce_60 _ _ _) (fun _ _ _ _ h => h) (fun _ _ _ => trivial)) rfl rfl hl.1 rfl (lv_room (Nat.le_of_ble_eq_true rfl)) d_Reader_readName_66 ⟨Nat.le_of_ble_eq_true rfl, Nat.le_of_ble_eq_true rfl⟩) (fun S3 H locs hw4 hP hD hS => ?_)
          have hP : va_P D classes (cW T ad S3) H := hP
          have hD : va_D A (cW T ad S3) := hD
          obtain ⟨⟨i_vst, i_vc0, i_vc1, i_vc2, i_vc3, i_vv0, i_vv1, i_vv2, i_vv3, i_vg, i_wct, i_wln, i_sd0, i_sd1, i_sd2, i_sd3, i_rln, i_rtx, i_rpl, i_rtk, i_cnv, i_pts, i_cik, i_und⟩, kpcL_S3, kpcU_S3, kpcW_S3, qqhw4⟩ := hw4
          have kScL_S3 : kcL S S3 := kcL_t (show kcL S S2 from kScL_S2) kpcL_S3
          have kScU_S3 : kcU S S3 := kcU_t (show kcU S S2 from kScU_S2) kpcU_S3
          have kScW_S3 : kcW S S3 := kcW_t (show kcW S S2 from kScW_S2) kpcW_S3
          have nxr_length_S3 : (f_xr_length S3).toInt = (f_xr_length S2).toInt := congrArg Int32.toInt kpcL_S3
          have nxe_underWay_S3 : (f_xe_underWay S3).toInt = (f_xe_underWay S2).toInt := congrArg Int32.toInt kpcU_S3
          have nxp_columns_S3 : (f_xp_columns S3).toInt = (f_xp_columns S2).toInt := congrArg Int32.toInt kpcW_S3.1
          have nxp_rows_S3 : (f_xp_rows S3).toInt = (f_xp_rows S2).toInt := congrArg Int32.toInt kpcW_S3.2
          have qhw4 : (f_xr_place S3).toInt = (f_xr_place S2).toInt := qqhw4
          refine lv_aload_n hx hb d_Reader_readName_69 rfl (lv_at hl 1 rfl) ?_
          refine lv_iload_n hx hb d_Reader_readName_70 rfl (lv_at hl 3 rfl) ?_
          refine lv_iload_n hx hb d_Reader_readName_71 rfl (lv_at hl 4 rfl) ?_
          refine lv_iadd hx hb d_Reader_readName_72 ?_
          refine lv_topi (fun x2 ex2 => ?_)
          have fx2 : x2.toInt = (p1.toInt + p2.toInt) := by rw [ex2]; exact (zt_add (show p1.toInt = _ from rfl) (show p2.toInt = _ from rfl) (by omega) (by omega)).trans (by omega)
          refine va_put (D := D) (ci := 5) (v := .int x2) (ty := .int) (C := "PageScribe$Reader") (T := F_Reader) (N := 10) hx hb hts i_Reader t_Reader t_Reader_ok n_Reader hown hK hP hD hS 60 (ce_60 _ _ _) cl_5 4 (by decide) (hts _ k_1_171) (fun _ h9 => h9) rfl (by decide +kernel) rfl rfl (Nat.le_of_ble_eq_true rfl) d_Reader_readName_73 (fun H locs hP hD hS => ?_)
          rw [cp_xr_place] at hP hD
          have hP : va_P D classes (cW T ad ((S3.1, S3.2.1, S3.2.2.1, S3.2.2.2.1, S3.2.2.2.2.1, S3.2.2.2.2.2.1, ((a_xr_text S3), (f_xr_length S3), x2, (f_xr_tokenKind S3), (f_xr_tokenNumber S3), (f_xr_tokenReal S3), (a_xr_begins S3), (a_xg_k S3), (a_xg_n S3), (a_xg_r S3), (f_xg_z S3)), S3.2.2.2.2.2.2.2.1, S3.2.2.2.2.2.2.2.2) : CS)) H := hP
          have hD : va_D A (cW T ad ((S3.1, S3.2.1, S3.2.2.1, S3.2.2.2.1, S3.2.2.2.2.1, S3.2.2.2.2.2.1, ((a_xr_text S3), (f_xr_length S3), x2, (f_xr_tokenKind S3), (f_xr_tokenNumber S3), (f_xr_tokenReal S3), (a_xr_begins S3), (a_xg_k S3), (a_xg_n S3), (a_xg_r S3), (f_xg_z S3)), S3.2.2.2.2.2.2.2.1, S3.2.2.2.2.2.2.2.2) : CS)) := hD
          refine lv_iconst (v := 0) hx hb d_Reader_readName_76 (by decide) ?_
          exact j_iret F hr hlocks hK hS ((S3.1, S3.2.1, S3.2.2.1, S3.2.2.2.1, S3.2.2.2.2.1, S3.2.2.2.2.2.1, ((a_xr_text S3), (f_xr_length S3), x2, (f_xr_tokenKind S3), (f_xr_tokenNumber S3), (f_xr_tokenReal S3), (a_xr_begins S3), (a_xg_k S3), (a_xg_n S3), (a_xg_r S3), (f_xg_z S3)), S3.2.2.2.2.2.2.2.1, S3.2.2.2.2.2.2.2.2) : CS) ⟨⟨i_vst, i_vc0, i_vc1, i_vc2, i_vc3, i_vv0, i_vv1, i_vv2, i_vv3, i_vg, i_wct, i_wln, i_sd0, i_sd1, i_sd2, i_sd3, i_rln, i_rtx, (show 0 ≤ x2.toInt ∧ x2.toInt ≤ 300 by omega), i_rtk, i_cnv, i_pts, i_cik, i_und⟩, kScL_S3, kScU_S3, kScW_S3⟩ hP hD d_Reader_readName_77
        · have fc55_2 : rv3.toInt < 0 := Int.not_le.mp (zt_nle tI_0 (show rv3.toInt = _ from rfl) c55_2)
          refine lv_bipush (v := 7) hx hb d_Reader_readName_58 (by decide) ?_
          exact j_iret F hr hlocks hK hS S2 ⟨⟨i_vst, i_vc0, i_vc1, i_vc2, i_vc3, i_vv0, i_vv1, i_vv2, i_vv3, i_vg, i_wct, i_wln, i_sd0, i_sd1, i_sd2, i_sd3, i_rln, i_rtx, i_rpl, i_rtk, i_cnv, i_pts, i_cik, i_und⟩, kScL_S2, kScU_S2, kScW_S2⟩ hP hD d_Reader_readName_60
    · have fc21_1 : rv1.toInt < 0 := Int.not_le.mp (zt_nle tI_0 (show rv1.toInt = _ from rfl) c21_1)
      refine lv_iload_n hx hb d_Reader_readName_24 rfl (lv_at hl 4 rfl) ?_
      refine lv_bipush (v := 8) hx hb d_Reader_readName_25 (by decide) ?_
      refine lv_icmp_le (tgt := 33) hx hb d_Reader_readName_27 (by decide) (fun c27_1 => ?_) (fun c27_1 => ?_)
      · have fc27_1 : p2.toInt ≤ 8 := zt_le (show p2.toInt = _ from rfl) tI_8 c27_1
        refine lv_iload hx hb d_Reader_readName_33 (lv_at hl 0 rfl) ?_
        refine lv_if_ge (tgt := 53) hx hb d_Reader_readName_35 (by decide) (fun c35_2 => ?_) (fun c35_2 => ?_)
        · have fc35_2 : 0 ≤ rv1.toInt := zt_le tI_0 (show rv1.toInt = _ from rfl) c35_2
          refine lv_iload hx hb d_Reader_readName_53 (lv_at hl 0 rfl) ?_
          refine lv_if_ge (tgt := 61) hx hb d_Reader_readName_55 (by decide) (fun c55_3 => ?_) (fun c55_3 => ?_)
          · have fc55_3 : 0 ≤ rv1.toInt := zt_le tI_0 (show rv1.toInt = _ from rfl) c55_3
            refine lv_aload_n hx hb d_Reader_readName_61 rfl (lv_at hl 1 rfl) ?_
            refine lv_iload_n hx hb d_Reader_readName_62 rfl (lv_at hl 2 rfl) ?_
            refine lv_iload hx hb d_Reader_readName_63 (lv_at hl 0 rfl) ?_
            refine lv_dconst0 hx hb d_Reader_readName_65 ?_
            have := tD_0
            refine jc_cv (w := (fun u => u)) hK hP hD hS hA (va_runV (As := [.int p0, .int rv1, .double 0]) (rest := []) F (c_Reader_giveToken l D T ad S p0 rv1 0  H.size ⟨i_vst, i_vc0, i_vc1, i_vc2, i_vc3, i_vv0, i_vv1, i_vv2, i_vv3, i_vg, i_wct, i_wln, i_sd0, i_sd1, i_sd2, i_sd3, i_rln, i_rtx, i_rpl, i_rtk, i_cnv, i_pts, i_cik, i_und⟩ (show dB 0 by omega)) (j_cV (k := 3) (C := "PageScribe$Reader") hts k_3_112 k_1_7 k_3_109 k_3_111 k_0_4 (by decide +kernel) ⟨Nat.le_of_ble_eq_true rfl, Nat.le_of_ble_eq_true rfl⟩) (j_preV (q0 := 60) (ci := 5) hK hP hD csc csc_all csc_nd cl_5 (ce_60 _ _ _) (fun _ _ _ _ h => h) (fun _ _ _ => trivial)) rfl rfl hl.1 rfl (lv_room (Nat.le_of_ble_eq_true rfl)) d_Reader_readName_66 ⟨Nat.le_of_ble_eq_true rfl, Nat.le_of_ble_eq_true rfl⟩) (fun S4 H locs hw5 hP hD hS => ?_)
            have hP : va_P D classes (cW T ad S4) H := hP
            have hD : va_D A (cW T ad S4) := hD
            obtain ⟨⟨i_vst, i_vc0, i_vc1, i_vc2, i_vc3, i_vv0, i_vv1, i_vv2, i_vv3, i_vg, i_wct, i_wln, i_sd0, i_sd1, i_sd2, i_sd3, i_rln, i_rtx, i_rpl, i_rtk, i_cnv, i_pts, i_cik, i_und⟩, kpcL_S4, kpcU_S4, kpcW_S4, qqhw5⟩ := hw5
            have kScL_S4 : kcL S S4 := kcL_t (show kcL S S from (kcL_r S)) kpcL_S4
            have kScU_S4 : kcU S S4 := kcU_t (show kcU S S from (kcU_r S)) kpcU_S4
            have kScW_S4 : kcW S S4 := kcW_t (show kcW S S from (kcW_r S)) kpcW_S4
            have nxr_length_S4 : (f_xr_length S4).toInt = (f_xr_length S).toInt := congrArg Int32.toInt kpcL_S4
            have nxe_underWay_S4 : (f_xe_underWay S4).toInt = (f_xe_underWay S).toInt := congrArg Int32.toInt kpcU_S4
            have nxp_columns_S4 : (f_xp_columns S4).toInt = (f_xp_columns S).toInt := congrArg Int32.toInt kpcW_S4.1
            have nxp_rows_S4 : (f_xp_rows S4).toInt = (f_xp_rows S).toInt := congrArg Int32.toInt kpcW_S4.2
            have qhw5 : (f_xr_place S4).toInt = (f_xr_place S).toInt := qqhw5
            refine lv_aload_n hx hb d_Reader_readName_69 rfl (lv_at hl 1 rfl) ?_
            refine lv_iload_n hx hb d_Reader_readName_70 rfl (lv_at hl 3 rfl) ?_
            refine lv_iload_n hx hb d_Reader_readName_71 rfl (lv_at hl 4 rfl) ?_
            refine lv_iadd hx hb d_Reader_readName_72 ?_
            refine lv_topi (fun x3 ex3 => ?_)
            have fx3 : x3.toInt = (p1.toInt + p2.toInt) := by rw [ex3]; exact (zt_add (show p1.toInt = _ from rfl) (show p2.toInt = _ from rfl) (by omega) (by omega)).trans (by omega)
            refine va_put (D := D) (ci := 5) (v := .int x3) (ty := .int) (C := "PageScribe$Reader") (T := F_Reader) (N := 10) hx hb hts i_Reader t_Reader t_Reader_ok n_Reader hown hK hP hD hS 60 (ce_60 _ _ _) cl_5 4 (by decide) (hts _ k_1_171) (fun _ h9 => h9) rfl (by decide +kernel) rfl rfl (Nat.le_of_ble_eq_true rfl) d_Reader_readName_73 (fun H locs hP hD hS => ?_)
            rw [cp_xr_place] at hP hD
            have hP : va_P D classes (cW T ad ((S4.1, S4.2.1, S4.2.2.1, S4.2.2.2.1, S4.2.2.2.2.1, S4.2.2.2.2.2.1, ((a_xr_text S4), (f_xr_length S4), x3, (f_xr_tokenKind S4), (f_xr_tokenNumber S4), (f_xr_tokenReal S4), (a_xr_begins S4), (a_xg_k S4), (a_xg_n S4), (a_xg_r S4), (f_xg_z S4)), S4.2.2.2.2.2.2.2.1, S4.2.2.2.2.2.2.2.2) : CS)) H := hP
            have hD : va_D A (cW T ad ((S4.1, S4.2.1, S4.2.2.1, S4.2.2.2.1, S4.2.2.2.2.1, S4.2.2.2.2.2.1, ((a_xr_text S4), (f_xr_length S4), x3, (f_xr_tokenKind S4), (f_xr_tokenNumber S4), (f_xr_tokenReal S4), (a_xr_begins S4), (a_xg_k S4), (a_xg_n S4), (a_xg_r S4), (f_xg_z S4)), S4.2.2.2.2.2.2.2.1, S4.2.2.2.2.2.2.2.2) : CS)) := hD
            refine lv_iconst (v := 0) hx hb d_Reader_readName_76 (by decide) ?_
            exact j_iret F hr hlocks hK hS ((S4.1, S4.2.1, S4.2.2.1, S4.2.2.2.1, S4.2.2.2.2.1, S4.2.2.2.2.2.1, ((a_xr_text S4), (f_xr_length S4), x3, (f_xr_tokenKind S4), (f_xr_tokenNumber S4), (f_xr_tokenReal S4), (a_xr_begins S4), (a_xg_k S4), (a_xg_n S4), (a_xg_r S4), (f_xg_z S4)), S4.2.2.2.2.2.2.2.1, S4.2.2.2.2.2.2.2.2) : CS) ⟨⟨i_vst, i_vc0, i_vc1, i_vc2, i_vc3, i_vv0, i_vv1, i_vv2, i_vv3, i_vg, i_wct, i_wln, i_sd0, i_sd1, i_sd2, i_sd3, i_rln, i_rtx, (show 0 ≤ x3.toInt ∧ x3.toInt ≤ 300 by omega), i_rtk, i_cnv, i_pts, i_cik, i_und⟩, kScL_S4, kScU_S4, kScW_S4⟩ hP hD d_Reader_readName_77
          · have fc55_3 : rv1.toInt < 0 := Int.not_le.mp (zt_nle tI_0 (show rv1.toInt = _ from rfl) c55_3)
            refine lv_bipush (v := 7) hx hb d_Reader_readName_58 (by decide) ?_
            exact j_iret F hr hlocks hK hS S ⟨⟨i_vst, i_vc0, i_vc1, i_vc2, i_vc3, i_vv0, i_vv1, i_vv2, i_vv3, i_vg, i_wct, i_wln, i_sd0, i_sd1, i_sd2, i_sd3, i_rln, i_rtx, i_rpl, i_rtk, i_cnv, i_pts, i_cik, i_und⟩, (kcL_r S), (kcU_r S), (kcW_r S)⟩ hP hD d_Reader_readName_60
        · have fc35_2 : rv1.toInt < 0 := Int.not_le.mp (zt_nle tI_0 (show rv1.toInt = _ from rfl) c35_2)
          refine lv_aload_n hx hb d_Reader_readName_38 rfl (lv_at hl 1 rfl) ?_
          refine va_get (D := D) (ci := 5) (v := .ref (ad 5)) (C := "PageScribe$Reader") (T := F_Reader) (N := 10) hx hb hts i_Reader hown hK hP 60 (ce_60 _ _ _) cl_5 0 (by decide) (hts _ k_1_166) (fun _ h9 => h9) rfl d_Reader_readName_39 ?_
          refine lv_aload_n hx hb d_Reader_readName_42 rfl (lv_at hl 1 rfl) ?_
          refine va_get (D := D) (ci := 5) (v := .ref (ad 61)) (C := "PageScribe$Reader") (T := F_Reader) (N := 10) hx hb hts i_Reader hown hK hP 60 (ce_60 _ _ _) cl_5 2 (by decide) (hts _ k_1_168) (fun _ h9 => h9) rfl d_Reader_readName_43 ?_
          refine lv_iload_n hx hb d_Reader_readName_46 rfl (lv_at hl 3 rfl) ?_
          refine lv_iload_n hx hb d_Reader_readName_47 rfl (lv_at hl 4 rfl) ?_
          refine jc_ci (w := (fun u => u)) hK hP hD hS hA (va_runV (As := [.ref (ad 61), .int p1, .int p2]) (rest := []) F (c_Words_learn l D T ad g Bq S p1 p2  H.size ⟨i_vst, i_vc0, i_vc1, i_vc2, i_vc3, i_vv0, i_vv1, i_vv2, i_vv3, i_vg, i_wct, i_wln, i_sd0, i_sd1, i_sd2, i_sd3, i_rln, i_rtx, i_rpl, i_rtk, i_cnv, i_pts, i_cik, i_und⟩) (j_cV (k := 3) (C := "PageScribe$Words") hts k_3_162 k_1_4 k_3_159 k_3_160 k_3_161 (by decide +kernel) ⟨Nat.le_of_ble_eq_true rfl, Nat.le_of_ble_eq_true rfl⟩) (j_preV (q0 := 5) (ci := 1) hK hP hD csc csc_all csc_nd cl_1 (ce_5 _ _ _) (fun _ _ _ _ h => EC.calling h) (fun U hU hW => EC.at hS hAB hU hW hE)) rfl rfl hl.1 rfl (lv_room (Nat.le_of_ble_eq_true rfl)) d_Reader_readName_48 ⟨Nat.le_of_ble_eq_true rfl, Nat.le_of_ble_eq_true rfl⟩) (fun rv6 S5 H locs hw6 hP hD hS => ?_)
          have hP : va_P D classes (cW T ad S5) H := hP
          have hD : va_D A (cW T ad S5) := hD
          obtain ⟨⟨i_vst, i_vc0, i_vc1, i_vc2, i_vc3, i_vv0, i_vv1, i_vv2, i_vv3, i_vg, i_wct, i_wln, i_sd0, i_sd1, i_sd2, i_sd3, i_rln, i_rtx, i_rpl, i_rtk, i_cnv, i_pts, i_cik, i_und⟩, kpcL_S5, kpcP_S5, kpcU_S5, kpcW_S5⟩ := hw6
          have kScL_S5 : kcL S S5 := kcL_t (show kcL S S from (kcL_r S)) kpcL_S5
          have kScP_S5 : kcP S S5 := kcP_t (show kcP S S from (kcP_r S)) kpcP_S5
          have kScU_S5 : kcU S S5 := kcU_t (show kcU S S from (kcU_r S)) kpcU_S5
          have kScW_S5 : kcW S S5 := kcW_t (show kcW S S from (kcW_r S)) kpcW_S5
          have nxr_length_S5 : (f_xr_length S5).toInt = (f_xr_length S).toInt := congrArg Int32.toInt kpcL_S5
          have nxr_length_S5 : (f_xr_length S5).toInt = (f_xr_length S).toInt := congrArg Int32.toInt kpcP_S5.1
          have nxr_place_S5 : (f_xr_place S5).toInt = (f_xr_place S).toInt := congrArg Int32.toInt kpcP_S5.2.1
          have nxe_underWay_S5 : (f_xe_underWay S5).toInt = (f_xe_underWay S).toInt := congrArg Int32.toInt kpcU_S5
          have nxp_columns_S5 : (f_xp_columns S5).toInt = (f_xp_columns S).toInt := congrArg Int32.toInt kpcW_S5.1
          have nxp_rows_S5 : (f_xp_rows S5).toInt = (f_xp_rows S).toInt := congrArg Int32.toInt kpcW_S5.2
          have rrv6 := zt_rng rv6
          refine lv_istore (lv' := [(4, .int rv6), (0, .ref (ad 60)), (1, .int p0), (2, .int p1), (3, .int p2)]) hx hb d_Reader_readName_51 hl (by decide) rfl (fun ls hl => ?_)
          refine lv_iload hx hb d_Reader_readName_53 (lv_at hl 0 rfl) ?_
          refine lv_if_ge (tgt := 61) hx hb d_Reader_readName_55 (by decide) (fun c55_4 => ?_) (fun c55_4 => ?_)
          · have fc55_4 : 0 ≤ rv6.toInt := zt_le tI_0 (show rv6.toInt = _ from rfl) c55_4
            refine lv_aload_n hx hb d_Reader_readName_61 rfl (lv_at hl 1 rfl) ?_
            refine lv_iload_n hx hb d_Reader_readName_62 rfl (lv_at hl 2 rfl) ?_
            refine lv_iload hx hb d_Reader_readName_63 (lv_at hl 0 rfl) ?_
            refine lv_dconst0 hx hb d_Reader_readName_65 ?_
            have := tD_0
            refine jc_cv (w := (fun u => u)) hK hP hD hS hA (va_runV (As := [.int p0, .int rv6, .double 0]) (rest := []) F (c_Reader_giveToken l D T ad S5 p0 rv6 0  H.size ⟨i_vst, i_vc0, i_vc1, i_vc2, i_vc3, i_vv0, i_vv1, i_vv2, i_vv3, i_vg, i_wct, i_wln, i_sd0, i_sd1, i_sd2, i_sd3, i_rln, i_rtx, i_rpl, i_rtk, i_cnv, i_pts, i_cik, i_und⟩ (show dB 0 by omega)) (j_cV (k := 3) (C := "PageScribe$Reader") hts k_3_112 k_1_7 k_3_109 k_3_111 k_0_4 (by decide +kernel) ⟨Nat.le_of_ble_eq_true rfl, Nat.le_of_ble_eq_true rfl⟩) (j_preV (q0 := 60) (ci := 5) hK hP hD csc csc_all csc_nd cl_5 (ce_60 _ _ _) (fun _ _ _ _ h => h) (fun _ _ _ => trivial)) rfl rfl hl.1 rfl (lv_room (Nat.le_of_ble_eq_true rfl)) d_Reader_readName_66 ⟨Nat.le_of_ble_eq_true rfl, Nat.le_of_ble_eq_true rfl⟩) (fun S6 H locs hw7 hP hD hS => ?_)
            have hP : va_P D classes (cW T ad S6) H := hP
            have hD : va_D A (cW T ad S6) := hD
            obtain ⟨⟨i_vst, i_vc0, i_vc1, i_vc2, i_vc3, i_vv0, i_vv1, i_vv2, i_vv3, i_vg, i_wct, i_wln, i_sd0, i_sd1, i_sd2, i_sd3, i_rln, i_rtx, i_rpl, i_rtk, i_cnv, i_pts, i_cik, i_und⟩, kpcL_S6, kpcU_S6, kpcW_S6, qqhw7⟩ := hw7
            have kScL_S6 : kcL S S6 := kcL_t (show kcL S S5 from kScL_S5) kpcL_S6
            have kScU_S6 : kcU S S6 := kcU_t (show kcU S S5 from kScU_S5) kpcU_S6
            have kScW_S6 : kcW S S6 := kcW_t (show kcW S S5 from kScW_S5) kpcW_S6
            have nxr_length_S6 : (f_xr_length S6).toInt = (f_xr_length S5).toInt := congrArg Int32.toInt kpcL_S6
            have nxe_underWay_S6 : (f_xe_underWay S6).toInt = (f_xe_underWay S5).toInt := congrArg Int32.toInt kpcU_S6
            have nxp_columns_S6 : (f_xp_columns S6).toInt = (f_xp_columns S5).toInt := congrArg Int32.toInt kpcW_S6.1
            have nxp_rows_S6 : (f_xp_rows S6).toInt = (f_xp_rows S5).toInt := congrArg Int32.toInt kpcW_S6.2
            have qhw7 : (f_xr_place S6).toInt = (f_xr_place S5).toInt := qqhw7
            refine lv_aload_n hx hb d_Reader_readName_69 rfl (lv_at hl 1 rfl) ?_
            refine lv_iload_n hx hb d_Reader_readName_70 rfl (lv_at hl 3 rfl) ?_
            refine lv_iload_n hx hb d_Reader_readName_71 rfl (lv_at hl 4 rfl) ?_
            refine lv_iadd hx hb d_Reader_readName_72 ?_
            refine lv_topi (fun x4 ex4 => ?_)
            have fx4 : x4.toInt = (p1.toInt + p2.toInt) := by rw [ex4]; exact (zt_add (show p1.toInt = _ from rfl) (show p2.toInt = _ from rfl) (by omega) (by omega)).trans (by omega)
            refine va_put (D := D) (ci := 5) (v := .int x4) (ty := .int) (C := "PageScribe$Reader") (T := F_Reader) (N := 10) hx hb hts i_Reader t_Reader t_Reader_ok n_Reader hown hK hP hD hS 60 (ce_60 _ _ _) cl_5 4 (by decide) (hts _ k_1_171) (fun _ h9 => h9) rfl (by decide +kernel) rfl rfl (Nat.le_of_ble_eq_true rfl) d_Reader_readName_73 (fun H locs hP hD hS => ?_)
            rw [cp_xr_place] at hP hD
            have hP : va_P D classes (cW T ad ((S6.1, S6.2.1, S6.2.2.1, S6.2.2.2.1, S6.2.2.2.2.1, S6.2.2.2.2.2.1, ((a_xr_text S6), (f_xr_length S6), x4, (f_xr_tokenKind S6), (f_xr_tokenNumber S6), (f_xr_tokenReal S6), (a_xr_begins S6), (a_xg_k S6), (a_xg_n S6), (a_xg_r S6), (f_xg_z S6)), S6.2.2.2.2.2.2.2.1, S6.2.2.2.2.2.2.2.2) : CS)) H := hP
            have hD : va_D A (cW T ad ((S6.1, S6.2.1, S6.2.2.1, S6.2.2.2.1, S6.2.2.2.2.1, S6.2.2.2.2.2.1, ((a_xr_text S6), (f_xr_length S6), x4, (f_xr_tokenKind S6), (f_xr_tokenNumber S6), (f_xr_tokenReal S6), (a_xr_begins S6), (a_xg_k S6), (a_xg_n S6), (a_xg_r S6), (f_xg_z S6)), S6.2.2.2.2.2.2.2.1, S6.2.2.2.2.2.2.2.2) : CS)) := hD
            refine lv_iconst (v := 0) hx hb d_Reader_readName_76 (by decide) ?_
            exact j_iret F hr hlocks hK hS ((S6.1, S6.2.1, S6.2.2.1, S6.2.2.2.1, S6.2.2.2.2.1, S6.2.2.2.2.2.1, ((a_xr_text S6), (f_xr_length S6), x4, (f_xr_tokenKind S6), (f_xr_tokenNumber S6), (f_xr_tokenReal S6), (a_xr_begins S6), (a_xg_k S6), (a_xg_n S6), (a_xg_r S6), (f_xg_z S6)), S6.2.2.2.2.2.2.2.1, S6.2.2.2.2.2.2.2.2) : CS) ⟨⟨i_vst, i_vc0, i_vc1, i_vc2, i_vc3, i_vv0, i_vv1, i_vv2, i_vv3, i_vg, i_wct, i_wln, i_sd0, i_sd1, i_sd2, i_sd3, i_rln, i_rtx, (show 0 ≤ x4.toInt ∧ x4.toInt ≤ 300 by omega), i_rtk, i_cnv, i_pts, i_cik, i_und⟩, kScL_S6, kScU_S6, kScW_S6⟩ hP hD d_Reader_readName_77
          · have fc55_4 : rv6.toInt < 0 := Int.not_le.mp (zt_nle tI_0 (show rv6.toInt = _ from rfl) c55_4)
            refine lv_bipush (v := 7) hx hb d_Reader_readName_58 (by decide) ?_
            exact j_iret F hr hlocks hK hS S5 ⟨⟨i_vst, i_vc0, i_vc1, i_vc2, i_vc3, i_vv0, i_vv1, i_vv2, i_vv3, i_vg, i_wct, i_wln, i_sd0, i_sd1, i_sd2, i_sd3, i_rln, i_rtx, i_rpl, i_rtk, i_cnv, i_pts, i_cik, i_und⟩, kScL_S5, kScU_S5, kScW_S5⟩ hP hD d_Reader_readName_60
      · have fc27_1 : 8 < p2.toInt := Int.not_le.mp (zt_nle (show p2.toInt = _ from rfl) tI_8 c27_1)
        refine lv_bipush (v := 15) hx hb d_Reader_readName_30 (by decide) ?_
        exact j_iret F hr hlocks hK hS S ⟨⟨i_vst, i_vc0, i_vc1, i_vc2, i_vc3, i_vv0, i_vv1, i_vv2, i_vv3, i_vg, i_wct, i_wln, i_sd0, i_sd1, i_sd2, i_sd3, i_rln, i_rtx, i_rpl, i_rtk, i_cnv, i_pts, i_cik, i_und⟩, (kcL_r S), (kcU_r S), (kcW_r S)⟩ hP hD d_Reader_readName_32
theorem d_Reader_readPlain_0 : decode prog_7_method_10_code 0 = .ok (.aload_n 0, 1) := by decide +kernel
theorem d_Reader_readPlain_1 : decode prog_7_method_10_code 1 = .ok (.aload_n 0, 1) := by decide +kernel
theorem d_Reader_readPlain_2 : decode prog_7_method_10_code 2 = .ok (.getfield 19, 3) := by decide +kernel
theorem d_Reader_readPlain_5 : decode prog_7_method_10_code 5 = .ok (.invokevirtual 53, 3) := by decide +kernel
theorem d_Reader_readPlain_8 : decode prog_7_method_10_code 8 = .ok (.istore_n 1, 1) := by decide +kernel
theorem d_Reader_readPlain_9 : decode prog_7_method_10_code 9 = .ok (.iload_n 1, 1) := by decide +kernel
theorem d_Reader_readPlain_10 : decode prog_7_method_10_code 10 = .ok (.bipush 45, 2) := by decide +kernel
theorem d_Reader_readPlain_12 : decode prog_7_method_10_code 12 = .ok (.if_icmp .eq 10, 3) := by decide +kernel
theorem d_Reader_readPlain_22 : decode prog_7_method_10_code 22 = .ok (.aload_n 0, 1) := by decide +kernel
theorem d_Reader_readPlain_23 : decode prog_7_method_10_code 23 = .ok (.invokevirtual 93, 3) := by decide +kernel
theorem k_3_123 : Cond.code ⟨"PageScribe$Reader", "readNumber", "()I"⟩ prog_7_method_12_code 9 (some .int) ∈ gw := gw_of (tb_3 (List.mem_of_getElem? (i := 123) (by decide +kernel))) (by decide +kernel)
theorem k_3_120 : Cond.methodLink "PageScribe$Reader" 93 ⟨"PageScribe$Reader", "readNumber", "()I"⟩ ∈ gw := gw_of (tb_3 (List.mem_of_getElem? (i := 120) (by decide +kernel))) (by decide +kernel)
theorem k_3_122 : Cond.instanceMethod ⟨"PageScribe$Reader", "readNumber", "()I"⟩ ∈ gw := gw_of (tb_3 (List.mem_of_getElem? (i := 122) (by decide +kernel))) (by decide +kernel)
theorem k_0_6 : Cond.selects "PageScribe$Reader" ⟨"PageScribe$Reader", "readNumber", "()I"⟩ ⟨"PageScribe$Reader", "readNumber", "()I"⟩ ∈ gw := gw_of (tb_0 (List.mem_of_getElem? (i := 6) (by decide +kernel))) (by decide +kernel)
theorem d_Reader_readPlain_26 : decode prog_7_method_10_code 26 = .ok (.ireturn, 1) := by decide +kernel
theorem d_Reader_readPlain_15 : decode prog_7_method_10_code 15 = .ok (.iload_n 1, 1) := by decide +kernel
theorem d_Reader_readPlain_16 : decode prog_7_method_10_code 16 = .ok (.invokestatic 89, 3) := by decide +kernel
theorem d_Reader_readPlain_19 : decode prog_7_method_10_code 19 = .ok (.ifCond .eq 8, 3) := by decide +kernel
theorem d_Reader_readPlain_27 : decode prog_7_method_10_code 27 = .ok (.iload_n 1, 1) := by decide +kernel
theorem d_Reader_readPlain_28 : decode prog_7_method_10_code 28 = .ok (.bipush 47, 2) := by decide +kernel
theorem d_Reader_readPlain_30 : decode prog_7_method_10_code 30 = .ok (.if_icmp .ne 25, 3) := by decide +kernel
theorem d_Reader_readPlain_55 : decode prog_7_method_10_code 55 = .ok (.iload_n 1, 1) := by decide +kernel
theorem d_Reader_readPlain_56 : decode prog_7_method_10_code 56 = .ok (.bipush 91, 2) := by decide +kernel
theorem d_Reader_readPlain_58 : decode prog_7_method_10_code 58 = .ok (.if_icmp .eq 9, 3) := by decide +kernel
theorem d_Reader_readPlain_67 : decode prog_7_method_10_code 67 = .ok (.aload_n 0, 1) := by decide +kernel
theorem d_Reader_readPlain_68 : decode prog_7_method_10_code 68 = .ok (.bipush 11, 2) := by decide +kernel
theorem d_Reader_readPlain_70 : decode prog_7_method_10_code 70 = .ok (.aload_n 0, 1) := by decide +kernel
theorem d_Reader_readPlain_71 : decode prog_7_method_10_code 71 = .ok (.getfield 19, 3) := by decide +kernel
theorem d_Reader_readPlain_74 : decode prog_7_method_10_code 74 = .ok (.iconst 1, 1) := by decide +kernel
theorem d_Reader_readPlain_75 : decode prog_7_method_10_code 75 = .ok (.invokevirtual 99, 3) := by decide +kernel
theorem k_3_146 : Cond.code ⟨"PageScribe$Reader", "readName", "(III)I"⟩ prog_7_method_11_code 5 (some .int) ∈ gw := gw_of (tb_3 (List.mem_of_getElem? (i := 146) (by decide +kernel))) (by decide +kernel)
theorem k_3_143 : Cond.methodLink "PageScribe$Reader" 99 ⟨"PageScribe$Reader", "readName", "(III)I"⟩ ∈ gw := gw_of (tb_3 (List.mem_of_getElem? (i := 143) (by decide +kernel))) (by decide +kernel)
theorem k_3_145 : Cond.instanceMethod ⟨"PageScribe$Reader", "readName", "(III)I"⟩ ∈ gw := gw_of (tb_3 (List.mem_of_getElem? (i := 145) (by decide +kernel))) (by decide +kernel)
theorem k_0_10 : Cond.selects "PageScribe$Reader" ⟨"PageScribe$Reader", "readName", "(III)I"⟩ ⟨"PageScribe$Reader", "readName", "(III)I"⟩ ∈ gw := gw_of (tb_0 (List.mem_of_getElem? (i := 10) (by decide +kernel))) (by decide +kernel)
theorem d_Reader_readPlain_78 : decode prog_7_method_10_code 78 = .ok (.ireturn, 1) := by decide +kernel
theorem d_Reader_readPlain_61 : decode prog_7_method_10_code 61 = .ok (.iload_n 1, 1) := by decide +kernel
theorem d_Reader_readPlain_62 : decode prog_7_method_10_code 62 = .ok (.bipush 93, 2) := by decide +kernel
theorem d_Reader_readPlain_64 : decode prog_7_method_10_code 64 = .ok (.if_icmp .ne 15, 3) := by decide +kernel
theorem d_Reader_readPlain_79 : decode prog_7_method_10_code 79 = .ok (.aload_n 0, 1) := by decide +kernel
theorem d_Reader_readPlain_80 : decode prog_7_method_10_code 80 = .ok (.bipush 11, 2) := by decide +kernel
theorem d_Reader_readPlain_82 : decode prog_7_method_10_code 82 = .ok (.aload_n 0, 1) := by decide +kernel
theorem d_Reader_readPlain_83 : decode prog_7_method_10_code 83 = .ok (.getfield 19, 3) := by decide +kernel
theorem d_Reader_readPlain_86 : decode prog_7_method_10_code 86 = .ok (.aload_n 0, 1) := by decide +kernel
theorem d_Reader_readPlain_87 : decode prog_7_method_10_code 87 = .ok (.aload_n 0, 1) := by decide +kernel
theorem d_Reader_readPlain_88 : decode prog_7_method_10_code 88 = .ok (.getfield 19, 3) := by decide +kernel
theorem d_Reader_readPlain_91 : decode prog_7_method_10_code 91 = .ok (.invokevirtual 96, 3) := by decide +kernel
theorem k_3_142 : Cond.code ⟨"PageScribe$Reader", "lettersFrom", "(I)I"⟩ prog_7_method_16_code 3 (some .int) ∈ gw := gw_of (tb_3 (List.mem_of_getElem? (i := 142) (by decide +kernel))) (by decide +kernel)
theorem k_3_139 : Cond.methodLink "PageScribe$Reader" 96 ⟨"PageScribe$Reader", "lettersFrom", "(I)I"⟩ ∈ gw := gw_of (tb_3 (List.mem_of_getElem? (i := 139) (by decide +kernel))) (by decide +kernel)
theorem k_3_141 : Cond.instanceMethod ⟨"PageScribe$Reader", "lettersFrom", "(I)I"⟩ ∈ gw := gw_of (tb_3 (List.mem_of_getElem? (i := 141) (by decide +kernel))) (by decide +kernel)
theorem k_0_9 : Cond.selects "PageScribe$Reader" ⟨"PageScribe$Reader", "lettersFrom", "(I)I"⟩ ⟨"PageScribe$Reader", "lettersFrom", "(I)I"⟩ ∈ gw := gw_of (tb_0 (List.mem_of_getElem? (i := 9) (by decide +kernel))) (by decide +kernel)
theorem d_Reader_readPlain_94 : decode prog_7_method_10_code 94 = .ok (.invokevirtual 99, 3) := by decide +kernel
theorem d_Reader_readPlain_97 : decode prog_7_method_10_code 97 = .ok (.ireturn, 1) := by decide +kernel
theorem d_Reader_readPlain_33 : decode prog_7_method_10_code 33 = .ok (.aload_n 0, 1) := by decide +kernel
theorem d_Reader_readPlain_34 : decode prog_7_method_10_code 34 = .ok (.iconst 3, 1) := by decide +kernel
theorem d_Reader_readPlain_35 : decode prog_7_method_10_code 35 = .ok (.aload_n 0, 1) := by decide +kernel
theorem d_Reader_readPlain_36 : decode prog_7_method_10_code 36 = .ok (.getfield 19, 3) := by decide +kernel
theorem d_Reader_readPlain_39 : decode prog_7_method_10_code 39 = .ok (.iconst 1, 1) := by decide +kernel
theorem d_Reader_readPlain_40 : decode prog_7_method_10_code 40 = .ok (.iadd, 1) := by decide +kernel
theorem d_Reader_readPlain_41 : decode prog_7_method_10_code 41 = .ok (.aload_n 0, 1) := by decide +kernel
theorem d_Reader_readPlain_42 : decode prog_7_method_10_code 42 = .ok (.aload_n 0, 1) := by decide +kernel
theorem d_Reader_readPlain_43 : decode prog_7_method_10_code 43 = .ok (.getfield 19, 3) := by decide +kernel
theorem d_Reader_readPlain_46 : decode prog_7_method_10_code 46 = .ok (.iconst 1, 1) := by decide +kernel
theorem d_Reader_readPlain_47 : decode prog_7_method_10_code 47 = .ok (.iadd, 1) := by decide +kernel
theorem d_Reader_readPlain_48 : decode prog_7_method_10_code 48 = .ok (.invokevirtual 96, 3) := by decide +kernel
theorem d_Reader_readPlain_51 : decode prog_7_method_10_code 51 = .ok (.invokevirtual 99, 3) := by decide +kernel
theorem d_Reader_readPlain_54 : decode prog_7_method_10_code 54 = .ok (.ireturn, 1) := by decide +kernel
set_option maxHeartbeats 4000000 in
set_option maxRecDepth 100000 in
theorem c_Reader_readPlain (l : Launch) (D : va_G) (T : Nat → ClassId) (ad : Nat → Nat) (g : GE) (Bq : Nat → Prop) (S : CS)  (sz : Nat)  (hI : CIv S) (h1 : 0 ≤ (f_xr_place S).toInt ∧ (f_xr_place S).toInt < (f_xr_length S).toInt) : Met l ⟨"PageScribe$Reader", "readPlain", "()I"⟩ (wy ⟨"PageScribe$Reader", "readPlain", "()I"⟩ prog_7_method_10_code 2 (some .int)) ({ frames := 7, cells := 0, slots := 0, locals := 490 }) (va_Pc [.ref (ad 60)] (Pw D T (cW T ad S) sz (EC g Bq ad))) (va_Qi (fun (r : Int32) (u : CS) => CIv u ∧ kcL S u ∧ kcU S u ∧ kcW S u) (fun u t => Bw D T (va_A (cW T ad S) sz) (cW T ad u) t) (va_A (cW T ad S) sz)) 0 0 (va_A (cW T ad S) sz) := by
  refine j_met (y := ⟨"PageScribe$Reader", "readPlain", "()I"⟩) (b := prog_7_method_10_code) (n := 2) (ret := (some .int)) (av := [.ref (ad 60)]) (Qc := fun A => va_Qi (fun (r : Int32) (u : CS) => CIv u ∧ kcL S u ∧ kcU S u ∧ kcW S u) (fun u t => Bw D T A (cW T ad u) t) A) (by decide +kernel) (Nat.le_of_ble_eq_true rfl) (fun p e s m args below meth c A ls F hr hlocks hnm hK hP hD hS hA hN hE hl => ?_)
  obtain ⟨hx, hb, hml, hown, hts⟩ := id F
  have hl : lv_has ls 2 [(0, .ref (ad 60))] := hl
  obtain ⟨i_vst, i_vc0, i_vc1, i_vc2, i_vc3, i_vv0, i_vv1, i_vv2, i_vv3, i_vg, i_wct, i_wln, i_sd0, i_sd1, i_sd2, i_sd3, i_rln, i_rtx, i_rpl, i_rtk, i_cnv, i_pts, i_cik, i_und⟩ := id hI
  have hAB : ∀ q, A q → Bq q := EC.ab hE hN
  have hEV := hE.1.narrow hAB
  refine lv_aload_n hx hb d_Reader_readPlain_0 rfl (lv_at hl 0 rfl) ?_
  refine lv_aload_n hx hb d_Reader_readPlain_1 rfl (lv_at hl 0 rfl) ?_
  refine va_get (D := D) (ci := 5) (v := .int (f_xr_place S)) (C := "PageScribe$Reader") (T := F_Reader) (N := 10) hx hb hts i_Reader hown hK hP 60 (ce_60 _ _ _) cl_5 4 (by decide) (hts _ k_1_171) (fun _ h9 => h9) rfl d_Reader_readPlain_2 ?_
  refine jc_ci (w := (fun _ => S)) hK hP hD hS hA (va_runV (As := [.int (f_xr_place S)]) (rest := []) F (c_Reader_charAt l D T ad S (f_xr_place S)  s.heap.size ⟨i_vst, i_vc0, i_vc1, i_vc2, i_vc3, i_vv0, i_vv1, i_vv2, i_vv3, i_vg, i_wct, i_wln, i_sd0, i_sd1, i_sd2, i_sd3, i_rln, i_rtx, i_rpl, i_rtk, i_cnv, i_pts, i_cik, i_und⟩) (j_cV (k := 1) (C := "PageScribe$Reader") hts k_3_73 k_1_7 k_3_70 k_3_72 k_0_1 (by decide +kernel) ⟨Nat.le_of_ble_eq_true rfl, Nat.le_of_ble_eq_true rfl⟩) (j_preV (q0 := 60) (ci := 5) hK hP hD csc csc_all csc_nd cl_5 (ce_60 _ _ _) (fun _ _ _ _ h => h) (fun _ _ _ => trivial)) rfl rfl hl.1 rfl (lv_room (Nat.le_of_ble_eq_true rfl)) d_Reader_readPlain_5 ⟨Nat.le_of_ble_eq_true rfl, Nat.le_of_ble_eq_true rfl⟩) (fun rv1 u1 H locs hw1 hP hD hS => ?_)
  have hP : va_P D classes (cW T ad S) H := hP
  have hD : va_D A (cW T ad S) := hD
  have qhw1 : 0 ≤ rv1.toInt ∧ rv1.toInt ≤ 127 ∧ (rv1.toInt = 0 ∨ (0 ≤ (f_xr_place S).toInt ∧ (f_xr_place S).toInt < (f_xr_length S).toInt ∧ rv1.toInt = ((a_xr_text S) (f_xr_place S).toInt.toNat).toInt)) := hw1
  have rrv1 := zt_rng rv1
  refine lv_istore_n (lv' := [(1, .int rv1), (0, .ref (ad 60))]) hx hb d_Reader_readPlain_8 rfl hl (by decide) rfl (fun ls hl => ?_)
  refine lv_iload_n hx hb d_Reader_readPlain_9 rfl (lv_at hl 0 rfl) ?_
  refine lv_bipush (v := 45) hx hb d_Reader_readPlain_10 (by decide) ?_
  refine lv_icmp_eq (tgt := 22) hx hb d_Reader_readPlain_12 (by decide) (fun c12_1 => ?_) (fun c12_1 => ?_)
  · have fc12_1 : rv1.toInt = 45 := zt_eq (show rv1.toInt = _ from rfl) tI_45 c12_1
    refine lv_aload_n hx hb d_Reader_readPlain_22 rfl (lv_at hl 1 rfl) ?_
    refine jc_ci (w := (fun u => u)) hK hP hD hS hA (va_runV (As := []) (rest := []) F (c_Reader_readNumber l D T ad S  H.size ⟨i_vst, i_vc0, i_vc1, i_vc2, i_vc3, i_vv0, i_vv1, i_vv2, i_vv3, i_vg, i_wct, i_wln, i_sd0, i_sd1, i_sd2, i_sd3, i_rln, i_rtx, i_rpl, i_rtk, i_cnv, i_pts, i_cik, i_und⟩ (show 0 ≤ (f_xr_place S).toInt ∧ (f_xr_place S).toInt < (f_xr_length S).toInt by omega)) (j_cV (k := 0) (C := "PageScribe$Reader") hts k_3_123 k_1_7 k_3_120 k_3_122 k_0_6 (by decide +kernel) ⟨Nat.le_of_ble_eq_true rfl, Nat.le_of_ble_eq_true rfl⟩) (j_preV (q0 := 60) (ci := 5) hK hP hD csc csc_all csc_nd cl_5 (ce_60 _ _ _) (fun _ _ _ _ h => h) (fun _ _ _ => trivial)) rfl rfl hl.1 rfl (lv_room (Nat.le_of_ble_eq_true rfl)) d_Reader_readPlain_23 ⟨Nat.le_of_ble_eq_true rfl, Nat.le_of_ble_eq_true rfl⟩) (fun rv2 S1 H locs hw2 hP hD hS => ?_)
    have hP : va_P D classes (cW T ad S1) H := hP
    have hD : va_D A (cW T ad S1) := hD
    obtain ⟨⟨i_vst, i_vc0, i_vc1, i_vc2, i_vc3, i_vv0, i_vv1, i_vv2, i_vv3, i_vg, i_wct, i_wln, i_sd0, i_sd1, i_sd2, i_sd3, i_rln, i_rtx, i_rpl, i_rtk, i_cnv, i_pts, i_cik, i_und⟩, kpcL_S1, kpcU_S1, kpcW_S1⟩ := hw2
    have kScL_S1 : kcL S S1 := kcL_t (show kcL S S from (kcL_r S)) kpcL_S1
    have kScU_S1 : kcU S S1 := kcU_t (show kcU S S from (kcU_r S)) kpcU_S1
    have kScW_S1 : kcW S S1 := kcW_t (show kcW S S from (kcW_r S)) kpcW_S1
    have nxr_length_S1 : (f_xr_length S1).toInt = (f_xr_length S).toInt := congrArg Int32.toInt kpcL_S1
    have nxe_underWay_S1 : (f_xe_underWay S1).toInt = (f_xe_underWay S).toInt := congrArg Int32.toInt kpcU_S1
    have nxp_columns_S1 : (f_xp_columns S1).toInt = (f_xp_columns S).toInt := congrArg Int32.toInt kpcW_S1.1
    have nxp_rows_S1 : (f_xp_rows S1).toInt = (f_xp_rows S).toInt := congrArg Int32.toInt kpcW_S1.2
    have rrv2 := zt_rng rv2
    exact j_iret F hr hlocks hK hS S1 ⟨⟨i_vst, i_vc0, i_vc1, i_vc2, i_vc3, i_vv0, i_vv1, i_vv2, i_vv3, i_vg, i_wct, i_wln, i_sd0, i_sd1, i_sd2, i_sd3, i_rln, i_rtx, i_rpl, i_rtk, i_cnv, i_pts, i_cik, i_und⟩, kScL_S1, kScU_S1, kScW_S1⟩ hP hD d_Reader_readPlain_26
  · first | have fc12_1 : rv1.toInt < 45 := (by have := zt_ne (show rv1.toInt = _ from rfl) tI_45 c12_1; omega) | have fc12_1 : 45 < rv1.toInt := (by have := zt_ne (show rv1.toInt = _ from rfl) tI_45 c12_1; omega) | skip
    refine lv_iload_n hx hb d_Reader_readPlain_15 rfl (lv_at hl 0 rfl) ?_
    refine j_ci (wc := []) (wr := (cW T ad S)) hK hP hD hS hA [] csc rfl csc_all csc_nd (fun _ _ => List.not_mem_nil) (va_runS (As := [.int rv1]) (rest := []) F (c_Reader_isDigit l D T rv1  H.size) (j_cS (k := 1) hts k_3_119 k_1_7 k_3_117 k_3_118 (by decide +kernel) ⟨Nat.le_of_ble_eq_true rfl, Nat.le_of_ble_eq_true rfl⟩) (j_preS hK hP hD [] rfl (by decide) (fun _ _ _ _ h => h) (fun _ _ _ => trivial)) rfl rfl hl.1 rfl (lv_room (Nat.le_of_ble_eq_true rfl)) d_Reader_readPlain_16 ⟨Nat.le_of_ble_eq_true rfl, Nat.le_of_ble_eq_true rfl⟩) (fun rv3 u2 H locs hw3 hP hD hS => ?_)
    have hP : va_P D classes (cW T ad S) H := hP
    have hD : va_D A (cW T ad S) := hD
    have qhw3 : rv3.toInt = 0 ∨ rv3.toInt = 1 := hw3
    have rrv3 := zt_rng rv3
    refine lv_if_eq (tgt := 27) hx hb d_Reader_readPlain_19 (by decide) (fun c19_1 => ?_) (fun c19_1 => ?_)
    · have fc19_1 : rv3.toInt = 0 := zt_eq (show rv3.toInt = _ from rfl) tI_0 c19_1
      refine lv_iload_n hx hb d_Reader_readPlain_27 rfl (lv_at hl 0 rfl) ?_
      refine lv_bipush (v := 47) hx hb d_Reader_readPlain_28 (by decide) ?_
      refine lv_icmp_ne (tgt := 55) hx hb d_Reader_readPlain_30 (by decide) (fun c30_1 => ?_) (fun c30_1 => ?_)
      · first | have fc30_1 : rv1.toInt < 47 := (by have := zt_ne (show rv1.toInt = _ from rfl) tI_47 c30_1; omega) | have fc30_1 : 47 < rv1.toInt := (by have := zt_ne (show rv1.toInt = _ from rfl) tI_47 c30_1; omega) | skip
        refine lv_iload_n hx hb d_Reader_readPlain_55 rfl (lv_at hl 0 rfl) ?_
        refine lv_bipush (v := 91) hx hb d_Reader_readPlain_56 (by decide) ?_
        refine lv_icmp_eq (tgt := 67) hx hb d_Reader_readPlain_58 (by decide) (fun c58_1 => ?_) (fun c58_1 => ?_)
        · have fc58_1 : rv1.toInt = 91 := zt_eq (show rv1.toInt = _ from rfl) tI_91 c58_1
          refine lv_aload_n hx hb d_Reader_readPlain_67 rfl (lv_at hl 1 rfl) ?_
          refine lv_bipush (v := 11) hx hb d_Reader_readPlain_68 (by decide) ?_
          refine lv_aload_n hx hb d_Reader_readPlain_70 rfl (lv_at hl 1 rfl) ?_
          refine va_get (D := D) (ci := 5) (v := .int (f_xr_place S)) (C := "PageScribe$Reader") (T := F_Reader) (N := 10) hx hb hts i_Reader hown hK hP 60 (ce_60 _ _ _) cl_5 4 (by decide) (hts _ k_1_171) (fun _ h9 => h9) rfl d_Reader_readPlain_71 ?_
          refine lv_iconst (v := 1) hx hb d_Reader_readPlain_74 (by decide) ?_
          refine jc_ci (w := (fun u => u)) hK hP hD hS hA (va_runV (As := [.int 11, .int (f_xr_place S), .int 1]) (rest := []) F (c_Reader_readName l D T ad g Bq S (11 : Int32) (f_xr_place S) (1 : Int32)  H.size ⟨i_vst, i_vc0, i_vc1, i_vc2, i_vc3, i_vv0, i_vv1, i_vv2, i_vv3, i_vg, i_wct, i_wln, i_sd0, i_sd1, i_sd2, i_sd3, i_rln, i_rtx, i_rpl, i_rtk, i_cnv, i_pts, i_cik, i_und⟩ (show 0 ≤ (f_xr_place S).toInt ∧ 0 ≤ (1 : Int32).toInt ∧ (f_xr_place S).toInt + (1 : Int32).toInt ≤ 300 by have := tI_11; have := tI_1; omega)) (j_cV (k := 3) (C := "PageScribe$Reader") hts k_3_146 k_1_7 k_3_143 k_3_145 k_0_10 (by decide +kernel) ⟨Nat.le_of_ble_eq_true rfl, Nat.le_of_ble_eq_true rfl⟩) (j_preV (q0 := 60) (ci := 5) hK hP hD csc csc_all csc_nd cl_5 (ce_60 _ _ _) (fun _ _ _ _ h => EC.calling h) (fun U hU hW => EC.at hS hAB hU hW hE)) rfl rfl hl.1 rfl (lv_room (Nat.le_of_ble_eq_true rfl)) d_Reader_readPlain_75 ⟨Nat.le_of_ble_eq_true rfl, Nat.le_of_ble_eq_true rfl⟩) (fun rv4 S2 H locs hw4 hP hD hS => ?_)
          have hP : va_P D classes (cW T ad S2) H := hP
          have hD : va_D A (cW T ad S2) := hD
          obtain ⟨⟨i_vst, i_vc0, i_vc1, i_vc2, i_vc3, i_vv0, i_vv1, i_vv2, i_vv3, i_vg, i_wct, i_wln, i_sd0, i_sd1, i_sd2, i_sd3, i_rln, i_rtx, i_rpl, i_rtk, i_cnv, i_pts, i_cik, i_und⟩, kpcL_S2, kpcU_S2, kpcW_S2⟩ := hw4
          have kScL_S2 : kcL S S2 := kcL_t (show kcL S S from (kcL_r S)) kpcL_S2
          have kScU_S2 : kcU S S2 := kcU_t (show kcU S S from (kcU_r S)) kpcU_S2
          have kScW_S2 : kcW S S2 := kcW_t (show kcW S S from (kcW_r S)) kpcW_S2
          have nxr_length_S2 : (f_xr_length S2).toInt = (f_xr_length S).toInt := congrArg Int32.toInt kpcL_S2
          have nxe_underWay_S2 : (f_xe_underWay S2).toInt = (f_xe_underWay S).toInt := congrArg Int32.toInt kpcU_S2
          have nxp_columns_S2 : (f_xp_columns S2).toInt = (f_xp_columns S).toInt := congrArg Int32.toInt kpcW_S2.1
          have nxp_rows_S2 : (f_xp_rows S2).toInt = (f_xp_rows S).toInt := congrArg Int32.toInt kpcW_S2.2
          have rrv4 := zt_rng rv4
          exact j_iret F hr hlocks hK hS S2 ⟨⟨i_vst, i_vc0, i_vc1, i_vc2, i_vc3, i_vv0, i_vv1, i_vv2, i_vv3, i_vg, i_wct, i_wln, i_sd0, i_sd1, i_sd2, i_sd3, i_rln, i_rtx, i_rpl, i_rtk, i_cnv, i_pts, i_cik, i_und⟩, kScL_S2, kScU_S2, kScW_S2⟩ hP hD d_Reader_readPlain_78
        · first | have fc58_1 : rv1.toInt < 91 := (by have := zt_ne (show rv1.toInt = _ from rfl) tI_91 c58_1; omega) | have fc58_1 : 91 < rv1.toInt := (by have := zt_ne (show rv1.toInt = _ from rfl) tI_91 c58_1; omega) | skip
          refine lv_iload_n hx hb d_Reader_readPlain_61 rfl (lv_at hl 0 rfl) ?_
          refine lv_bipush (v := 93) hx hb d_Reader_readPlain_62 (by decide) ?_
          refine lv_icmp_ne (tgt := 79) hx hb d_Reader_readPlain_64 (by decide) (fun c64_1 => ?_) (fun c64_1 => ?_)
          · first | have fc64_1 : rv1.toInt < 93 := (by have := zt_ne (show rv1.toInt = _ from rfl) tI_93 c64_1; omega) | have fc64_1 : 93 < rv1.toInt := (by have := zt_ne (show rv1.toInt = _ from rfl) tI_93 c64_1; omega) | skip
            refine lv_aload_n hx hb d_Reader_readPlain_79 rfl (lv_at hl 1 rfl) ?_
            refine lv_bipush (v := 11) hx hb d_Reader_readPlain_80 (by decide) ?_
            refine lv_aload_n hx hb d_Reader_readPlain_82 rfl (lv_at hl 1 rfl) ?_
            refine va_get (D := D) (ci := 5) (v := .int (f_xr_place S)) (C := "PageScribe$Reader") (T := F_Reader) (N := 10) hx hb hts i_Reader hown hK hP 60 (ce_60 _ _ _) cl_5 4 (by decide) (hts _ k_1_171) (fun _ h9 => h9) rfl d_Reader_readPlain_83 ?_
            refine lv_aload_n hx hb d_Reader_readPlain_86 rfl (lv_at hl 1 rfl) ?_
            refine lv_aload_n hx hb d_Reader_readPlain_87 rfl (lv_at hl 1 rfl) ?_
            refine va_get (D := D) (ci := 5) (v := .int (f_xr_place S)) (C := "PageScribe$Reader") (T := F_Reader) (N := 10) hx hb hts i_Reader hown hK hP 60 (ce_60 _ _ _) cl_5 4 (by decide) (hts _ k_1_171) (fun _ h9 => h9) rfl d_Reader_readPlain_88 ?_
            refine jc_ci (w := (fun _ => S)) hK hP hD hS hA (va_runV (As := [.int (f_xr_place S)]) (rest := [.int (f_xr_place S), .int 11, .ref (ad 60)]) F (c_Reader_lettersFrom l D T ad S (f_xr_place S)  H.size ⟨i_vst, i_vc0, i_vc1, i_vc2, i_vc3, i_vv0, i_vv1, i_vv2, i_vv3, i_vg, i_wct, i_wln, i_sd0, i_sd1, i_sd2, i_sd3, i_rln, i_rtx, i_rpl, i_rtk, i_cnv, i_pts, i_cik, i_und⟩ (show 0 ≤ (f_xr_place S).toInt ∧ (f_xr_place S).toInt ≤ 420 by omega)) (j_cV (k := 1) (C := "PageScribe$Reader") hts k_3_142 k_1_7 k_3_139 k_3_141 k_0_9 (by decide +kernel) ⟨Nat.le_of_ble_eq_true rfl, Nat.le_of_ble_eq_true rfl⟩) (j_preV (q0 := 60) (ci := 5) hK hP hD csc csc_all csc_nd cl_5 (ce_60 _ _ _) (fun _ _ _ _ h => h) (fun _ _ _ => trivial)) rfl rfl hl.1 rfl (lv_room (Nat.le_of_ble_eq_true rfl)) d_Reader_readPlain_91 ⟨Nat.le_of_ble_eq_true rfl, Nat.le_of_ble_eq_true rfl⟩) (fun rv5 u3 H locs hw5 hP hD hS => ?_)
            have hP : va_P D classes (cW T ad S) H := hP
            have hD : va_D A (cW T ad S) := hD
            have qhw5 : 0 ≤ rv5.toInt ∧ (rv5.toInt = 0 ∨ (f_xr_place S).toInt + rv5.toInt ≤ (f_xr_length S).toInt) := hw5
            have rrv5 := zt_rng rv5
            refine jc_ci (w := (fun u => u)) hK hP hD hS hA (va_runV (As := [.int 11, .int (f_xr_place S), .int rv5]) (rest := []) F (c_Reader_readName l D T ad g Bq S (11 : Int32) (f_xr_place S) rv5  H.size ⟨i_vst, i_vc0, i_vc1, i_vc2, i_vc3, i_vv0, i_vv1, i_vv2, i_vv3, i_vg, i_wct, i_wln, i_sd0, i_sd1, i_sd2, i_sd3, i_rln, i_rtx, i_rpl, i_rtk, i_cnv, i_pts, i_cik, i_und⟩ (show 0 ≤ (f_xr_place S).toInt ∧ 0 ≤ rv5.toInt ∧ (f_xr_place S).toInt + rv5.toInt ≤ 300 by have := tI_11; omega)) (j_cV (k := 3) (C := "PageScribe$Reader") hts k_3_146 k_1_7 k_3_143 k_3_145 k_0_10 (by decide +kernel) ⟨Nat.le_of_ble_eq_true rfl, Nat.le_of_ble_eq_true rfl⟩) (j_preV (q0 := 60) (ci := 5) hK hP hD csc csc_all csc_nd cl_5 (ce_60 _ _ _) (fun _ _ _ _ h => EC.calling h) (fun U hU hW => EC.at hS hAB hU hW hE)) rfl rfl hl.1 rfl (lv_room (Nat.le_of_ble_eq_true rfl)) d_Reader_readPlain_94 ⟨Nat.le_of_ble_eq_true rfl, Nat.le_of_ble_eq_true rfl⟩) (fun rv6 S3 H locs hw6 hP hD hS => ?_)
            have hP : va_P D classes (cW T ad S3) H := hP
            have hD : va_D A (cW T ad S3) := hD
            obtain ⟨⟨i_vst, i_vc0, i_vc1, i_vc2, i_vc3, i_vv0, i_vv1, i_vv2, i_vv3, i_vg, i_wct, i_wln, i_sd0, i_sd1, i_sd2, i_sd3, i_rln, i_rtx, i_rpl, i_rtk, i_cnv, i_pts, i_cik, i_und⟩, kpcL_S3, kpcU_S3, kpcW_S3⟩ := hw6
            have kScL_S3 : kcL S S3 := kcL_t (show kcL S S from (kcL_r S)) kpcL_S3
            have kScU_S3 : kcU S S3 := kcU_t (show kcU S S from (kcU_r S)) kpcU_S3
            have kScW_S3 : kcW S S3 := kcW_t (show kcW S S from (kcW_r S)) kpcW_S3
            have nxr_length_S3 : (f_xr_length S3).toInt = (f_xr_length S).toInt := congrArg Int32.toInt kpcL_S3
            have nxe_underWay_S3 : (f_xe_underWay S3).toInt = (f_xe_underWay S).toInt := congrArg Int32.toInt kpcU_S3
            have nxp_columns_S3 : (f_xp_columns S3).toInt = (f_xp_columns S).toInt := congrArg Int32.toInt kpcW_S3.1
            have nxp_rows_S3 : (f_xp_rows S3).toInt = (f_xp_rows S).toInt := congrArg Int32.toInt kpcW_S3.2
            have rrv6 := zt_rng rv6
            exact j_iret F hr hlocks hK hS S3 ⟨⟨i_vst, i_vc0, i_vc1, i_vc2, i_vc3, i_vv0, i_vv1, i_vv2, i_vv3, i_vg, i_wct, i_wln, i_sd0, i_sd1, i_sd2, i_sd3, i_rln, i_rtx, i_rpl, i_rtk, i_cnv, i_pts, i_cik, i_und⟩, kScL_S3, kScU_S3, kScW_S3⟩ hP hD d_Reader_readPlain_97
          · have fc64_1 : rv1.toInt = 93 := zt_eq (show rv1.toInt = _ from rfl) tI_93 c64_1
            refine lv_aload_n hx hb d_Reader_readPlain_67 rfl (lv_at hl 1 rfl) ?_
            refine lv_bipush (v := 11) hx hb d_Reader_readPlain_68 (by decide) ?_
            refine lv_aload_n hx hb d_Reader_readPlain_70 rfl (lv_at hl 1 rfl) ?_
            refine va_get (D := D) (ci := 5) (v := .int (f_xr_place S)) (C := "PageScribe$Reader") (T := F_Reader) (N := 10) hx hb hts i_Reader hown hK hP 60 (ce_60 _ _ _) cl_5 4 (by decide) (hts _ k_1_171) (fun _ h9 => h9) rfl d_Reader_readPlain_71 ?_
            refine lv_iconst (v := 1) hx hb d_Reader_readPlain_74 (by decide) ?_
            refine jc_ci (w := (fun u => u)) hK hP hD hS hA (va_runV (As := [.int 11, .int (f_xr_place S), .int 1]) (rest := []) F (c_Reader_readName l D T ad g Bq S (11 : Int32) (f_xr_place S) (1 : Int32)  H.size ⟨i_vst, i_vc0, i_vc1, i_vc2, i_vc3, i_vv0, i_vv1, i_vv2, i_vv3, i_vg, i_wct, i_wln, i_sd0, i_sd1, i_sd2, i_sd3, i_rln, i_rtx, i_rpl, i_rtk, i_cnv, i_pts, i_cik, i_und⟩ (show 0 ≤ (f_xr_place S).toInt ∧ 0 ≤ (1 : Int32).toInt ∧ (f_xr_place S).toInt + (1 : Int32).toInt ≤ 300 by have := tI_11; have := tI_1; omega)) (j_cV (k := 3) (C := "PageScribe$Reader") hts k_3_146 k_1_7 k_3_143 k_3_145 k_0_10 (by decide +kernel) ⟨Nat.le_of_ble_eq_true rfl, Nat.le_of_ble_eq_true rfl⟩) (j_preV (q0 := 60) (ci := 5) hK hP hD csc csc_all csc_nd cl_5 (ce_60 _ _ _) (fun _ _ _ _ h => EC.calling h) (fun U hU hW => EC.at hS hAB hU hW hE)) rfl rfl hl.1 rfl (lv_room (Nat.le_of_ble_eq_true rfl)) d_Reader_readPlain_75 ⟨Nat.le_of_ble_eq_true rfl, Nat.le_of_ble_eq_true rfl⟩) (fun rv7 S4 H locs hw7 hP hD hS => ?_)
            have hP : va_P D classes (cW T ad S4) H := hP
            have hD : va_D A (cW T ad S4) := hD
            obtain ⟨⟨i_vst, i_vc0, i_vc1, i_vc2, i_vc3, i_vv0, i_vv1, i_vv2, i_vv3, i_vg, i_wct, i_wln, i_sd0, i_sd1, i_sd2, i_sd3, i_rln, i_rtx, i_rpl, i_rtk, i_cnv, i_pts, i_cik, i_und⟩, kpcL_S4, kpcU_S4, kpcW_S4⟩ := hw7
            have kScL_S4 : kcL S S4 := kcL_t (show kcL S S from (kcL_r S)) kpcL_S4
            have kScU_S4 : kcU S S4 := kcU_t (show kcU S S from (kcU_r S)) kpcU_S4
            have kScW_S4 : kcW S S4 := kcW_t (show kcW S S from (kcW_r S)) kpcW_S4
            have nxr_length_S4 : (f_xr_length S4).toInt = (f_xr_length S).toInt := congrArg Int32.toInt kpcL_S4
            have nxe_underWay_S4 : (f_xe_underWay S4).toInt = (f_xe_underWay S).toInt := congrArg Int32.toInt kpcU_S4
            have nxp_columns_S4 : (f_xp_columns S4).toInt = (f_xp_columns S).toInt := congrArg Int32.toInt kpcW_S4.1
            have nxp_rows_S4 : (f_xp_rows S4).toInt = (f_xp_rows S).toInt := congrArg Int32.toInt kpcW_S4.2
            have rrv7 := zt_rng rv7
            exact j_iret F hr hlocks hK hS S4 ⟨⟨i_vst, i_vc0, i_vc1, i_vc2, i_vc3, i_vv0, i_vv1, i_vv2, i_vv3, i_vg, i_wct, i_wln, i_sd0, i_sd1, i_sd2, i_sd3, i_rln, i_rtx, i_rpl, i_rtk, i_cnv, i_pts, i_cik, i_und⟩, kScL_S4, kScU_S4, kScW_S4⟩ hP hD d_Reader_readPlain_78
      · have fc30_1 : rv1.toInt = 47 := zt_eq (show rv1.toInt = _ from rfl) tI_47 c30_1
        refine lv_aload_n hx hb d_Reader_readPlain_33 rfl (lv_at hl 1 rfl) ?_
        refine lv_iconst (v := 3) hx hb d_Reader_readPlain_34 (by decide) ?_
        refine lv_aload_n hx hb d_Reader_readPlain_35 rfl (lv_at hl 1 rfl) ?_
        refine va_get (D := D) (ci := 5) (v := .int (f_xr_place S)) (C := "PageScribe$Reader") (T := F_Reader) (N := 10) hx hb hts i_Reader hown hK hP 60 (ce_60 _ _ _) cl_5 4 (by decide) (hts _ k_1_171) (fun _ h9 => h9) rfl d_Reader_readPlain_36 ?_
        refine lv_iconst (v := 1) hx hb d_Reader_readPlain_39 (by decide) ?_
        refine lv_iadd hx hb d_Reader_readPlain_40 ?_
        refine lv_topi (fun x1 ex1 => ?_)
        have fx1 : x1.toInt = ((f_xr_place S).toInt + 1) := by rw [ex1]; exact (zt_add (show (f_xr_place S).toInt = _ from rfl) tI_1 (by omega) (by omega)).trans (by omega)
        refine lv_aload_n hx hb d_Reader_readPlain_41 rfl (lv_at hl 1 rfl) ?_
        refine lv_aload_n hx hb d_Reader_readPlain_42 rfl (lv_at hl 1 rfl) ?_
        refine va_get (D := D) (ci := 5) (v := .int (f_xr_place S)) (C := "PageScribe$Reader") (T := F_Reader) (N := 10) hx hb hts i_Reader hown hK hP 60 (ce_60 _ _ _) cl_5 4 (by decide) (hts _ k_1_171) (fun _ h9 => h9) rfl d_Reader_readPlain_43 ?_
        refine lv_iconst (v := 1) hx hb d_Reader_readPlain_46 (by decide) ?_
        refine lv_iadd hx hb d_Reader_readPlain_47 ?_
        refine j_eqi (y := x1) ex1.symm ?_
        refine jc_ci (w := (fun _ => S)) hK hP hD hS hA (va_runV (As := [.int x1]) (rest := [.int x1, .int 3, .ref (ad 60)]) F (c_Reader_lettersFrom l D T ad S x1  H.size ⟨i_vst, i_vc0, i_vc1, i_vc2, i_vc3, i_vv0, i_vv1, i_vv2, i_vv3, i_vg, i_wct, i_wln, i_sd0, i_sd1, i_sd2, i_sd3, i_rln, i_rtx, i_rpl, i_rtk, i_cnv, i_pts, i_cik, i_und⟩ (show 0 ≤ x1.toInt ∧ x1.toInt ≤ 420 by first | omega | (simp only [fx1]; omega))) (j_cV (k := 1) (C := "PageScribe$Reader") hts k_3_142 k_1_7 k_3_139 k_3_141 k_0_9 (by decide +kernel) ⟨Nat.le_of_ble_eq_true rfl, Nat.le_of_ble_eq_true rfl⟩) (j_preV (q0 := 60) (ci := 5) hK hP hD csc csc_all csc_nd cl_5 (ce_60 _ _ _) (fun _ _ _ _ h => h) (fun _ _ _ => trivial)) rfl rfl hl.1 rfl (lv_room (Nat.le_of_ble_eq_true rfl)) d_Reader_readPlain_48 ⟨Nat.le_of_ble_eq_true rfl, Nat.le_of_ble_eq_true rfl⟩) (fun rv8 u4 H locs hw8 hP hD hS => ?_)
        have hP : va_P D classes (cW T ad S) H := hP
        have hD : va_D A (cW T ad S) := hD
        have qhw8 : 0 ≤ rv8.toInt ∧ (rv8.toInt = 0 ∨ ((f_xr_place S).toInt + 1) + rv8.toInt ≤ (f_xr_length S).toInt) := by simpa only [fx1] using hw8
        have rrv8 := zt_rng rv8
        refine jc_ci (w := (fun u => u)) hK hP hD hS hA (va_runV (As := [.int 3, .int x1, .int rv8]) (rest := []) F (c_Reader_readName l D T ad g Bq S (3 : Int32) x1 rv8  H.size ⟨i_vst, i_vc0, i_vc1, i_vc2, i_vc3, i_vv0, i_vv1, i_vv2, i_vv3, i_vg, i_wct, i_wln, i_sd0, i_sd1, i_sd2, i_sd3, i_rln, i_rtx, i_rpl, i_rtk, i_cnv, i_pts, i_cik, i_und⟩ (show 0 ≤ x1.toInt ∧ 0 ≤ rv8.toInt ∧ x1.toInt + rv8.toInt ≤ 300 by have := tI_3; first | omega | (simp only [fx1]; omega))) (j_cV (k := 3) (C := "PageScribe$Reader") hts k_3_146 k_1_7 k_3_143 k_3_145 k_0_10 (by decide +kernel) ⟨Nat.le_of_ble_eq_true rfl, Nat.le_of_ble_eq_true rfl⟩) (j_preV (q0 := 60) (ci := 5) hK hP hD csc csc_all csc_nd cl_5 (ce_60 _ _ _) (fun _ _ _ _ h => EC.calling h) (fun U hU hW => EC.at hS hAB hU hW hE)) rfl rfl hl.1 rfl (lv_room (Nat.le_of_ble_eq_true rfl)) d_Reader_readPlain_51 ⟨Nat.le_of_ble_eq_true rfl, Nat.le_of_ble_eq_true rfl⟩) (fun rv9 S5 H locs hw9 hP hD hS => ?_)
        have hP : va_P D classes (cW T ad S5) H := hP
        have hD : va_D A (cW T ad S5) := hD
        obtain ⟨⟨i_vst, i_vc0, i_vc1, i_vc2, i_vc3, i_vv0, i_vv1, i_vv2, i_vv3, i_vg, i_wct, i_wln, i_sd0, i_sd1, i_sd2, i_sd3, i_rln, i_rtx, i_rpl, i_rtk, i_cnv, i_pts, i_cik, i_und⟩, kpcL_S5, kpcU_S5, kpcW_S5⟩ := hw9
        have kScL_S5 : kcL S S5 := kcL_t (show kcL S S from (kcL_r S)) kpcL_S5
        have kScU_S5 : kcU S S5 := kcU_t (show kcU S S from (kcU_r S)) kpcU_S5
        have kScW_S5 : kcW S S5 := kcW_t (show kcW S S from (kcW_r S)) kpcW_S5
        have nxr_length_S5 : (f_xr_length S5).toInt = (f_xr_length S).toInt := congrArg Int32.toInt kpcL_S5
        have nxe_underWay_S5 : (f_xe_underWay S5).toInt = (f_xe_underWay S).toInt := congrArg Int32.toInt kpcU_S5
        have nxp_columns_S5 : (f_xp_columns S5).toInt = (f_xp_columns S).toInt := congrArg Int32.toInt kpcW_S5.1
        have nxp_rows_S5 : (f_xp_rows S5).toInt = (f_xp_rows S).toInt := congrArg Int32.toInt kpcW_S5.2
        have rrv9 := zt_rng rv9
        exact j_iret F hr hlocks hK hS S5 ⟨⟨i_vst, i_vc0, i_vc1, i_vc2, i_vc3, i_vv0, i_vv1, i_vv2, i_vv3, i_vg, i_wct, i_wln, i_sd0, i_sd1, i_sd2, i_sd3, i_rln, i_rtx, i_rpl, i_rtk, i_cnv, i_pts, i_cik, i_und⟩, kScL_S5, kScU_S5, kScW_S5⟩ hP hD d_Reader_readPlain_54
    · first | have fc19_1 : rv3.toInt < 0 := (by have := zt_ne (show rv3.toInt = _ from rfl) tI_0 c19_1; omega) | have fc19_1 : 0 < rv3.toInt := (by have := zt_ne (show rv3.toInt = _ from rfl) tI_0 c19_1; omega) | skip
      refine lv_aload_n hx hb d_Reader_readPlain_22 rfl (lv_at hl 1 rfl) ?_
      refine jc_ci (w := (fun u => u)) hK hP hD hS hA (va_runV (As := []) (rest := []) F (c_Reader_readNumber l D T ad S  H.size ⟨i_vst, i_vc0, i_vc1, i_vc2, i_vc3, i_vv0, i_vv1, i_vv2, i_vv3, i_vg, i_wct, i_wln, i_sd0, i_sd1, i_sd2, i_sd3, i_rln, i_rtx, i_rpl, i_rtk, i_cnv, i_pts, i_cik, i_und⟩ (show 0 ≤ (f_xr_place S).toInt ∧ (f_xr_place S).toInt < (f_xr_length S).toInt by omega)) (j_cV (k := 0) (C := "PageScribe$Reader") hts k_3_123 k_1_7 k_3_120 k_3_122 k_0_6 (by decide +kernel) ⟨Nat.le_of_ble_eq_true rfl, Nat.le_of_ble_eq_true rfl⟩) (j_preV (q0 := 60) (ci := 5) hK hP hD csc csc_all csc_nd cl_5 (ce_60 _ _ _) (fun _ _ _ _ h => h) (fun _ _ _ => trivial)) rfl rfl hl.1 rfl (lv_room (Nat.le_of_ble_eq_true rfl)) d_Reader_readPlain_23 ⟨Nat.le_of_ble_eq_true rfl, Nat.le_of_ble_eq_true rfl⟩) (fun rv10 S6 H locs hw10 hP hD hS => ?_)
      have hP : va_P D classes (cW T ad S6) H := hP
      have hD : va_D A (cW T ad S6) := hD
      obtain ⟨⟨i_vst, i_vc0, i_vc1, i_vc2, i_vc3, i_vv0, i_vv1, i_vv2, i_vv3, i_vg, i_wct, i_wln, i_sd0, i_sd1, i_sd2, i_sd3, i_rln, i_rtx, i_rpl, i_rtk, i_cnv, i_pts, i_cik, i_und⟩, kpcL_S6, kpcU_S6, kpcW_S6⟩ := hw10
      have kScL_S6 : kcL S S6 := kcL_t (show kcL S S from (kcL_r S)) kpcL_S6
      have kScU_S6 : kcU S S6 := kcU_t (show kcU S S from (kcU_r S)) kpcU_S6
      have kScW_S6 : kcW S S6 := kcW_t (show kcW S S from (kcW_r S)) kpcW_S6
      have nxr_length_S6 : (f_xr_length S6).toInt = (f_xr_length S).toInt := congrArg Int32.toInt kpcL_S6
      have nxe_underWay_S6 : (f_xe_underWay S6).toInt = (f_xe_underWay S).toInt := congrArg Int32.toInt kpcU_S6
      have nxp_columns_S6 : (f_xp_columns S6).toInt = (f_xp_columns S).toInt := congrArg Int32.toInt kpcW_S6.1
      have nxp_rows_S6 : (f_xp_rows S6).toInt = (f_xp_rows S).toInt := congrArg Int32.toInt kpcW_S6.2
      have rrv10 := zt_rng rv10
      exact j_iret F hr hlocks hK hS S6 ⟨⟨i_vst, i_vc0, i_vc1, i_vc2, i_vc3, i_vv0, i_vv1, i_vv2, i_vv3, i_vg, i_wct, i_wln, i_sd0, i_sd1, i_sd2, i_sd3, i_rln, i_rtx, i_rpl, i_rtk, i_cnv, i_pts, i_cik, i_und⟩, kScL_S6, kScU_S6, kScW_S6⟩ hP hD d_Reader_readPlain_26
theorem d_Reader_makeProcedure_19 : decode prog_7_method_8_code 19 = .ok (.istore_n 2, 1) := by decide +kernel
theorem d_Reader_makeProcedure_20 : decode prog_7_method_8_code 20 = .ok (.aload_n 0, 1) := by decide +kernel
theorem d_Reader_makeProcedure_21 : decode prog_7_method_8_code 21 = .ok (.getfield 49, 3) := by decide +kernel
theorem k_1_167 : Cond.fieldLink "PageScribe$Reader" 49 "PageScribe$Reader" "store" "LPageScribe$Store;" ∈ gw := gw_of (tb_1 (List.mem_of_getElem? (i := 167) (by decide +kernel))) (by decide +kernel)
theorem d_Reader_makeProcedure_24 : decode prog_7_method_8_code 24 = .ok (.aload_n 0, 1) := by decide +kernel
theorem d_Reader_makeProcedure_25 : decode prog_7_method_8_code 25 = .ok (.getfield 37, 3) := by decide +kernel
theorem k_1_178 : Cond.fieldLink "PageScribe$Reader" 37 "PageScribe$Reader" "gathered" "LPageScribe$Row;" ∈ gw := gw_of (tb_1 (List.mem_of_getElem? (i := 178) (by decide +kernel))) (by decide +kernel)
theorem d_Reader_makeProcedure_28 : decode prog_7_method_8_code 28 = .ok (.iload_n 2, 1) := by decide +kernel
theorem d_Reader_makeProcedure_29 : decode prog_7_method_8_code 29 = .ok (.aload_n 0, 1) := by decide +kernel
theorem d_Reader_makeProcedure_30 : decode prog_7_method_8_code 30 = .ok (.getfield 37, 3) := by decide +kernel
theorem d_Reader_makeProcedure_33 : decode prog_7_method_8_code 33 = .ok (.getfield 64, 3) := by decide +kernel
theorem k_1_56 : Cond.fieldLink "PageScribe$Reader" 64 "PageScribe$Row" "size" "I" ∈ gw := gw_of (tb_1 (List.mem_of_getElem? (i := 56) (by decide +kernel))) (by decide +kernel)
theorem d_Reader_makeProcedure_36 : decode prog_7_method_8_code 36 = .ok (.iload_n 2, 1) := by decide +kernel
theorem d_Reader_makeProcedure_37 : decode prog_7_method_8_code 37 = .ok (.isub, 1) := by decide +kernel
theorem d_Reader_makeProcedure_38 : decode prog_7_method_8_code 38 = .ok (.invokevirtual 79, 3) := by decide +kernel
theorem k_3_83 : Cond.methodLink "PageScribe$Reader" 79 ⟨"PageScribe$Store", "newArray", "(LPageScribe$Row;II)I"⟩ ∈ gw := gw_of (tb_3 (List.mem_of_getElem? (i := 83) (by decide +kernel))) (by decide +kernel)
theorem d_Reader_makeProcedure_41 : decode prog_7_method_8_code 41 = .ok (.istore_n 3, 1) := by decide +kernel
theorem d_Reader_makeProcedure_42 : decode prog_7_method_8_code 42 = .ok (.iload_n 3, 1) := by decide +kernel
theorem d_Reader_makeProcedure_43 : decode prog_7_method_8_code 43 = .ok (.ifCond .ge 6, 3) := by decide +kernel
theorem d_Reader_makeProcedure_49 : decode prog_7_method_8_code 49 = .ok (.aload_n 0, 1) := by decide +kernel
theorem d_Reader_makeProcedure_50 : decode prog_7_method_8_code 50 = .ok (.getfield 37, 3) := by decide +kernel
theorem d_Reader_makeProcedure_53 : decode prog_7_method_8_code 53 = .ok (.iload_n 2, 1) := by decide +kernel
theorem d_Reader_makeProcedure_54 : decode prog_7_method_8_code 54 = .ok (.putfield 64, 3) := by decide +kernel
theorem d_Reader_makeProcedure_57 : decode prog_7_method_8_code 57 = .ok (.aload_n 0, 1) := by decide +kernel
theorem d_Reader_makeProcedure_58 : decode prog_7_method_8_code 58 = .ok (.dup, 1) := by decide +kernel
theorem d_Reader_makeProcedure_59 : decode prog_7_method_8_code 59 = .ok (.getfield 19, 3) := by decide +kernel
theorem d_Reader_makeProcedure_62 : decode prog_7_method_8_code 62 = .ok (.iconst 1, 1) := by decide +kernel
theorem d_Reader_makeProcedure_63 : decode prog_7_method_8_code 63 = .ok (.iadd, 1) := by decide +kernel
theorem d_Reader_makeProcedure_64 : decode prog_7_method_8_code 64 = .ok (.putfield 19, 3) := by decide +kernel
theorem d_Reader_makeProcedure_67 : decode prog_7_method_8_code 67 = .ok (.aload_n 0, 1) := by decide +kernel
theorem d_Reader_makeProcedure_68 : decode prog_7_method_8_code 68 = .ok (.bipush 13, 2) := by decide +kernel
theorem d_Reader_makeProcedure_70 : decode prog_7_method_8_code 70 = .ok (.iload_n 3, 1) := by decide +kernel
theorem d_Reader_makeProcedure_71 : decode prog_7_method_8_code 71 = .ok (.dconst 0, 1) := by decide +kernel
theorem d_Reader_makeProcedure_72 : decode prog_7_method_8_code 72 = .ok (.invokevirtual 85, 3) := by decide +kernel
theorem d_Reader_makeProcedure_75 : decode prog_7_method_8_code 75 = .ok (.iconst 0, 1) := by decide +kernel
theorem d_Reader_makeProcedure_76 : decode prog_7_method_8_code 76 = .ok (.ireturn, 1) := by decide +kernel
theorem d_Reader_makeProcedure_46 : decode prog_7_method_8_code 46 = .ok (.bipush 7, 2) := by decide +kernel
theorem d_Reader_makeProcedure_48 : decode prog_7_method_8_code 48 = .ok (.ireturn, 1) := by decide +kernel
theorem d_Reader_makeProcedure_0 : decode prog_7_method_8_code 0 = .ok (.iload_n 1, 1) := by decide +kernel
theorem d_Reader_makeProcedure_1 : decode prog_7_method_8_code 1 = .ok (.ifCond .lt 17, 3) := by decide +kernel
theorem d_Reader_makeProcedure_18 : decode prog_7_method_8_code 18 = .ok (.iconst 0, 1) := by decide +kernel
theorem d_Reader_makeProcedure_4 : decode prog_7_method_8_code 4 = .ok (.iload_n 1, 1) := by decide +kernel
theorem d_Reader_makeProcedure_5 : decode prog_7_method_8_code 5 = .ok (.iconst 4, 1) := by decide +kernel
theorem d_Reader_makeProcedure_6 : decode prog_7_method_8_code 6 = .ok (.if_icmp .ge 12, 3) := by decide +kernel
theorem d_Reader_makeProcedure_9 : decode prog_7_method_8_code 9 = .ok (.aload_n 0, 1) := by decide +kernel
theorem d_Reader_makeProcedure_10 : decode prog_7_method_8_code 10 = .ok (.getfield 41, 3) := by decide +kernel
theorem k_1_179 : Cond.fieldLink "PageScribe$Reader" 41 "PageScribe$Reader" "begins" "[I" ∈ gw := gw_of (tb_1 (List.mem_of_getElem? (i := 179) (by decide +kernel))) (by decide +kernel)
theorem d_Reader_makeProcedure_13 : decode prog_7_method_8_code 13 = .ok (.iload_n 1, 1) := by decide +kernel
theorem d_Reader_makeProcedure_14 : decode prog_7_method_8_code 14 = .ok (.iaload, 1) := by decide +kernel
theorem d_Reader_makeProcedure_15 : decode prog_7_method_8_code 15 = .ok (.goto 4, 3) := by decide +kernel
set_option maxHeartbeats 4000000 in
set_option maxRecDepth 100000 in
theorem c_Reader_makeProcedure (l : Launch) (D : va_G) (T : Nat → ClassId) (ad : Nat → Nat) (g : GE) (Bq : Nat → Prop) (S : CS) (p0 : Int32) (sz : Nat)  (hI : CIv S) (h1 : 0 ≤ (f_xr_place S).toInt ∧ (f_xr_place S).toInt < (f_xr_length S).toInt) : Met l ⟨"PageScribe$Reader", "makeProcedure", "(I)I"⟩ (wy ⟨"PageScribe$Reader", "makeProcedure", "(I)I"⟩ prog_7_method_8_code 4 (some .int)) ({ frames := 3, cells := 0, slots := 0, locals := 210 }) (va_Pc [.ref (ad 60), .int p0] (Pw D T (cW T ad S) sz (EC g Bq ad))) (va_Qi (fun (r : Int32) (u : CS) => CIv u ∧ kcL S u ∧ kcU S u ∧ kcW S u) (fun u t => Bw D T (va_A (cW T ad S) sz) (cW T ad u) t) (va_A (cW T ad S) sz)) 0 0 (va_A (cW T ad S) sz) := by
  refine j_met (y := ⟨"PageScribe$Reader", "makeProcedure", "(I)I"⟩) (b := prog_7_method_8_code) (n := 4) (ret := (some .int)) (av := [.ref (ad 60), .int p0]) (Qc := fun A => va_Qi (fun (r : Int32) (u : CS) => CIv u ∧ kcL S u ∧ kcU S u ∧ kcW S u) (fun u t => Bw D T A (cW T ad u) t) A) (by decide +kernel) (Nat.le_of_ble_eq_true rfl) (fun p e s m args below meth c A ls F hr hlocks hnm hK hP hD hS hA hN hE hl => ?_)
  obtain ⟨hx, hb, hml, hown, hts⟩ := id F
  have hl : lv_has ls 4 [(0, .ref (ad 60)), (1, .int p0)] := hl
  obtain ⟨i_vst, i_vc0, i_vc1, i_vc2, i_vc3, i_vv0, i_vv1, i_vv2, i_vv3, i_vg, i_wct, i_wln, i_sd0, i_sd1, i_sd2, i_sd3, i_rln, i_rtx, i_rpl, i_rtk, i_cnv, i_pts, i_cik, i_und⟩ := id hI
  have hAB : ∀ q, A q → Bq q := EC.ab hE hN
  have hEV := hE.1.narrow hAB
  have rp0 := zt_rng p0
  refine j_joinH (α := Int32) (fun x H locs ls => (True) ∧ va_P D classes (cW T ad S) H ∧ va_D A (cW T ad S) ∧ va_S A s.heap H locs ∧ lv_has ls 4 [(0, .ref (ad 60)), (1, .int p0)]) (fun x ls => F0 m 19 ls (.int x :: [])) (fun x H locs ls hI9 => ?_) (fun key1 => ?_)
  · obtain ⟨j1, rfl⟩ : ∃ z, z = x := ⟨_, rfl⟩
    obtain ⟨hj1, hP, hD, hS, hl⟩ := hI9
    have hP : va_P D classes (cW T ad S) H := hP
    have hD : va_D A (cW T ad S) := hD
    have hl : lv_has ls 4 [(0, .ref (ad 60)), (1, .int p0)] := hl
    refine lv_istore_n (lv' := [(2, .int j1), (0, .ref (ad 60)), (1, .int p0)]) hx hb d_Reader_makeProcedure_19 rfl hl (by decide) rfl (fun ls hl => ?_)
    refine lv_aload_n hx hb d_Reader_makeProcedure_20 rfl (lv_at hl 1 rfl) ?_
    refine va_get (D := D) (ci := 5) (v := .ref (ad 12)) (C := "PageScribe$Reader") (T := F_Reader) (N := 10) hx hb hts i_Reader hown hK hP 60 (ce_60 _ _ _) cl_5 1 (by decide) (hts _ k_1_167) (fun _ h9 => h9) rfl d_Reader_makeProcedure_21 ?_
    refine lv_aload_n hx hb d_Reader_makeProcedure_24 rfl (lv_at hl 1 rfl) ?_
    refine va_get (D := D) (ci := 5) (v := .ref (ad 62)) (C := "PageScribe$Reader") (T := F_Reader) (N := 10) hx hb hts i_Reader hown hK hP 60 (ce_60 _ _ _) cl_5 8 (by decide) (hts _ k_1_178) (fun _ h9 => h9) rfl d_Reader_makeProcedure_25 ?_
    refine lv_iload_n hx hb d_Reader_makeProcedure_28 rfl (lv_at hl 0 rfl) ?_
    refine lv_aload_n hx hb d_Reader_makeProcedure_29 rfl (lv_at hl 1 rfl) ?_
    refine va_get (D := D) (ci := 5) (v := .ref (ad 62)) (C := "PageScribe$Reader") (T := F_Reader) (N := 10) hx hb hts i_Reader hown hK hP 60 (ce_60 _ _ _) cl_5 8 (by decide) (hts _ k_1_178) (fun _ h9 => h9) rfl d_Reader_makeProcedure_30 ?_
    refine va_get (D := D) (ci := 4) (v := .int (f_xg_z S)) (C := "PageScribe$Row") (T := F_Row) (N := 4) hx hb hts i_Row hown hK hP 62 (ce_62 _ _ _) cl_4 3 (by decide) (hts _ k_1_56) (fun _ h9 => h9) rfl d_Reader_makeProcedure_33 ?_
    refine lv_iload_n hx hb d_Reader_makeProcedure_36 rfl (lv_at hl 0 rfl) ?_
    refine lv_isub hx hb d_Reader_makeProcedure_37 ?_
    refine lv_topi (fun x1 ex1 => ?_)
    have rx1 := zt_rng x1
    refine jc_ci (w := (fun u => u)) hK hP hD hS hA (va_runV (As := [.ref (ad 62), .int j1, .int x1]) (rest := []) F (c_Store_newArray_62 l D T ad g Bq S j1 x1  H.size ⟨i_vst, i_vc0, i_vc1, i_vc2, i_vc3, i_vv0, i_vv1, i_vv2, i_vv3, i_vg, i_wct, i_wln, i_sd0, i_sd1, i_sd2, i_sd3, i_rln, i_rtx, i_rpl, i_rtk, i_cnv, i_pts, i_cik, i_und⟩) (j_cV (k := 3) (C := "PageScribe$Store") hts k_3_86 k_1_6 k_3_83 k_3_84 k_3_85 (by decide +kernel) ⟨Nat.le_of_ble_eq_true rfl, Nat.le_of_ble_eq_true rfl⟩) (j_preV (q0 := 12) (ci := 3) hK hP hD csc csc_all csc_nd cl_3 (ce_12 _ _ _) (fun _ _ _ _ h => EC.calling h) (fun U hU hW => EC.at hS hAB hU hW hE)) rfl rfl hl.1 rfl (lv_room (Nat.le_of_ble_eq_true rfl)) d_Reader_makeProcedure_38 ⟨Nat.le_of_ble_eq_true rfl, Nat.le_of_ble_eq_true rfl⟩) (fun rv1 S1 H locs hw1 hP hD hS => ?_)
    have hP : va_P D classes (cW T ad S1) H := hP
    have hD : va_D A (cW T ad S1) := hD
    obtain ⟨⟨i_vst, i_vc0, i_vc1, i_vc2, i_vc3, i_vv0, i_vv1, i_vv2, i_vv3, i_vg, i_wct, i_wln, i_sd0, i_sd1, i_sd2, i_sd3, i_rln, i_rtx, i_rpl, i_rtk, i_cnv, i_pts, i_cik, i_und⟩, kpcL_S1, kpcP_S1, kpcU_S1, kpcW_S1⟩ := hw1
    have kScL_S1 : kcL S S1 := kcL_t (show kcL S S from (kcL_r S)) kpcL_S1
    have kScP_S1 : kcP S S1 := kcP_t (show kcP S S from (kcP_r S)) kpcP_S1
    have kScU_S1 : kcU S S1 := kcU_t (show kcU S S from (kcU_r S)) kpcU_S1
    have kScW_S1 : kcW S S1 := kcW_t (show kcW S S from (kcW_r S)) kpcW_S1
    have nxr_length_S1 : (f_xr_length S1).toInt = (f_xr_length S).toInt := congrArg Int32.toInt kpcL_S1
    have nxr_length_S1 : (f_xr_length S1).toInt = (f_xr_length S).toInt := congrArg Int32.toInt kpcP_S1.1
    have nxr_place_S1 : (f_xr_place S1).toInt = (f_xr_place S).toInt := congrArg Int32.toInt kpcP_S1.2.1
    have nxe_underWay_S1 : (f_xe_underWay S1).toInt = (f_xe_underWay S).toInt := congrArg Int32.toInt kpcU_S1
    have nxp_columns_S1 : (f_xp_columns S1).toInt = (f_xp_columns S).toInt := congrArg Int32.toInt kpcW_S1.1
    have nxp_rows_S1 : (f_xp_rows S1).toInt = (f_xp_rows S).toInt := congrArg Int32.toInt kpcW_S1.2
    have rrv1 := zt_rng rv1
    refine lv_istore_n (lv' := [(3, .int rv1), (2, .int j1), (0, .ref (ad 60)), (1, .int p0)]) hx hb d_Reader_makeProcedure_41 rfl hl (by decide) rfl (fun ls hl => ?_)
    refine lv_iload_n hx hb d_Reader_makeProcedure_42 rfl (lv_at hl 0 rfl) ?_
    refine lv_if_ge (tgt := 49) hx hb d_Reader_makeProcedure_43 (by decide) (fun c43_1 => ?_) (fun c43_1 => ?_)
    · have fc43_1 : 0 ≤ rv1.toInt := zt_le tI_0 (show rv1.toInt = _ from rfl) c43_1
      refine lv_aload_n hx hb d_Reader_makeProcedure_49 rfl (lv_at hl 2 rfl) ?_
      refine va_get (D := D) (ci := 5) (v := .ref (ad 62)) (C := "PageScribe$Reader") (T := F_Reader) (N := 10) hx hb hts i_Reader hown hK hP 60 (ce_60 _ _ _) cl_5 8 (by decide) (hts _ k_1_178) (fun _ h9 => h9) rfl d_Reader_makeProcedure_50 ?_
      refine lv_iload_n hx hb d_Reader_makeProcedure_53 rfl (lv_at hl 1 rfl) ?_
      refine va_put (D := D) (ci := 4) (v := .int j1) (ty := .int) (C := "PageScribe$Row") (T := F_Row) (N := 4) hx hb hts i_Row t_Row t_Row_ok n_Row hown hK hP hD hS 62 (ce_62 _ _ _) cl_4 3 (by decide) (hts _ k_1_56) (fun _ h9 => h9) rfl (by decide +kernel) rfl rfl (Nat.le_of_ble_eq_true rfl) d_Reader_makeProcedure_54 (fun H locs hP hD hS => ?_)
      rw [cp_xg_z] at hP hD
      have hP : va_P D classes (cW T ad ((S1.1, S1.2.1, S1.2.2.1, S1.2.2.2.1, S1.2.2.2.2.1, S1.2.2.2.2.2.1, ((a_xr_text S1), (f_xr_length S1), (f_xr_place S1), (f_xr_tokenKind S1), (f_xr_tokenNumber S1), (f_xr_tokenReal S1), (a_xr_begins S1), (a_xg_k S1), (a_xg_n S1), (a_xg_r S1), j1), S1.2.2.2.2.2.2.2.1, S1.2.2.2.2.2.2.2.2) : CS)) H := hP
      have hD : va_D A (cW T ad ((S1.1, S1.2.1, S1.2.2.1, S1.2.2.2.1, S1.2.2.2.2.1, S1.2.2.2.2.2.1, ((a_xr_text S1), (f_xr_length S1), (f_xr_place S1), (f_xr_tokenKind S1), (f_xr_tokenNumber S1), (f_xr_tokenReal S1), (a_xr_begins S1), (a_xg_k S1), (a_xg_n S1), (a_xg_r S1), j1), S1.2.2.2.2.2.2.2.1, S1.2.2.2.2.2.2.2.2) : CS)) := hD
      refine lv_aload_n hx hb d_Reader_makeProcedure_57 rfl (lv_at hl 2 rfl) ?_
      refine lv_dup hx hb d_Reader_makeProcedure_58 rfl ?_
      refine va_get (D := D) (ci := 5) (v := .int (f_xr_place S1)) (C := "PageScribe$Reader") (T := F_Reader) (N := 10) hx hb hts i_Reader hown hK hP 60 (ce_60 _ _ _) cl_5 4 (by decide) (hts _ k_1_171) (fun _ h9 => h9) rfl d_Reader_makeProcedure_59 ?_
      refine lv_iconst (v := 1) hx hb d_Reader_makeProcedure_62 (by decide) ?_
      refine lv_iadd hx hb d_Reader_makeProcedure_63 ?_
      refine lv_topi (fun x2 ex2 => ?_)
      have fx2 : x2.toInt = ((f_xr_place S1).toInt + 1) := by rw [ex2]; exact (zt_add (show (f_xr_place S1).toInt = _ from rfl) tI_1 (by omega) (by omega)).trans (by omega)
      refine va_put (D := D) (ci := 5) (v := .int x2) (ty := .int) (C := "PageScribe$Reader") (T := F_Reader) (N := 10) hx hb hts i_Reader t_Reader t_Reader_ok n_Reader hown hK hP hD hS 60 (ce_60 _ _ _) cl_5 4 (by decide) (hts _ k_1_171) (fun _ h9 => h9) rfl (by decide +kernel) rfl rfl (Nat.le_of_ble_eq_true rfl) d_Reader_makeProcedure_64 (fun H locs hP hD hS => ?_)
      rw [cp_xr_place] at hP hD
      have hP : va_P D classes (cW T ad ((S1.1, S1.2.1, S1.2.2.1, S1.2.2.2.1, S1.2.2.2.2.1, S1.2.2.2.2.2.1, ((a_xr_text S1), (f_xr_length S1), x2, (f_xr_tokenKind S1), (f_xr_tokenNumber S1), (f_xr_tokenReal S1), (a_xr_begins S1), (a_xg_k S1), (a_xg_n S1), (a_xg_r S1), j1), S1.2.2.2.2.2.2.2.1, S1.2.2.2.2.2.2.2.2) : CS)) H := hP
      have hD : va_D A (cW T ad ((S1.1, S1.2.1, S1.2.2.1, S1.2.2.2.1, S1.2.2.2.2.1, S1.2.2.2.2.2.1, ((a_xr_text S1), (f_xr_length S1), x2, (f_xr_tokenKind S1), (f_xr_tokenNumber S1), (f_xr_tokenReal S1), (a_xr_begins S1), (a_xg_k S1), (a_xg_n S1), (a_xg_r S1), j1), S1.2.2.2.2.2.2.2.1, S1.2.2.2.2.2.2.2.2) : CS)) := hD
      refine lv_aload_n hx hb d_Reader_makeProcedure_67 rfl (lv_at hl 2 rfl) ?_
      refine lv_bipush (v := 13) hx hb d_Reader_makeProcedure_68 (by decide) ?_
      refine lv_iload_n hx hb d_Reader_makeProcedure_70 rfl (lv_at hl 0 rfl) ?_
      refine lv_dconst0 hx hb d_Reader_makeProcedure_71 ?_
      have := tD_0
      refine jc_cv (w := (fun u => u)) hK hP hD hS hA (va_runV (As := [.int 13, .int rv1, .double 0]) (rest := []) F (c_Reader_giveToken l D T ad ((S1.1, S1.2.1, S1.2.2.1, S1.2.2.2.1, S1.2.2.2.2.1, S1.2.2.2.2.2.1, ((a_xr_text S1), (f_xr_length S1), x2, (f_xr_tokenKind S1), (f_xr_tokenNumber S1), (f_xr_tokenReal S1), (a_xr_begins S1), (a_xg_k S1), (a_xg_n S1), (a_xg_r S1), j1), S1.2.2.2.2.2.2.2.1, S1.2.2.2.2.2.2.2.2) : CS) (13 : Int32) rv1 0  H.size ⟨i_vst, i_vc0, i_vc1, i_vc2, i_vc3, i_vv0, i_vv1, i_vv2, i_vv3, i_vg, i_wct, i_wln, i_sd0, i_sd1, i_sd2, i_sd3, i_rln, i_rtx, (show 0 ≤ x2.toInt ∧ x2.toInt ≤ 300 by omega), i_rtk, i_cnv, i_pts, i_cik, i_und⟩ (show dB 0 by have := tI_13; first | omega | (simp only [fx2]; omega))) (j_cV (k := 3) (C := "PageScribe$Reader") hts k_3_112 k_1_7 k_3_109 k_3_111 k_0_4 (by decide +kernel) ⟨Nat.le_of_ble_eq_true rfl, Nat.le_of_ble_eq_true rfl⟩) (j_preV (q0 := 60) (ci := 5) hK hP hD csc csc_all csc_nd cl_5 (ce_60 _ _ _) (fun _ _ _ _ h => h) (fun _ _ _ => trivial)) rfl rfl hl.1 rfl (lv_room (Nat.le_of_ble_eq_true rfl)) d_Reader_makeProcedure_72 ⟨Nat.le_of_ble_eq_true rfl, Nat.le_of_ble_eq_true rfl⟩) (fun S2 H locs hw2 hP hD hS => ?_)
      have hP : va_P D classes (cW T ad S2) H := hP
      have hD : va_D A (cW T ad S2) := hD
      obtain ⟨⟨i_vst, i_vc0, i_vc1, i_vc2, i_vc3, i_vv0, i_vv1, i_vv2, i_vv3, i_vg, i_wct, i_wln, i_sd0, i_sd1, i_sd2, i_sd3, i_rln, i_rtx, i_rpl, i_rtk, i_cnv, i_pts, i_cik, i_und⟩, kpcL_S2, kpcU_S2, kpcW_S2, qqhw2⟩ := hw2
      have kScL_S2 : kcL S S2 := kcL_t (show kcL S ((S1.1, S1.2.1, S1.2.2.1, S1.2.2.2.1, S1.2.2.2.2.1, S1.2.2.2.2.2.1, ((a_xr_text S1), (f_xr_length S1), x2, (f_xr_tokenKind S1), (f_xr_tokenNumber S1), (f_xr_tokenReal S1), (a_xr_begins S1), (a_xg_k S1), (a_xg_n S1), (a_xg_r S1), j1), S1.2.2.2.2.2.2.2.1, S1.2.2.2.2.2.2.2.2) : CS) from kScL_S1) kpcL_S2
      have kScU_S2 : kcU S S2 := kcU_t (show kcU S ((S1.1, S1.2.1, S1.2.2.1, S1.2.2.2.1, S1.2.2.2.2.1, S1.2.2.2.2.2.1, ((a_xr_text S1), (f_xr_length S1), x2, (f_xr_tokenKind S1), (f_xr_tokenNumber S1), (f_xr_tokenReal S1), (a_xr_begins S1), (a_xg_k S1), (a_xg_n S1), (a_xg_r S1), j1), S1.2.2.2.2.2.2.2.1, S1.2.2.2.2.2.2.2.2) : CS) from kScU_S1) kpcU_S2
      have kScW_S2 : kcW S S2 := kcW_t (show kcW S ((S1.1, S1.2.1, S1.2.2.1, S1.2.2.2.1, S1.2.2.2.2.1, S1.2.2.2.2.2.1, ((a_xr_text S1), (f_xr_length S1), x2, (f_xr_tokenKind S1), (f_xr_tokenNumber S1), (f_xr_tokenReal S1), (a_xr_begins S1), (a_xg_k S1), (a_xg_n S1), (a_xg_r S1), j1), S1.2.2.2.2.2.2.2.1, S1.2.2.2.2.2.2.2.2) : CS) from kScW_S1) kpcW_S2
      have nxr_length_S2 : (f_xr_length S2).toInt = (f_xr_length S1).toInt := congrArg Int32.toInt kpcL_S2
      have nxe_underWay_S2 : (f_xe_underWay S2).toInt = (f_xe_underWay S1).toInt := congrArg Int32.toInt kpcU_S2
      have nxp_columns_S2 : (f_xp_columns S2).toInt = (f_xp_columns S1).toInt := congrArg Int32.toInt kpcW_S2.1
      have nxp_rows_S2 : (f_xp_rows S2).toInt = (f_xp_rows S1).toInt := congrArg Int32.toInt kpcW_S2.2
      have qhw2 : (f_xr_place S2).toInt = ((f_xr_place S1).toInt + 1) := by simpa only [fx2, tI_13] using qqhw2
      refine lv_iconst (v := 0) hx hb d_Reader_makeProcedure_75 (by decide) ?_
      exact j_iret F hr hlocks hK hS S2 ⟨⟨i_vst, i_vc0, i_vc1, i_vc2, i_vc3, i_vv0, i_vv1, i_vv2, i_vv3, i_vg, i_wct, i_wln, i_sd0, i_sd1, i_sd2, i_sd3, i_rln, i_rtx, i_rpl, i_rtk, i_cnv, i_pts, i_cik, i_und⟩, kScL_S2, kScU_S2, kScW_S2⟩ hP hD d_Reader_makeProcedure_76
    · have fc43_1 : rv1.toInt < 0 := Int.not_le.mp (zt_nle tI_0 (show rv1.toInt = _ from rfl) c43_1)
      refine lv_bipush (v := 7) hx hb d_Reader_makeProcedure_46 (by decide) ?_
      exact j_iret F hr hlocks hK hS S1 ⟨⟨i_vst, i_vc0, i_vc1, i_vc2, i_vc3, i_vv0, i_vv1, i_vv2, i_vv3, i_vg, i_wct, i_wln, i_sd0, i_sd1, i_sd2, i_sd3, i_rln, i_rtx, i_rpl, i_rtk, i_cnv, i_pts, i_cik, i_und⟩, kScL_S1, kScU_S1, kScW_S1⟩ hP hD d_Reader_makeProcedure_48
  · refine lv_iload_n hx hb d_Reader_makeProcedure_0 rfl (lv_at hl 1 rfl) ?_
    refine lv_if_lt (tgt := 18) hx hb d_Reader_makeProcedure_1 (by decide) (fun c1_1 => ?_) (fun c1_1 => ?_)
    · have fc1_1 : p0.toInt < 0 := zt_lt (show p0.toInt = _ from rfl) tI_0 c1_1
      refine lv_iconst (v := 0) hx hb d_Reader_makeProcedure_18 (by decide) ?_
      exact key1 (0 : Int32) _ _ _ ⟨trivial, hP, hD, hS, lv_sub hl [0, 1] rfl⟩
    · have fc1_1 : 0 ≤ p0.toInt := Int.not_lt.mp (zt_nlt (show p0.toInt = _ from rfl) tI_0 c1_1)
      refine lv_iload_n hx hb d_Reader_makeProcedure_4 rfl (lv_at hl 1 rfl) ?_
      refine lv_iconst (v := 4) hx hb d_Reader_makeProcedure_5 (by decide) ?_
      refine lv_icmp_ge (tgt := 18) hx hb d_Reader_makeProcedure_6 (by decide) (fun c6_1 => ?_) (fun c6_1 => ?_)
      · have fc6_1 : 4 ≤ p0.toInt := zt_le tI_4 (show p0.toInt = _ from rfl) c6_1
        refine lv_iconst (v := 0) hx hb d_Reader_makeProcedure_18 (by decide) ?_
        exact key1 (0 : Int32) _ _ _ ⟨trivial, hP, hD, hS, lv_sub hl [0, 1] rfl⟩
      · have fc6_1 : p0.toInt < 4 := Int.not_le.mp (zt_nle tI_4 (show p0.toInt = _ from rfl) c6_1)
        refine lv_aload_n hx hb d_Reader_makeProcedure_9 rfl (lv_at hl 0 rfl) ?_
        refine va_get (D := D) (ci := 5) (v := .ref (ad 66)) (C := "PageScribe$Reader") (T := F_Reader) (N := 10) hx hb hts i_Reader hown hK hP 60 (ce_60 _ _ _) cl_5 9 (by decide) (hts _ k_1_179) (fun _ h9 => h9) rfl d_Reader_makeProcedure_10 ?_
        refine lv_iload_n hx hb d_Reader_makeProcedure_13 rfl (lv_at hl 1 rfl) ?_
        refine va_iald hx hb hK hP 66 0 (ce_66 _ _ _) rfl (zt_in (show p0.toInt = _ from rfl) (by omega) (by omega)) d_Reader_makeProcedure_14 ?_
        refine lv_topi (fun x3 ex3 => ?_)
        have gx3 : x3 = (a_xr_begins S) p0.toInt.toNat := ex3.trans (congrArg _ (zt_ix (show p0.toInt = _ from rfl)))
        have fx3 : x3.toInt = ((a_xr_begins S) p0.toInt.toNat).toInt := by rw [gx3]
        have rx3 := zt_rng x3
        refine lv_goto (tgt := 19) hx hb d_Reader_makeProcedure_15 (by decide) ?_
        exact key1 (x3) _ _ _ ⟨trivial, hP, hD, hS, lv_sub hl [0, 1] rfl⟩
theorem d_Reader_readProcedure_0 : decode prog_7_method_7_code 0 = .ok (.iconst 0, 1) := by decide +kernel
theorem d_Reader_readProcedure_1 : decode prog_7_method_7_code 1 = .ok (.istore_n 1, 1) := by decide +kernel
theorem d_Reader_readProcedure_2 : decode prog_7_method_7_code 2 = .ok (.aload_n 0, 1) := by decide +kernel
theorem d_Reader_readProcedure_3 : decode prog_7_method_7_code 3 = .ok (.getfield 37, 3) := by decide +kernel
theorem d_Reader_readProcedure_6 : decode prog_7_method_7_code 6 = .ok (.iconst 0, 1) := by decide +kernel
theorem d_Reader_readProcedure_7 : decode prog_7_method_7_code 7 = .ok (.putfield 64, 3) := by decide +kernel
theorem d_Reader_readProcedure_10 : decode prog_7_method_7_code 10 = .ok (.iconst 0, 1) := by decide +kernel
theorem d_Reader_readProcedure_11 : decode prog_7_method_7_code 11 = .ok (.istore_n 2, 1) := by decide +kernel
theorem d_Reader_readProcedure_12 : decode prog_7_method_7_code 12 = .ok (.iload_n 2, 1) := by decide +kernel
theorem d_Reader_readProcedure_13 : decode prog_7_method_7_code 13 = .ok (.bipush 120, 2) := by decide +kernel
theorem d_Reader_readProcedure_15 : decode prog_7_method_7_code 15 = .ok (.if_icmp .ge 134, 3) := by decide +kernel
theorem d_Reader_readProcedure_149 : decode prog_7_method_7_code 149 = .ok (.bipush 15, 2) := by decide +kernel
theorem d_Reader_readProcedure_151 : decode prog_7_method_7_code 151 = .ok (.ireturn, 1) := by decide +kernel
theorem d_Reader_readProcedure_18 : decode prog_7_method_7_code 18 = .ok (.aload_n 0, 1) := by decide +kernel
theorem d_Reader_readProcedure_19 : decode prog_7_method_7_code 19 = .ok (.invokevirtual 67, 3) := by decide +kernel
theorem k_3_65 : Cond.code ⟨"PageScribe$Reader", "findToken", "()Z"⟩ prog_7_method_4_code 1 (some .boolean) ∈ gw := gw_of (tb_3 (List.mem_of_getElem? (i := 65) (by decide +kernel))) (by decide +kernel)
theorem k_3_78 : Cond.methodLink "PageScribe$Reader" 67 ⟨"PageScribe$Reader", "findToken", "()Z"⟩ ∈ gw := gw_of (tb_3 (List.mem_of_getElem? (i := 78) (by decide +kernel))) (by decide +kernel)
theorem k_3_63 : Cond.instanceMethod ⟨"PageScribe$Reader", "findToken", "()Z"⟩ ∈ gw := gw_of (tb_3 (List.mem_of_getElem? (i := 63) (by decide +kernel))) (by decide +kernel)
theorem k_3_64 : Cond.selects "PageScribe$Reader" ⟨"PageScribe$Reader", "findToken", "()Z"⟩ ⟨"PageScribe$Reader", "findToken", "()Z"⟩ ∈ gw := gw_of (tb_3 (List.mem_of_getElem? (i := 64) (by decide +kernel))) (by decide +kernel)
theorem d_Reader_readProcedure_22 : decode prog_7_method_7_code 22 = .ok (.ifCond .eq 127, 3) := by decide +kernel
theorem d_Reader_readProcedure_25 : decode prog_7_method_7_code 25 = .ok (.aload_n 0, 1) := by decide +kernel
theorem d_Reader_readProcedure_26 : decode prog_7_method_7_code 26 = .ok (.aload_n 0, 1) := by decide +kernel
theorem d_Reader_readProcedure_27 : decode prog_7_method_7_code 27 = .ok (.getfield 19, 3) := by decide +kernel
theorem d_Reader_readProcedure_30 : decode prog_7_method_7_code 30 = .ok (.invokevirtual 53, 3) := by decide +kernel
theorem d_Reader_readProcedure_33 : decode prog_7_method_7_code 33 = .ok (.istore_n 3, 1) := by decide +kernel
theorem d_Reader_readProcedure_34 : decode prog_7_method_7_code 34 = .ok (.iload_n 3, 1) := by decide +kernel
theorem d_Reader_readProcedure_35 : decode prog_7_method_7_code 35 = .ok (.bipush 123, 2) := by decide +kernel
theorem d_Reader_readProcedure_37 : decode prog_7_method_7_code 37 = .ok (.if_icmp .ne 40, 3) := by decide +kernel
theorem d_Reader_readProcedure_77 : decode prog_7_method_7_code 77 = .ok (.iload_n 1, 1) := by decide +kernel
theorem d_Reader_readProcedure_89 : decode prog_7_method_7_code 89 = .ok (.isub, 1) := by decide +kernel
theorem d_Reader_readProcedure_90 : decode prog_7_method_7_code 90 = .ok (.istore_n 1, 1) := by decide +kernel
theorem d_Reader_readProcedure_91 : decode prog_7_method_7_code 91 = .ok (.iload_n 3, 1) := by decide +kernel
theorem d_Reader_readProcedure_92 : decode prog_7_method_7_code 92 = .ok (.bipush 125, 2) := by decide +kernel
theorem d_Reader_readProcedure_94 : decode prog_7_method_7_code 94 = .ok (.if_icmp .ne 11, 3) := by decide +kernel
theorem d_Reader_readProcedure_105 : decode prog_7_method_7_code 105 = .ok (.aload_n 0, 1) := by decide +kernel
theorem d_Reader_readProcedure_106 : decode prog_7_method_7_code 106 = .ok (.invokevirtual 61, 3) := by decide +kernel
theorem k_3_116 : Cond.code ⟨"PageScribe$Reader", "readPlain", "()I"⟩ prog_7_method_10_code 2 (some .int) ∈ gw := gw_of (tb_3 (List.mem_of_getElem? (i := 116) (by decide +kernel))) (by decide +kernel)
theorem k_3_113 : Cond.methodLink "PageScribe$Reader" 61 ⟨"PageScribe$Reader", "readPlain", "()I"⟩ ∈ gw := gw_of (tb_3 (List.mem_of_getElem? (i := 113) (by decide +kernel))) (by decide +kernel)
theorem k_3_115 : Cond.instanceMethod ⟨"PageScribe$Reader", "readPlain", "()I"⟩ ∈ gw := gw_of (tb_3 (List.mem_of_getElem? (i := 115) (by decide +kernel))) (by decide +kernel)
theorem k_0_5 : Cond.selects "PageScribe$Reader" ⟨"PageScribe$Reader", "readPlain", "()I"⟩ ⟨"PageScribe$Reader", "readPlain", "()I"⟩ ∈ gw := gw_of (tb_0 (List.mem_of_getElem? (i := 5) (by decide +kernel))) (by decide +kernel)
theorem d_Reader_readProcedure_109 : decode prog_7_method_7_code 109 = .ok (.istore 4, 2) := by decide +kernel
theorem d_Reader_readProcedure_111 : decode prog_7_method_7_code 111 = .ok (.iload 4, 2) := by decide +kernel
theorem d_Reader_readProcedure_113 : decode prog_7_method_7_code 113 = .ok (.ifCond .ne 7, 3) := by decide +kernel
theorem d_Reader_readProcedure_120 : decode prog_7_method_7_code 120 = .ok (.iload 4, 2) := by decide +kernel
theorem d_Reader_readProcedure_122 : decode prog_7_method_7_code 122 = .ok (.ireturn, 1) := by decide +kernel
theorem d_Reader_readProcedure_116 : decode prog_7_method_7_code 116 = .ok (.iload_n 1, 1) := by decide +kernel
theorem d_Reader_readProcedure_117 : decode prog_7_method_7_code 117 = .ok (.ifCond .ne 6, 3) := by decide +kernel
theorem d_Reader_readProcedure_123 : decode prog_7_method_7_code 123 = .ok (.aload_n 0, 1) := by decide +kernel
theorem d_Reader_readProcedure_124 : decode prog_7_method_7_code 124 = .ok (.getfield 37, 3) := by decide +kernel
theorem d_Reader_readProcedure_127 : decode prog_7_method_7_code 127 = .ok (.aload_n 0, 1) := by decide +kernel
theorem d_Reader_readProcedure_128 : decode prog_7_method_7_code 128 = .ok (.getfield 22, 3) := by decide +kernel
theorem d_Reader_readProcedure_131 : decode prog_7_method_7_code 131 = .ok (.aload_n 0, 1) := by decide +kernel
theorem d_Reader_readProcedure_132 : decode prog_7_method_7_code 132 = .ok (.getfield 25, 3) := by decide +kernel
theorem d_Reader_readProcedure_135 : decode prog_7_method_7_code 135 = .ok (.aload_n 0, 1) := by decide +kernel
theorem d_Reader_readProcedure_136 : decode prog_7_method_7_code 136 = .ok (.getfield 28, 3) := by decide +kernel
theorem d_Reader_readProcedure_139 : decode prog_7_method_7_code 139 = .ok (.invokevirtual 75, 3) := by decide +kernel
theorem k_3_163 : Cond.methodLink "PageScribe$Reader" 75 ⟨"PageScribe$Row", "push", "(IID)I"⟩ ∈ gw := gw_of (tb_3 (List.mem_of_getElem? (i := 163) (by decide +kernel))) (by decide +kernel)
theorem d_Reader_readProcedure_142 : decode prog_7_method_7_code 142 = .ok (.pop, 1) := by decide +kernel
theorem d_Reader_readProcedure_143 : decode prog_7_method_7_code 143 = .ok (.iinc 2 1, 3) := by decide +kernel
theorem d_Reader_readProcedure_146 : decode prog_7_method_7_code 146 = .ok (.goto (-134), 3) := by decide +kernel
theorem d_Reader_readProcedure_97 : decode prog_7_method_7_code 97 = .ok (.aload_n 0, 1) := by decide +kernel
theorem d_Reader_readProcedure_98 : decode prog_7_method_7_code 98 = .ok (.iload_n 1, 1) := by decide +kernel
theorem d_Reader_readProcedure_99 : decode prog_7_method_7_code 99 = .ok (.invokevirtual 71, 3) := by decide +kernel
theorem k_3_82 : Cond.code ⟨"PageScribe$Reader", "makeProcedure", "(I)I"⟩ prog_7_method_8_code 4 (some .int) ∈ gw := gw_of (tb_3 (List.mem_of_getElem? (i := 82) (by decide +kernel))) (by decide +kernel)
theorem k_3_79 : Cond.methodLink "PageScribe$Reader" 71 ⟨"PageScribe$Reader", "makeProcedure", "(I)I"⟩ ∈ gw := gw_of (tb_3 (List.mem_of_getElem? (i := 79) (by decide +kernel))) (by decide +kernel)
theorem k_3_81 : Cond.instanceMethod ⟨"PageScribe$Reader", "makeProcedure", "(I)I"⟩ ∈ gw := gw_of (tb_3 (List.mem_of_getElem? (i := 81) (by decide +kernel))) (by decide +kernel)
theorem k_0_3 : Cond.selects "PageScribe$Reader" ⟨"PageScribe$Reader", "makeProcedure", "(I)I"⟩ ⟨"PageScribe$Reader", "makeProcedure", "(I)I"⟩ ∈ gw := gw_of (tb_0 (List.mem_of_getElem? (i := 3) (by decide +kernel))) (by decide +kernel)
theorem d_Reader_readProcedure_102 : decode prog_7_method_7_code 102 = .ok (.goto 7, 3) := by decide +kernel
theorem d_Reader_readProcedure_78 : decode prog_7_method_7_code 78 = .ok (.iload_n 3, 1) := by decide +kernel
theorem d_Reader_readProcedure_79 : decode prog_7_method_7_code 79 = .ok (.bipush 125, 2) := by decide +kernel
theorem d_Reader_readProcedure_81 : decode prog_7_method_7_code 81 = .ok (.if_icmp .ne 7, 3) := by decide +kernel
theorem d_Reader_readProcedure_88 : decode prog_7_method_7_code 88 = .ok (.iconst 0, 1) := by decide +kernel
theorem d_Reader_readProcedure_84 : decode prog_7_method_7_code 84 = .ok (.iconst 1, 1) := by decide +kernel
theorem d_Reader_readProcedure_85 : decode prog_7_method_7_code 85 = .ok (.goto 4, 3) := by decide +kernel
theorem d_Reader_readProcedure_40 : decode prog_7_method_7_code 40 = .ok (.iload_n 1, 1) := by decide +kernel
theorem d_Reader_readProcedure_41 : decode prog_7_method_7_code 41 = .ok (.iconst 4, 1) := by decide +kernel
theorem d_Reader_readProcedure_42 : decode prog_7_method_7_code 42 = .ok (.if_icmp .lt 6, 3) := by decide +kernel
theorem d_Reader_readProcedure_48 : decode prog_7_method_7_code 48 = .ok (.aload_n 0, 1) := by decide +kernel
theorem d_Reader_readProcedure_49 : decode prog_7_method_7_code 49 = .ok (.getfield 41, 3) := by decide +kernel
theorem d_Reader_readProcedure_52 : decode prog_7_method_7_code 52 = .ok (.iload_n 1, 1) := by decide +kernel
theorem d_Reader_readProcedure_53 : decode prog_7_method_7_code 53 = .ok (.aload_n 0, 1) := by decide +kernel
theorem d_Reader_readProcedure_54 : decode prog_7_method_7_code 54 = .ok (.getfield 37, 3) := by decide +kernel
theorem d_Reader_readProcedure_57 : decode prog_7_method_7_code 57 = .ok (.getfield 64, 3) := by decide +kernel
theorem d_Reader_readProcedure_60 : decode prog_7_method_7_code 60 = .ok (.iastore, 1) := by decide +kernel
theorem d_Reader_readProcedure_61 : decode prog_7_method_7_code 61 = .ok (.iinc 1 1, 3) := by decide +kernel
theorem d_Reader_readProcedure_64 : decode prog_7_method_7_code 64 = .ok (.aload_n 0, 1) := by decide +kernel
theorem d_Reader_readProcedure_65 : decode prog_7_method_7_code 65 = .ok (.dup, 1) := by decide +kernel
theorem d_Reader_readProcedure_66 : decode prog_7_method_7_code 66 = .ok (.getfield 19, 3) := by decide +kernel
theorem d_Reader_readProcedure_69 : decode prog_7_method_7_code 69 = .ok (.iconst 1, 1) := by decide +kernel
theorem d_Reader_readProcedure_70 : decode prog_7_method_7_code 70 = .ok (.iadd, 1) := by decide +kernel
theorem d_Reader_readProcedure_71 : decode prog_7_method_7_code 71 = .ok (.putfield 19, 3) := by decide +kernel
theorem d_Reader_readProcedure_74 : decode prog_7_method_7_code 74 = .ok (.goto 69, 3) := by decide +kernel
theorem d_Reader_readProcedure_45 : decode prog_7_method_7_code 45 = .ok (.bipush 12, 2) := by decide +kernel
theorem d_Reader_readProcedure_47 : decode prog_7_method_7_code 47 = .ok (.ireturn, 1) := by decide +kernel
set_option maxHeartbeats 4000000 in
set_option maxRecDepth 100000 in
theorem c_Reader_readProcedure (l : Launch) (D : va_G) (T : Nat → ClassId) (ad : Nat → Nat) (g : GE) (Bq : Nat → Prop) (S : CS)  (sz : Nat)  (hI : CIv S) (h1 : 0 ≤ (f_xr_place S).toInt ∧ (f_xr_place S).toInt < (f_xr_length S).toInt) (h2 : ((a_xr_text S) (f_xr_place S).toInt.toNat).toInt = 123) : Met l ⟨"PageScribe$Reader", "readProcedure", "()I"⟩ (wy ⟨"PageScribe$Reader", "readProcedure", "()I"⟩ prog_7_method_7_code 5 (some .int)) ({ frames := 8, cells := 0, slots := 0, locals := 560 }) (va_Pc [.ref (ad 60)] (Pw D T (cW T ad S) sz (EC g Bq ad))) (va_Qi (fun (r : Int32) (u : CS) => CIv u ∧ kcL S u ∧ kcU S u ∧ kcW S u) (fun u t => Bw D T (va_A (cW T ad S) sz) (cW T ad u) t) (va_A (cW T ad S) sz)) 0 0 (va_A (cW T ad S) sz) := by
  refine j_met (y := ⟨"PageScribe$Reader", "readProcedure", "()I"⟩) (b := prog_7_method_7_code) (n := 5) (ret := (some .int)) (av := [.ref (ad 60)]) (Qc := fun A => va_Qi (fun (r : Int32) (u : CS) => CIv u ∧ kcL S u ∧ kcU S u ∧ kcW S u) (fun u t => Bw D T A (cW T ad u) t) A) (by decide +kernel) (Nat.le_of_ble_eq_true rfl) (fun p e s m args below meth c A ls F hr hlocks hnm hK hP hD hS hA hN hE hl => ?_)
  obtain ⟨hx, hb, hml, hown, hts⟩ := id F
  have hl : lv_has ls 5 [(0, .ref (ad 60))] := hl
  obtain ⟨i_vst, i_vc0, i_vc1, i_vc2, i_vc3, i_vv0, i_vv1, i_vv2, i_vv3, i_vg, i_wct, i_wln, i_sd0, i_sd1, i_sd2, i_sd3, i_rln, i_rtx, i_rpl, i_rtk, i_cnv, i_pts, i_cik, i_und⟩ := id hI
  have hAB : ∀ q, A q → Bq q := EC.ab hE hN
  have hEV := hE.1.narrow hAB
  refine lv_iconst (v := 0) hx hb d_Reader_readProcedure_0 (by decide) ?_
  refine lv_istore_n (lv' := [(1, .int 0), (0, .ref (ad 60))]) hx hb d_Reader_readProcedure_1 rfl hl (by decide) rfl (fun ls hl => ?_)
  refine lv_aload_n hx hb d_Reader_readProcedure_2 rfl (lv_at hl 1 rfl) ?_
  refine va_get (D := D) (ci := 5) (v := .ref (ad 62)) (C := "PageScribe$Reader") (T := F_Reader) (N := 10) hx hb hts i_Reader hown hK hP 60 (ce_60 _ _ _) cl_5 8 (by decide) (hts _ k_1_178) (fun _ h9 => h9) rfl d_Reader_readProcedure_3 ?_
  refine lv_iconst (v := 0) hx hb d_Reader_readProcedure_6 (by decide) ?_
  refine va_put (D := D) (ci := 4) (v := .int 0) (ty := .int) (C := "PageScribe$Row") (T := F_Row) (N := 4) hx hb hts i_Row t_Row t_Row_ok n_Row hown hK hP hD hS 62 (ce_62 _ _ _) cl_4 3 (by decide) (hts _ k_1_56) (fun _ h9 => h9) rfl (by decide +kernel) rfl rfl (Nat.le_of_ble_eq_true rfl) d_Reader_readProcedure_7 (fun H locs hP hD hS => ?_)
  rw [cp_xg_z] at hP hD
  have hP : va_P D classes (cW T ad ((S.1, S.2.1, S.2.2.1, S.2.2.2.1, S.2.2.2.2.1, S.2.2.2.2.2.1, ((a_xr_text S), (f_xr_length S), (f_xr_place S), (f_xr_tokenKind S), (f_xr_tokenNumber S), (f_xr_tokenReal S), (a_xr_begins S), (a_xg_k S), (a_xg_n S), (a_xg_r S), 0), S.2.2.2.2.2.2.2.1, S.2.2.2.2.2.2.2.2) : CS)) H := hP
  have hD : va_D A (cW T ad ((S.1, S.2.1, S.2.2.1, S.2.2.2.1, S.2.2.2.2.1, S.2.2.2.2.2.1, ((a_xr_text S), (f_xr_length S), (f_xr_place S), (f_xr_tokenKind S), (f_xr_tokenNumber S), (f_xr_tokenReal S), (a_xr_begins S), (a_xg_k S), (a_xg_n S), (a_xg_r S), 0), S.2.2.2.2.2.2.2.1, S.2.2.2.2.2.2.2.2) : CS)) := hD
  refine lv_iconst (v := 0) hx hb d_Reader_readProcedure_10 (by decide) ?_
  refine lv_istore_n (lv' := [(2, .int 0), (1, .int 0), (0, .ref (ad 60))]) hx hb d_Reader_readProcedure_11 rfl hl (by decide) rfl (fun ls hl => ?_)
  refine j_loop (α := CS × Int32 × Int32) (fun k x H locs ls => (0 ≤ x.2.2.toInt ∧ x.2.2.toInt ≤ 120 ∧ 120 ≤ x.2.2.toInt + ((k : Nat) : Int) ∧ 0 ≤ x.2.1.toInt ∧ x.2.1.toInt ≤ 4 ∧ (x.2.1.toInt = 0 → 0 ≤ (f_xr_place x.1).toInt ∧ (f_xr_place x.1).toInt < (f_xr_length x.1).toInt ∧ ((a_xr_text x.1) (f_xr_place x.1).toInt.toNat).toInt = 123)) ∧ CIv x.1 ∧ kcL S x.1 ∧ kcU S x.1 ∧ kcW S x.1 ∧ va_P D classes (cW T ad x.1) H ∧ va_D A (cW T ad x.1) ∧ va_S A s.heap H locs ∧ lv_has ls 5 [(2, .int x.2.2), (1, .int x.2.1), (0, .ref (ad 60))]) (fun _ _ ls => F0 m 12 ls []) (fun k x H locs ls hI9 ih => ?_) 120 (((S.1, S.2.1, S.2.2.1, S.2.2.2.1, S.2.2.2.2.1, S.2.2.2.2.2.1, ((a_xr_text S), (f_xr_length S), (f_xr_place S), (f_xr_tokenKind S), (f_xr_tokenNumber S), (f_xr_tokenReal S), (a_xr_begins S), (a_xg_k S), (a_xg_n S), (a_xg_r S), 0), S.2.2.2.2.2.2.2.1, S.2.2.2.2.2.2.2.2) : CS), (0 : Int32), (0 : Int32)) _ _ _ ⟨(show 0 ≤ (0 : Int32).toInt ∧ (0 : Int32).toInt ≤ 120 ∧ 120 ≤ (0 : Int32).toInt + ((120 : Nat) : Int) ∧ 0 ≤ (0 : Int32).toInt ∧ (0 : Int32).toInt ≤ 4 ∧ ((0 : Int32).toInt = 0 → 0 ≤ (f_xr_place S).toInt ∧ (f_xr_place S).toInt < (f_xr_length S).toInt ∧ ((a_xr_text S) (f_xr_place S).toInt.toNat).toInt = 123) by have := tI_0; have := tI_0; have := tI_0; omega), ⟨i_vst, i_vc0, i_vc1, i_vc2, i_vc3, i_vv0, i_vv1, i_vv2, i_vv3, i_vg, i_wct, i_wln, i_sd0, i_sd1, i_sd2, i_sd3, i_rln, i_rtx, i_rpl, i_rtk, i_cnv, i_pts, i_cik, i_und⟩, (show kcL S ((S.1, S.2.1, S.2.2.1, S.2.2.2.1, S.2.2.2.2.1, S.2.2.2.2.2.1, ((a_xr_text S), (f_xr_length S), (f_xr_place S), (f_xr_tokenKind S), (f_xr_tokenNumber S), (f_xr_tokenReal S), (a_xr_begins S), (a_xg_k S), (a_xg_n S), (a_xg_r S), 0), S.2.2.2.2.2.2.2.1, S.2.2.2.2.2.2.2.2) : CS) from (kcL_r S)), (show kcU S ((S.1, S.2.1, S.2.2.1, S.2.2.2.1, S.2.2.2.2.1, S.2.2.2.2.2.1, ((a_xr_text S), (f_xr_length S), (f_xr_place S), (f_xr_tokenKind S), (f_xr_tokenNumber S), (f_xr_tokenReal S), (a_xr_begins S), (a_xg_k S), (a_xg_n S), (a_xg_r S), 0), S.2.2.2.2.2.2.2.1, S.2.2.2.2.2.2.2.2) : CS) from (kcU_r S)), (show kcW S ((S.1, S.2.1, S.2.2.1, S.2.2.2.1, S.2.2.2.2.1, S.2.2.2.2.2.1, ((a_xr_text S), (f_xr_length S), (f_xr_place S), (f_xr_tokenKind S), (f_xr_tokenNumber S), (f_xr_tokenReal S), (a_xr_begins S), (a_xg_k S), (a_xg_n S), (a_xg_r S), 0), S.2.2.2.2.2.2.2.1, S.2.2.2.2.2.2.2.2) : CS) from (kcW_r S)), hP, hD, hS, lv_sub hl [0, 1, 2] rfl⟩
  obtain ⟨S1, o, i⟩ := x
  obtain ⟨hf1, hIx, klcL_S1, klcU_S1, klcW_S1, hP, hD, hS, hl⟩ := hI9
  obtain ⟨i_vst, i_vc0, i_vc1, i_vc2, i_vc3, i_vv0, i_vv1, i_vv2, i_vv3, i_vg, i_wct, i_wln, i_sd0, i_sd1, i_sd2, i_sd3, i_rln, i_rtx, i_rpl, i_rtk, i_cnv, i_pts, i_cik, i_und⟩ := (show CIv S1 from hIx)
  have klcL_S1 : kcL S S1 := klcL_S1
  have klcU_S1 : kcU S S1 := klcU_S1
  have klcW_S1 : kcW S S1 := klcW_S1
  have hf1 : 0 ≤ i.toInt ∧ i.toInt ≤ 120 ∧ 120 ≤ i.toInt + ((k : Nat) : Int) ∧ 0 ≤ o.toInt ∧ o.toInt ≤ 4 ∧ (o.toInt = 0 → 0 ≤ (f_xr_place S1).toInt ∧ (f_xr_place S1).toInt < (f_xr_length S1).toInt ∧ ((a_xr_text S1) (f_xr_place S1).toInt.toNat).toInt = 123) := hf1
  have hP : va_P D classes (cW T ad S1) H := hP
  have hD : va_D A (cW T ad S1) := hD
  have hl : lv_has ls 5 [(2, .int i), (1, .int o), (0, .ref (ad 60))] := hl
  refine lv_iload_n hx hb d_Reader_readProcedure_12 rfl (lv_at hl 0 rfl) ?_
  refine lv_bipush (v := 120) hx hb d_Reader_readProcedure_13 (by decide) ?_
  refine lv_icmp_ge (tgt := 149) hx hb d_Reader_readProcedure_15 (by decide) (fun c15_1 => ?_) (fun c15_1 => ?_)
  · have fc15_1 : 120 ≤ i.toInt := zt_le tI_120 (show i.toInt = _ from rfl) c15_1
    refine lv_bipush (v := 15) hx hb d_Reader_readProcedure_149 (by decide) ?_
    exact j_iret F hr hlocks hK hS S1 ⟨⟨i_vst, i_vc0, i_vc1, i_vc2, i_vc3, i_vv0, i_vv1, i_vv2, i_vv3, i_vg, i_wct, i_wln, i_sd0, i_sd1, i_sd2, i_sd3, i_rln, i_rtx, i_rpl, i_rtk, i_cnv, i_pts, i_cik, i_und⟩, klcL_S1, klcU_S1, klcW_S1⟩ hP hD d_Reader_readProcedure_151
  · have fc15_1 : i.toInt < 120 := Int.not_le.mp (zt_nle tI_120 (show i.toInt = _ from rfl) c15_1)
    refine lv_aload_n hx hb d_Reader_readProcedure_18 rfl (lv_at hl 2 rfl) ?_
    refine jc_ci (w := (fun u => u)) hK hP hD hS hA (va_runV (As := []) (rest := []) F (c_Reader_findToken l D T ad S1  H.size ⟨i_vst, i_vc0, i_vc1, i_vc2, i_vc3, i_vv0, i_vv1, i_vv2, i_vv3, i_vg, i_wct, i_wln, i_sd0, i_sd1, i_sd2, i_sd3, i_rln, i_rtx, i_rpl, i_rtk, i_cnv, i_pts, i_cik, i_und⟩) (j_cV (k := 0) (C := "PageScribe$Reader") hts k_3_65 k_1_7 k_3_78 k_3_63 k_3_64 (by decide +kernel) ⟨Nat.le_of_ble_eq_true rfl, Nat.le_of_ble_eq_true rfl⟩) (j_preV (q0 := 60) (ci := 5) hK hP hD csc csc_all csc_nd cl_5 (ce_60 _ _ _) (fun _ _ _ _ h => h) (fun _ _ _ => trivial)) rfl rfl hl.1 rfl (lv_room (Nat.le_of_ble_eq_true rfl)) d_Reader_readProcedure_19 ⟨Nat.le_of_ble_eq_true rfl, Nat.le_of_ble_eq_true rfl⟩) (fun rv1 S2 H locs hw1 hP hD hS => ?_)
    have hP : va_P D classes (cW T ad S2) H := hP
    have hD : va_D A (cW T ad S2) := hD
    obtain ⟨⟨i_vst, i_vc0, i_vc1, i_vc2, i_vc3, i_vv0, i_vv1, i_vv2, i_vv3, i_vg, i_wct, i_wln, i_sd0, i_sd1, i_sd2, i_sd3, i_rln, i_rtx, i_rpl, i_rtk, i_cnv, i_pts, i_cik, i_und⟩, kpcL_S2, kpcU_S2, kpcW_S2, qqhw1⟩ := hw1
    have kScL_S2 : kcL S S2 := kcL_t (show kcL S S1 from klcL_S1) kpcL_S2
    have kScU_S2 : kcU S S2 := kcU_t (show kcU S S1 from klcU_S1) kpcU_S2
    have kScW_S2 : kcW S S2 := kcW_t (show kcW S S1 from klcW_S1) kpcW_S2
    have nxr_length_S2 : (f_xr_length S2).toInt = (f_xr_length S1).toInt := congrArg Int32.toInt kpcL_S2
    have nxe_underWay_S2 : (f_xe_underWay S2).toInt = (f_xe_underWay S1).toInt := congrArg Int32.toInt kpcU_S2
    have nxp_columns_S2 : (f_xp_columns S2).toInt = (f_xp_columns S1).toInt := congrArg Int32.toInt kpcW_S2.1
    have nxp_rows_S2 : (f_xp_rows S2).toInt = (f_xp_rows S1).toInt := congrArg Int32.toInt kpcW_S2.2
    have qhw1 : (((rv1.toInt = 1 ∧ (f_xr_place S2).toInt < (f_xr_length S2).toInt) ∨ rv1.toInt = 0) ∧ (((f_xr_place S1).toInt < (f_xr_length S1).toInt ∧ ¬ ((a_xr_text S1) (f_xr_place S1).toInt.toNat).toInt = 32) → (f_xr_place S2).toInt = (f_xr_place S1).toInt ∧ rv1.toInt = 1)) ∧ (a_xr_text S2) = (a_xr_text S1) := qqhw1
    have rrv1 := zt_rng rv1
    have hft := qhw1
    have hpe : (f_xr_place S2).toInt = (f_xr_place S1).toInt → (a_xr_text S2 (f_xr_place S2).toInt.toNat).toInt = (a_xr_text S1 (f_xr_place S1).toInt.toNat).toInt := fun q => by rw [hft.2, q]
    have hft1 := hft.1
    refine lv_if_eq (tgt := 149) hx hb d_Reader_readProcedure_22 (by decide) (fun c22_1 => ?_) (fun c22_1 => ?_)
    · have fc22_1 : rv1.toInt = 0 := zt_eq (show rv1.toInt = _ from rfl) tI_0 c22_1
      refine lv_bipush (v := 15) hx hb d_Reader_readProcedure_149 (by decide) ?_
      exact j_iret F hr hlocks hK hS S2 ⟨⟨i_vst, i_vc0, i_vc1, i_vc2, i_vc3, i_vv0, i_vv1, i_vv2, i_vv3, i_vg, i_wct, i_wln, i_sd0, i_sd1, i_sd2, i_sd3, i_rln, i_rtx, i_rpl, i_rtk, i_cnv, i_pts, i_cik, i_und⟩, kScL_S2, kScU_S2, kScW_S2⟩ hP hD d_Reader_readProcedure_151
    · first | have fc22_1 : rv1.toInt < 0 := (by have := zt_ne (show rv1.toInt = _ from rfl) tI_0 c22_1; omega) | have fc22_1 : 0 < rv1.toInt := (by have := zt_ne (show rv1.toInt = _ from rfl) tI_0 c22_1; omega) | skip
      refine lv_aload_n hx hb d_Reader_readProcedure_25 rfl (lv_at hl 2 rfl) ?_
      refine lv_aload_n hx hb d_Reader_readProcedure_26 rfl (lv_at hl 2 rfl) ?_
      refine va_get (D := D) (ci := 5) (v := .int (f_xr_place S2)) (C := "PageScribe$Reader") (T := F_Reader) (N := 10) hx hb hts i_Reader hown hK hP 60 (ce_60 _ _ _) cl_5 4 (by decide) (hts _ k_1_171) (fun _ h9 => h9) rfl d_Reader_readProcedure_27 ?_
      refine jc_ci (w := (fun _ => S2)) hK hP hD hS hA (va_runV (As := [.int (f_xr_place S2)]) (rest := []) F (c_Reader_charAt l D T ad S2 (f_xr_place S2)  H.size ⟨i_vst, i_vc0, i_vc1, i_vc2, i_vc3, i_vv0, i_vv1, i_vv2, i_vv3, i_vg, i_wct, i_wln, i_sd0, i_sd1, i_sd2, i_sd3, i_rln, i_rtx, i_rpl, i_rtk, i_cnv, i_pts, i_cik, i_und⟩) (j_cV (k := 1) (C := "PageScribe$Reader") hts k_3_73 k_1_7 k_3_70 k_3_72 k_0_1 (by decide +kernel) ⟨Nat.le_of_ble_eq_true rfl, Nat.le_of_ble_eq_true rfl⟩) (j_preV (q0 := 60) (ci := 5) hK hP hD csc csc_all csc_nd cl_5 (ce_60 _ _ _) (fun _ _ _ _ h => h) (fun _ _ _ => trivial)) rfl rfl hl.1 rfl (lv_room (Nat.le_of_ble_eq_true rfl)) d_Reader_readProcedure_30 ⟨Nat.le_of_ble_eq_true rfl, Nat.le_of_ble_eq_true rfl⟩) (fun rv2 u1 H locs hw2 hP hD hS => ?_)
      have hP : va_P D classes (cW T ad S2) H := hP
      have hD : va_D A (cW T ad S2) := hD
      have qhw2 : 0 ≤ rv2.toInt ∧ rv2.toInt ≤ 127 ∧ (rv2.toInt = 0 ∨ (0 ≤ (f_xr_place S2).toInt ∧ (f_xr_place S2).toInt < (f_xr_length S2).toInt ∧ rv2.toInt = ((a_xr_text S2) (f_xr_place S2).toInt.toNat).toInt)) := hw2
      have rrv2 := zt_rng rv2
      refine lv_istore_n (lv' := [(3, .int rv2), (2, .int i), (1, .int o), (0, .ref (ad 60))]) hx hb d_Reader_readProcedure_33 rfl hl (by decide) rfl (fun ls hl => ?_)
      refine lv_iload_n hx hb d_Reader_readProcedure_34 rfl (lv_at hl 0 rfl) ?_
      refine lv_bipush (v := 123) hx hb d_Reader_readProcedure_35 (by decide) ?_
      refine lv_icmp_ne (tgt := 77) hx hb d_Reader_readProcedure_37 (by decide) (fun c37_1 => ?_) (fun c37_1 => ?_)
      · have fc37_1 : ¬ rv2.toInt = 123 := zt_ne (show rv2.toInt = _ from rfl) tI_123 c37_1
        refine lv_iload_n hx hb d_Reader_readProcedure_77 rfl (lv_at hl 2 rfl) ?_
        refine j_joinH (α := Int32) (fun x H locs ls => ((rv2.toInt = 125 → x.toInt = 1) ∧ (¬ rv2.toInt = 125 → x.toInt = 0)) ∧ va_P D classes (cW T ad S2) H ∧ va_D A (cW T ad S2) ∧ va_S A s.heap H locs ∧ lv_has ls 5 [(3, .int rv2), (2, .int i), (1, .int o), (0, .ref (ad 60))]) (fun x ls => F0 m 89 ls (.int x :: [.int o])) (fun x H locs ls hI9 => ?_) (fun key1 => ?_)
        · obtain ⟨j1, rfl⟩ : ∃ z, z = x := ⟨_, rfl⟩
          obtain ⟨hj1, hP, hD, hS, hl⟩ := hI9
          have hj1 : (rv2.toInt = 125 → j1.toInt = 1) ∧ (¬ rv2.toInt = 125 → j1.toInt = 0) := hj1
          have hP : va_P D classes (cW T ad S2) H := hP
          have hD : va_D A (cW T ad S2) := hD
          have hl : lv_has ls 5 [(3, .int rv2), (2, .int i), (1, .int o), (0, .ref (ad 60))] := hl
          refine lv_isub hx hb d_Reader_readProcedure_89 ?_
          refine lv_topi (fun x1 ex1 => ?_)
          have fx1 : x1.toInt = (-j1.toInt + o.toInt) := by rw [ex1]; exact (zt_sub (show o.toInt = _ from rfl) (show j1.toInt = _ from rfl) (by omega) (by omega)).trans (by omega)
          refine lv_istore_n (lv' := [(1, .int x1), (3, .int rv2), (2, .int i), (0, .ref (ad 60))]) hx hb d_Reader_readProcedure_90 rfl hl (by decide) rfl (fun ls hl => ?_)
          refine lv_iload_n hx hb d_Reader_readProcedure_91 rfl (lv_at hl 1 rfl) ?_
          refine lv_bipush (v := 125) hx hb d_Reader_readProcedure_92 (by decide) ?_
          refine lv_icmp_ne (tgt := 105) hx hb d_Reader_readProcedure_94 (by decide) (fun c94_1 => ?_) (fun c94_1 => ?_)
          · have fc94_1 : ¬ rv2.toInt = 125 := zt_ne (show rv2.toInt = _ from rfl) tI_125 c94_1
            refine lv_aload_n hx hb d_Reader_readProcedure_105 rfl (lv_at hl 3 rfl) ?_
            refine jc_ci (w := (fun u => u)) hK hP hD hS hA (va_runV (As := []) (rest := []) F (c_Reader_readPlain l D T ad g Bq S2  H.size ⟨i_vst, i_vc0, i_vc1, i_vc2, i_vc3, i_vv0, i_vv1, i_vv2, i_vv3, i_vg, i_wct, i_wln, i_sd0, i_sd1, i_sd2, i_sd3, i_rln, i_rtx, i_rpl, i_rtk, i_cnv, i_pts, i_cik, i_und⟩ (show 0 ≤ (f_xr_place S2).toInt ∧ (f_xr_place S2).toInt < (f_xr_length S2).toInt by omega)) (j_cV (k := 0) (C := "PageScribe$Reader") hts k_3_116 k_1_7 k_3_113 k_3_115 k_0_5 (by decide +kernel) ⟨Nat.le_of_ble_eq_true rfl, Nat.le_of_ble_eq_true rfl⟩) (j_preV (q0 := 60) (ci := 5) hK hP hD csc csc_all csc_nd cl_5 (ce_60 _ _ _) (fun _ _ _ _ h => EC.calling h) (fun U hU hW => EC.at hS hAB hU hW hE)) rfl rfl hl.1 rfl (lv_room (Nat.le_of_ble_eq_true rfl)) d_Reader_readProcedure_106 ⟨Nat.le_of_ble_eq_true rfl, Nat.le_of_ble_eq_true rfl⟩) (fun rv3 S3 H locs hw3 hP hD hS => ?_)
            have hP : va_P D classes (cW T ad S3) H := hP
            have hD : va_D A (cW T ad S3) := hD
            obtain ⟨⟨i_vst, i_vc0, i_vc1, i_vc2, i_vc3, i_vv0, i_vv1, i_vv2, i_vv3, i_vg, i_wct, i_wln, i_sd0, i_sd1, i_sd2, i_sd3, i_rln, i_rtx, i_rpl, i_rtk, i_cnv, i_pts, i_cik, i_und⟩, kpcL_S3, kpcU_S3, kpcW_S3⟩ := hw3
            have kScL_S3 : kcL S S3 := kcL_t (show kcL S S2 from kScL_S2) kpcL_S3
            have kScU_S3 : kcU S S3 := kcU_t (show kcU S S2 from kScU_S2) kpcU_S3
            have kScW_S3 : kcW S S3 := kcW_t (show kcW S S2 from kScW_S2) kpcW_S3
            have nxr_length_S3 : (f_xr_length S3).toInt = (f_xr_length S2).toInt := congrArg Int32.toInt kpcL_S3
            have nxe_underWay_S3 : (f_xe_underWay S3).toInt = (f_xe_underWay S2).toInt := congrArg Int32.toInt kpcU_S3
            have nxp_columns_S3 : (f_xp_columns S3).toInt = (f_xp_columns S2).toInt := congrArg Int32.toInt kpcW_S3.1
            have nxp_rows_S3 : (f_xp_rows S3).toInt = (f_xp_rows S2).toInt := congrArg Int32.toInt kpcW_S3.2
            have rrv3 := zt_rng rv3
            refine lv_istore (lv' := [(4, .int rv3), (1, .int x1), (3, .int rv2), (2, .int i), (0, .ref (ad 60))]) hx hb d_Reader_readProcedure_109 hl (by decide) rfl (fun ls hl => ?_)
            refine lv_iload hx hb d_Reader_readProcedure_111 (lv_at hl 0 rfl) ?_
            refine lv_if_ne (tgt := 120) hx hb d_Reader_readProcedure_113 (by decide) (fun c113_1 => ?_) (fun c113_1 => ?_)
            · have fc113_1 : ¬ rv3.toInt = 0 := zt_ne (show rv3.toInt = _ from rfl) tI_0 c113_1
              refine lv_iload hx hb d_Reader_readProcedure_120 (lv_at hl 0 rfl) ?_
              exact j_iret F hr hlocks hK hS S3 ⟨⟨i_vst, i_vc0, i_vc1, i_vc2, i_vc3, i_vv0, i_vv1, i_vv2, i_vv3, i_vg, i_wct, i_wln, i_sd0, i_sd1, i_sd2, i_sd3, i_rln, i_rtx, i_rpl, i_rtk, i_cnv, i_pts, i_cik, i_und⟩, kScL_S3, kScU_S3, kScW_S3⟩ hP hD d_Reader_readProcedure_122
            · have fc113_1 : rv3.toInt = 0 := zt_eq (show rv3.toInt = _ from rfl) tI_0 c113_1
              refine lv_iload_n hx hb d_Reader_readProcedure_116 rfl (lv_at hl 1 rfl) ?_
              refine lv_if_ne (tgt := 123) hx hb d_Reader_readProcedure_117 (by decide) (fun c117_1 => ?_) (fun c117_1 => ?_)
              · have fc117_1 : ¬ (-j1.toInt + o.toInt) = 0 := zt_ne fx1 tI_0 c117_1
                refine lv_aload_n hx hb d_Reader_readProcedure_123 rfl (lv_at hl 4 rfl) ?_
                refine va_get (D := D) (ci := 5) (v := .ref (ad 62)) (C := "PageScribe$Reader") (T := F_Reader) (N := 10) hx hb hts i_Reader hown hK hP 60 (ce_60 _ _ _) cl_5 8 (by decide) (hts _ k_1_178) (fun _ h9 => h9) rfl d_Reader_readProcedure_124 ?_
                refine lv_aload_n hx hb d_Reader_readProcedure_127 rfl (lv_at hl 4 rfl) ?_
                refine va_get (D := D) (ci := 5) (v := .int (f_xr_tokenKind S3)) (C := "PageScribe$Reader") (T := F_Reader) (N := 10) hx hb hts i_Reader hown hK hP 60 (ce_60 _ _ _) cl_5 5 (by decide) (hts _ k_1_172) (fun _ h9 => h9) rfl d_Reader_readProcedure_128 ?_
                refine lv_aload_n hx hb d_Reader_readProcedure_131 rfl (lv_at hl 4 rfl) ?_
                refine va_get (D := D) (ci := 5) (v := .int (f_xr_tokenNumber S3)) (C := "PageScribe$Reader") (T := F_Reader) (N := 10) hx hb hts i_Reader hown hK hP 60 (ce_60 _ _ _) cl_5 6 (by decide) (hts _ k_1_174) (fun _ h9 => h9) rfl d_Reader_readProcedure_132 ?_
                refine lv_aload_n hx hb d_Reader_readProcedure_135 rfl (lv_at hl 4 rfl) ?_
                refine va_get (D := D) (ci := 5) (v := .double (f_xr_tokenReal S3)) (C := "PageScribe$Reader") (T := F_Reader) (N := 10) hx hb hts i_Reader hown hK hP 60 (ce_60 _ _ _) cl_5 7 (by decide) (hts _ k_1_176) (fun _ h9 => h9) rfl d_Reader_readProcedure_136 ?_
                refine jc_ci (w := (fun u => u)) hK hP hD hS hA (va_runV (As := [.int (f_xr_tokenKind S3), .int (f_xr_tokenNumber S3), .double (f_xr_tokenReal S3)]) (rest := []) F (c_Row_push_62 l D T ad S3 (f_xr_tokenKind S3) (f_xr_tokenNumber S3) (f_xr_tokenReal S3)  H.size ⟨i_vst, i_vc0, i_vc1, i_vc2, i_vc3, i_vv0, i_vv1, i_vv2, i_vv3, i_vg, i_wct, i_wln, i_sd0, i_sd1, i_sd2, i_sd3, i_rln, i_rtx, i_rpl, i_rtk, i_cnv, i_pts, i_cik, i_und⟩ (show dB (f_xr_tokenReal S3) by omega)) (j_cV (k := 3) (C := "PageScribe$Row") hts k_2_104 k_1_2 k_3_163 k_2_103 k_8_179 (by decide +kernel) ⟨Nat.le_of_ble_eq_true rfl, Nat.le_of_ble_eq_true rfl⟩) (j_preV (q0 := 62) (ci := 4) hK hP hD csc csc_all csc_nd cl_4 (ce_62 _ _ _) (fun _ _ _ _ h => h) (fun _ _ _ => trivial)) rfl rfl hl.1 rfl (lv_room (Nat.le_of_ble_eq_true rfl)) d_Reader_readProcedure_139 ⟨Nat.le_of_ble_eq_true rfl, Nat.le_of_ble_eq_true rfl⟩) (fun rv4 S4 H locs hw4 hP hD hS => ?_)
                have hP : va_P D classes (cW T ad S4) H := hP
                have hD : va_D A (cW T ad S4) := hD
                obtain ⟨⟨i_vst, i_vc0, i_vc1, i_vc2, i_vc3, i_vv0, i_vv1, i_vv2, i_vv3, i_vg, i_wct, i_wln, i_sd0, i_sd1, i_sd2, i_sd3, i_rln, i_rtx, i_rpl, i_rtk, i_cnv, i_pts, i_cik, i_und⟩, kpcL_S4, kpcP_S4, kpcU_S4, kpcW_S4⟩ := hw4
                have kScL_S4 : kcL S S4 := kcL_t (show kcL S S3 from kScL_S3) kpcL_S4
                have kScU_S4 : kcU S S4 := kcU_t (show kcU S S3 from kScU_S3) kpcU_S4
                have kScW_S4 : kcW S S4 := kcW_t (show kcW S S3 from kScW_S3) kpcW_S4
                have nxr_length_S4 : (f_xr_length S4).toInt = (f_xr_length S3).toInt := congrArg Int32.toInt kpcL_S4
                have nxr_length_S4 : (f_xr_length S4).toInt = (f_xr_length S3).toInt := congrArg Int32.toInt kpcP_S4.1
                have nxr_place_S4 : (f_xr_place S4).toInt = (f_xr_place S3).toInt := congrArg Int32.toInt kpcP_S4.2.1
                have nxe_underWay_S4 : (f_xe_underWay S4).toInt = (f_xe_underWay S3).toInt := congrArg Int32.toInt kpcU_S4
                have nxp_columns_S4 : (f_xp_columns S4).toInt = (f_xp_columns S3).toInt := congrArg Int32.toInt kpcW_S4.1
                have nxp_rows_S4 : (f_xp_rows S4).toInt = (f_xp_rows S3).toInt := congrArg Int32.toInt kpcW_S4.2
                have rrv4 := zt_rng rv4
                refine lv_pop hx hb d_Reader_readProcedure_142 rfl ?_
                refine lv_iinc (v := (i + 1)) (lv' := [(2, .int (i + 1)), (4, .int rv3), (1, .int x1), (3, .int rv2), (0, .ref (ad 60))]) hx hb d_Reader_readProcedure_143 hl (k := 3) rfl (by first | rfl | decide) (by decide) rfl (fun ls hl => ?_)
                obtain ⟨x2, ex2⟩ : ∃ z, z = (i + 1) := ⟨_, rfl⟩
                rw [← ex2] at hl
                have fx2 : x2.toInt = (i.toInt + 1) := by rw [ex2]; exact (zt_add (show i.toInt = _ from rfl) tI_1 (by omega) (by omega)).trans (by omega)
                have hl : lv_has ls 5 [(2, .int x2), (4, .int rv3), (1, .int x1), (3, .int rv2), (0, .ref (ad 60))] := hl
                refine lv_goto (tgt := 12) hx hb d_Reader_readProcedure_146 (by decide) ?_
                exact ih (k - 1) (S4, x1, x2) _ _ _ (by omega) ⟨(show 0 ≤ x2.toInt ∧ x2.toInt ≤ 120 ∧ 120 ≤ x2.toInt + (((k - 1) : Nat) : Int) ∧ 0 ≤ x1.toInt ∧ x1.toInt ≤ 4 ∧ (x1.toInt = 0 → 0 ≤ (f_xr_place S4).toInt ∧ (f_xr_place S4).toInt < (f_xr_length S4).toInt ∧ ((a_xr_text S4) (f_xr_place S4).toInt.toNat).toInt = 123) by omega), ⟨i_vst, i_vc0, i_vc1, i_vc2, i_vc3, i_vv0, i_vv1, i_vv2, i_vv3, i_vg, i_wct, i_wln, i_sd0, i_sd1, i_sd2, i_sd3, i_rln, i_rtx, i_rpl, i_rtk, i_cnv, i_pts, i_cik, i_und⟩, (show kcL S S4 from kScL_S4), (show kcU S S4 from kScU_S4), (show kcW S S4 from kScW_S4), hP, hD, hS, lv_sub hl [0, 2, 4] rfl⟩
              · have fc117_1 : (-j1.toInt + o.toInt) = 0 := zt_eq fx1 tI_0 c117_1
                refine lv_iload hx hb d_Reader_readProcedure_120 (lv_at hl 0 rfl) ?_
                exact j_iret F hr hlocks hK hS S3 ⟨⟨i_vst, i_vc0, i_vc1, i_vc2, i_vc3, i_vv0, i_vv1, i_vv2, i_vv3, i_vg, i_wct, i_wln, i_sd0, i_sd1, i_sd2, i_sd3, i_rln, i_rtx, i_rpl, i_rtk, i_cnv, i_pts, i_cik, i_und⟩, kScL_S3, kScU_S3, kScW_S3⟩ hP hD d_Reader_readProcedure_122
          · have fc94_1 : rv2.toInt = 125 := zt_eq (show rv2.toInt = _ from rfl) tI_125 c94_1
            refine lv_aload_n hx hb d_Reader_readProcedure_97 rfl (lv_at hl 3 rfl) ?_
            refine lv_iload_n hx hb d_Reader_readProcedure_98 rfl (lv_at hl 0 rfl) ?_
            refine jc_ci (w := (fun u => u)) hK hP hD hS hA (va_runV (As := [.int x1]) (rest := []) F (c_Reader_makeProcedure l D T ad g Bq S2 x1  H.size ⟨i_vst, i_vc0, i_vc1, i_vc2, i_vc3, i_vv0, i_vv1, i_vv2, i_vv3, i_vg, i_wct, i_wln, i_sd0, i_sd1, i_sd2, i_sd3, i_rln, i_rtx, i_rpl, i_rtk, i_cnv, i_pts, i_cik, i_und⟩ (show 0 ≤ (f_xr_place S2).toInt ∧ (f_xr_place S2).toInt < (f_xr_length S2).toInt by first | omega | (simp only [fx1]; omega))) (j_cV (k := 1) (C := "PageScribe$Reader") hts k_3_82 k_1_7 k_3_79 k_3_81 k_0_3 (by decide +kernel) ⟨Nat.le_of_ble_eq_true rfl, Nat.le_of_ble_eq_true rfl⟩) (j_preV (q0 := 60) (ci := 5) hK hP hD csc csc_all csc_nd cl_5 (ce_60 _ _ _) (fun _ _ _ _ h => EC.calling h) (fun U hU hW => EC.at hS hAB hU hW hE)) rfl rfl hl.1 rfl (lv_room (Nat.le_of_ble_eq_true rfl)) d_Reader_readProcedure_99 ⟨Nat.le_of_ble_eq_true rfl, Nat.le_of_ble_eq_true rfl⟩) (fun rv5 S5 H locs hw5 hP hD hS => ?_)
            have hP : va_P D classes (cW T ad S5) H := hP
            have hD : va_D A (cW T ad S5) := hD
            obtain ⟨⟨i_vst, i_vc0, i_vc1, i_vc2, i_vc3, i_vv0, i_vv1, i_vv2, i_vv3, i_vg, i_wct, i_wln, i_sd0, i_sd1, i_sd2, i_sd3, i_rln, i_rtx, i_rpl, i_rtk, i_cnv, i_pts, i_cik, i_und⟩, kpcL_S5, kpcU_S5, kpcW_S5⟩ := hw5
            have kScL_S5 : kcL S S5 := kcL_t (show kcL S S2 from kScL_S2) kpcL_S5
            have kScU_S5 : kcU S S5 := kcU_t (show kcU S S2 from kScU_S2) kpcU_S5
            have kScW_S5 : kcW S S5 := kcW_t (show kcW S S2 from kScW_S2) kpcW_S5
            have nxr_length_S5 : (f_xr_length S5).toInt = (f_xr_length S2).toInt := congrArg Int32.toInt kpcL_S5
            have nxe_underWay_S5 : (f_xe_underWay S5).toInt = (f_xe_underWay S2).toInt := congrArg Int32.toInt kpcU_S5
            have nxp_columns_S5 : (f_xp_columns S5).toInt = (f_xp_columns S2).toInt := congrArg Int32.toInt kpcW_S5.1
            have nxp_rows_S5 : (f_xp_rows S5).toInt = (f_xp_rows S2).toInt := congrArg Int32.toInt kpcW_S5.2
            have rrv5 := zt_rng rv5
            refine lv_goto (tgt := 109) hx hb d_Reader_readProcedure_102 (by decide) ?_
            refine lv_istore (lv' := [(4, .int rv5), (1, .int x1), (3, .int rv2), (2, .int i), (0, .ref (ad 60))]) hx hb d_Reader_readProcedure_109 hl (by decide) rfl (fun ls hl => ?_)
            refine lv_iload hx hb d_Reader_readProcedure_111 (lv_at hl 0 rfl) ?_
            refine lv_if_ne (tgt := 120) hx hb d_Reader_readProcedure_113 (by decide) (fun c113_2 => ?_) (fun c113_2 => ?_)
            · have fc113_2 : ¬ rv5.toInt = 0 := zt_ne (show rv5.toInt = _ from rfl) tI_0 c113_2
              refine lv_iload hx hb d_Reader_readProcedure_120 (lv_at hl 0 rfl) ?_
              exact j_iret F hr hlocks hK hS S5 ⟨⟨i_vst, i_vc0, i_vc1, i_vc2, i_vc3, i_vv0, i_vv1, i_vv2, i_vv3, i_vg, i_wct, i_wln, i_sd0, i_sd1, i_sd2, i_sd3, i_rln, i_rtx, i_rpl, i_rtk, i_cnv, i_pts, i_cik, i_und⟩, kScL_S5, kScU_S5, kScW_S5⟩ hP hD d_Reader_readProcedure_122
            · have fc113_2 : rv5.toInt = 0 := zt_eq (show rv5.toInt = _ from rfl) tI_0 c113_2
              refine lv_iload_n hx hb d_Reader_readProcedure_116 rfl (lv_at hl 1 rfl) ?_
              refine lv_if_ne (tgt := 123) hx hb d_Reader_readProcedure_117 (by decide) (fun c117_2 => ?_) (fun c117_2 => ?_)
              · have fc117_2 : ¬ (-j1.toInt + o.toInt) = 0 := zt_ne fx1 tI_0 c117_2
                refine lv_aload_n hx hb d_Reader_readProcedure_123 rfl (lv_at hl 4 rfl) ?_
                refine va_get (D := D) (ci := 5) (v := .ref (ad 62)) (C := "PageScribe$Reader") (T := F_Reader) (N := 10) hx hb hts i_Reader hown hK hP 60 (ce_60 _ _ _) cl_5 8 (by decide) (hts _ k_1_178) (fun _ h9 => h9) rfl d_Reader_readProcedure_124 ?_
                refine lv_aload_n hx hb d_Reader_readProcedure_127 rfl (lv_at hl 4 rfl) ?_
                refine va_get (D := D) (ci := 5) (v := .int (f_xr_tokenKind S5)) (C := "PageScribe$Reader") (T := F_Reader) (N := 10) hx hb hts i_Reader hown hK hP 60 (ce_60 _ _ _) cl_5 5 (by decide) (hts _ k_1_172) (fun _ h9 => h9) rfl d_Reader_readProcedure_128 ?_
                refine lv_aload_n hx hb d_Reader_readProcedure_131 rfl (lv_at hl 4 rfl) ?_
                refine va_get (D := D) (ci := 5) (v := .int (f_xr_tokenNumber S5)) (C := "PageScribe$Reader") (T := F_Reader) (N := 10) hx hb hts i_Reader hown hK hP 60 (ce_60 _ _ _) cl_5 6 (by decide) (hts _ k_1_174) (fun _ h9 => h9) rfl d_Reader_readProcedure_132 ?_
                refine lv_aload_n hx hb d_Reader_readProcedure_135 rfl (lv_at hl 4 rfl) ?_
                refine va_get (D := D) (ci := 5) (v := .double (f_xr_tokenReal S5)) (C := "PageScribe$Reader") (T := F_Reader) (N := 10) hx hb hts i_Reader hown hK hP 60 (ce_60 _ _ _) cl_5 7 (by decide) (hts _ k_1_176) (fun _ h9 => h9) rfl d_Reader_readProcedure_136 ?_
                refine jc_ci (w := (fun u => u)) hK hP hD hS hA (va_runV (As := [.int (f_xr_tokenKind S5), .int (f_xr_tokenNumber S5), .double (f_xr_tokenReal S5)]) (rest := []) F (c_Row_push_62 l D T ad S5 (f_xr_tokenKind S5) (f_xr_tokenNumber S5) (f_xr_tokenReal S5)  H.size ⟨i_vst, i_vc0, i_vc1, i_vc2, i_vc3, i_vv0, i_vv1, i_vv2, i_vv3, i_vg, i_wct, i_wln, i_sd0, i_sd1, i_sd2, i_sd3, i_rln, i_rtx, i_rpl, i_rtk, i_cnv, i_pts, i_cik, i_und⟩ (show dB (f_xr_tokenReal S5) by omega)) (j_cV (k := 3) (C := "PageScribe$Row") hts k_2_104 k_1_2 k_3_163 k_2_103 k_8_179 (by decide +kernel) ⟨Nat.le_of_ble_eq_true rfl, Nat.le_of_ble_eq_true rfl⟩) (j_preV (q0 := 62) (ci := 4) hK hP hD csc csc_all csc_nd cl_4 (ce_62 _ _ _) (fun _ _ _ _ h => h) (fun _ _ _ => trivial)) rfl rfl hl.1 rfl (lv_room (Nat.le_of_ble_eq_true rfl)) d_Reader_readProcedure_139 ⟨Nat.le_of_ble_eq_true rfl, Nat.le_of_ble_eq_true rfl⟩) (fun rv6 S6 H locs hw6 hP hD hS => ?_)
                have hP : va_P D classes (cW T ad S6) H := hP
                have hD : va_D A (cW T ad S6) := hD
                obtain ⟨⟨i_vst, i_vc0, i_vc1, i_vc2, i_vc3, i_vv0, i_vv1, i_vv2, i_vv3, i_vg, i_wct, i_wln, i_sd0, i_sd1, i_sd2, i_sd3, i_rln, i_rtx, i_rpl, i_rtk, i_cnv, i_pts, i_cik, i_und⟩, kpcL_S6, kpcP_S6, kpcU_S6, kpcW_S6⟩ := hw6
                have kScL_S6 : kcL S S6 := kcL_t (show kcL S S5 from kScL_S5) kpcL_S6
                have kScU_S6 : kcU S S6 := kcU_t (show kcU S S5 from kScU_S5) kpcU_S6
                have kScW_S6 : kcW S S6 := kcW_t (show kcW S S5 from kScW_S5) kpcW_S6
                have nxr_length_S6 : (f_xr_length S6).toInt = (f_xr_length S5).toInt := congrArg Int32.toInt kpcL_S6
                have nxr_length_S6 : (f_xr_length S6).toInt = (f_xr_length S5).toInt := congrArg Int32.toInt kpcP_S6.1
                have nxr_place_S6 : (f_xr_place S6).toInt = (f_xr_place S5).toInt := congrArg Int32.toInt kpcP_S6.2.1
                have nxe_underWay_S6 : (f_xe_underWay S6).toInt = (f_xe_underWay S5).toInt := congrArg Int32.toInt kpcU_S6
                have nxp_columns_S6 : (f_xp_columns S6).toInt = (f_xp_columns S5).toInt := congrArg Int32.toInt kpcW_S6.1
                have nxp_rows_S6 : (f_xp_rows S6).toInt = (f_xp_rows S5).toInt := congrArg Int32.toInt kpcW_S6.2
                have rrv6 := zt_rng rv6
                refine lv_pop hx hb d_Reader_readProcedure_142 rfl ?_
                refine lv_iinc (v := (i + 1)) (lv' := [(2, .int (i + 1)), (4, .int rv5), (1, .int x1), (3, .int rv2), (0, .ref (ad 60))]) hx hb d_Reader_readProcedure_143 hl (k := 3) rfl (by first | rfl | decide) (by decide) rfl (fun ls hl => ?_)
                obtain ⟨x3, ex3⟩ : ∃ z, z = (i + 1) := ⟨_, rfl⟩
                rw [← ex3] at hl
                have fx3 : x3.toInt = (i.toInt + 1) := by rw [ex3]; exact (zt_add (show i.toInt = _ from rfl) tI_1 (by omega) (by omega)).trans (by omega)
                have hl : lv_has ls 5 [(2, .int x3), (4, .int rv5), (1, .int x1), (3, .int rv2), (0, .ref (ad 60))] := hl
                refine lv_goto (tgt := 12) hx hb d_Reader_readProcedure_146 (by decide) ?_
                exact ih (k - 1) (S6, x1, x3) _ _ _ (by omega) ⟨(show 0 ≤ x3.toInt ∧ x3.toInt ≤ 120 ∧ 120 ≤ x3.toInt + (((k - 1) : Nat) : Int) ∧ 0 ≤ x1.toInt ∧ x1.toInt ≤ 4 ∧ (x1.toInt = 0 → 0 ≤ (f_xr_place S6).toInt ∧ (f_xr_place S6).toInt < (f_xr_length S6).toInt ∧ ((a_xr_text S6) (f_xr_place S6).toInt.toNat).toInt = 123) by omega), ⟨i_vst, i_vc0, i_vc1, i_vc2, i_vc3, i_vv0, i_vv1, i_vv2, i_vv3, i_vg, i_wct, i_wln, i_sd0, i_sd1, i_sd2, i_sd3, i_rln, i_rtx, i_rpl, i_rtk, i_cnv, i_pts, i_cik, i_und⟩, (show kcL S S6 from kScL_S6), (show kcU S S6 from kScU_S6), (show kcW S S6 from kScW_S6), hP, hD, hS, lv_sub hl [0, 2, 4] rfl⟩
              · have fc117_2 : (-j1.toInt + o.toInt) = 0 := zt_eq fx1 tI_0 c117_2
                refine lv_iload hx hb d_Reader_readProcedure_120 (lv_at hl 0 rfl) ?_
                exact j_iret F hr hlocks hK hS S5 ⟨⟨i_vst, i_vc0, i_vc1, i_vc2, i_vc3, i_vv0, i_vv1, i_vv2, i_vv3, i_vg, i_wct, i_wln, i_sd0, i_sd1, i_sd2, i_sd3, i_rln, i_rtx, i_rpl, i_rtk, i_cnv, i_pts, i_cik, i_und⟩, kScL_S5, kScU_S5, kScW_S5⟩ hP hD d_Reader_readProcedure_122
        · refine lv_iload_n hx hb d_Reader_readProcedure_78 rfl (lv_at hl 0 rfl) ?_
          refine lv_bipush (v := 125) hx hb d_Reader_readProcedure_79 (by decide) ?_
          refine lv_icmp_ne (tgt := 88) hx hb d_Reader_readProcedure_81 (by decide) (fun c81_1 => ?_) (fun c81_1 => ?_)
          · have fc81_1 : ¬ rv2.toInt = 125 := zt_ne (show rv2.toInt = _ from rfl) tI_125 c81_1
            refine lv_iconst (v := 0) hx hb d_Reader_readProcedure_88 (by decide) ?_
            exact key1 (0 : Int32) _ _ _ ⟨(show (rv2.toInt = 125 → (0 : Int32).toInt = 1) ∧ (¬ rv2.toInt = 125 → (0 : Int32).toInt = 0) by have := tI_0; omega), hP, hD, hS, lv_sub hl [0, 1, 2, 3] rfl⟩
          · have fc81_1 : rv2.toInt = 125 := zt_eq (show rv2.toInt = _ from rfl) tI_125 c81_1
            refine lv_iconst (v := 1) hx hb d_Reader_readProcedure_84 (by decide) ?_
            refine lv_goto (tgt := 89) hx hb d_Reader_readProcedure_85 (by decide) ?_
            exact key1 (1 : Int32) _ _ _ ⟨(show (rv2.toInt = 125 → (1 : Int32).toInt = 1) ∧ (¬ rv2.toInt = 125 → (1 : Int32).toInt = 0) by have := tI_1; omega), hP, hD, hS, lv_sub hl [0, 1, 2, 3] rfl⟩
      · have fc37_1 : rv2.toInt = 123 := zt_eq (show rv2.toInt = _ from rfl) tI_123 c37_1
        refine lv_iload_n hx hb d_Reader_readProcedure_40 rfl (lv_at hl 2 rfl) ?_
        refine lv_iconst (v := 4) hx hb d_Reader_readProcedure_41 (by decide) ?_
        refine lv_icmp_lt (tgt := 48) hx hb d_Reader_readProcedure_42 (by decide) (fun c42_1 => ?_) (fun c42_1 => ?_)
        · have fc42_1 : o.toInt < 4 := zt_lt (show o.toInt = _ from rfl) tI_4 c42_1
          refine lv_aload_n hx hb d_Reader_readProcedure_48 rfl (lv_at hl 3 rfl) ?_
          refine va_get (D := D) (ci := 5) (v := .ref (ad 66)) (C := "PageScribe$Reader") (T := F_Reader) (N := 10) hx hb hts i_Reader hown hK hP 60 (ce_60 _ _ _) cl_5 9 (by decide) (hts _ k_1_179) (fun _ h9 => h9) rfl d_Reader_readProcedure_49 ?_
          refine lv_iload_n hx hb d_Reader_readProcedure_52 rfl (lv_at hl 2 rfl) ?_
          refine lv_aload_n hx hb d_Reader_readProcedure_53 rfl (lv_at hl 3 rfl) ?_
          refine va_get (D := D) (ci := 5) (v := .ref (ad 62)) (C := "PageScribe$Reader") (T := F_Reader) (N := 10) hx hb hts i_Reader hown hK hP 60 (ce_60 _ _ _) cl_5 8 (by decide) (hts _ k_1_178) (fun _ h9 => h9) rfl d_Reader_readProcedure_54 ?_
          refine va_get (D := D) (ci := 4) (v := .int (f_xg_z S2)) (C := "PageScribe$Row") (T := F_Row) (N := 4) hx hb hts i_Row hown hK hP 62 (ce_62 _ _ _) cl_4 3 (by decide) (hts _ k_1_56) (fun _ h9 => h9) rfl d_Reader_readProcedure_57 ?_
          refine va_iast hx hb hK hP hD hS 66 0 (ce_66 _ _ _) rfl (zt_in (show o.toInt = _ from rfl) (by omega) (by omega)) d_Reader_readProcedure_60 (fun H locs hP hD hS => ?_)
          rw [cs_xr_begins] at hP hD
          rw [zt_ix (show o.toInt = _ from rfl)] at hP hD
          have hP : va_P D classes (cW T ad ((S2.1, S2.2.1, S2.2.2.1, S2.2.2.2.1, S2.2.2.2.2.1, S2.2.2.2.2.2.1, ((a_xr_text S2), (f_xr_length S2), (f_xr_place S2), (f_xr_tokenKind S2), (f_xr_tokenNumber S2), (f_xr_tokenReal S2), (upd (a_xr_begins S2) (o.toInt.toNat) (f_xg_z S2)), (a_xg_k S2), (a_xg_n S2), (a_xg_r S2), (f_xg_z S2)), S2.2.2.2.2.2.2.2.1, S2.2.2.2.2.2.2.2.2) : CS)) H := hP
          have hD : va_D A (cW T ad ((S2.1, S2.2.1, S2.2.2.1, S2.2.2.2.1, S2.2.2.2.2.1, S2.2.2.2.2.2.1, ((a_xr_text S2), (f_xr_length S2), (f_xr_place S2), (f_xr_tokenKind S2), (f_xr_tokenNumber S2), (f_xr_tokenReal S2), (upd (a_xr_begins S2) (o.toInt.toNat) (f_xg_z S2)), (a_xg_k S2), (a_xg_n S2), (a_xg_r S2), (f_xg_z S2)), S2.2.2.2.2.2.2.2.1, S2.2.2.2.2.2.2.2.2) : CS)) := hD
          refine lv_iinc (v := (o + 1)) (lv' := [(1, .int (o + 1)), (3, .int rv2), (2, .int i), (0, .ref (ad 60))]) hx hb d_Reader_readProcedure_61 hl (k := 2) rfl (by first | rfl | decide) (by decide) rfl (fun ls hl => ?_)
          obtain ⟨x4, ex4⟩ : ∃ z, z = (o + 1) := ⟨_, rfl⟩
          rw [← ex4] at hl
          have fx4 : x4.toInt = (o.toInt + 1) := by rw [ex4]; exact (zt_add (show o.toInt = _ from rfl) tI_1 (by omega) (by omega)).trans (by omega)
          have hl : lv_has ls 5 [(1, .int x4), (3, .int rv2), (2, .int i), (0, .ref (ad 60))] := hl
          refine lv_aload_n hx hb d_Reader_readProcedure_64 rfl (lv_at hl 3 rfl) ?_
          refine lv_dup hx hb d_Reader_readProcedure_65 rfl ?_
          refine va_get (D := D) (ci := 5) (v := .int (f_xr_place S2)) (C := "PageScribe$Reader") (T := F_Reader) (N := 10) hx hb hts i_Reader hown hK hP 60 (ce_60 _ _ _) cl_5 4 (by decide) (hts _ k_1_171) (fun _ h9 => h9) rfl d_Reader_readProcedure_66 ?_
          refine lv_iconst (v := 1) hx hb d_Reader_readProcedure_69 (by decide) ?_
          refine lv_iadd hx hb d_Reader_readProcedure_70 ?_
          refine lv_topi (fun x5 ex5 => ?_)
          have fx5 : x5.toInt = ((f_xr_place S2).toInt + 1) := by rw [ex5]; exact (zt_add (show (f_xr_place S2).toInt = _ from rfl) tI_1 (by omega) (by omega)).trans (by omega)
          refine va_put (D := D) (ci := 5) (v := .int x5) (ty := .int) (C := "PageScribe$Reader") (T := F_Reader) (N := 10) hx hb hts i_Reader t_Reader t_Reader_ok n_Reader hown hK hP hD hS 60 (ce_60 _ _ _) cl_5 4 (by decide) (hts _ k_1_171) (fun _ h9 => h9) rfl (by decide +kernel) rfl rfl (Nat.le_of_ble_eq_true rfl) d_Reader_readProcedure_71 (fun H locs hP hD hS => ?_)
          rw [cp_xr_place] at hP hD
          have hP : va_P D classes (cW T ad ((S2.1, S2.2.1, S2.2.2.1, S2.2.2.2.1, S2.2.2.2.2.1, S2.2.2.2.2.2.1, ((a_xr_text S2), (f_xr_length S2), x5, (f_xr_tokenKind S2), (f_xr_tokenNumber S2), (f_xr_tokenReal S2), (upd (a_xr_begins S2) (o.toInt.toNat) (f_xg_z S2)), (a_xg_k S2), (a_xg_n S2), (a_xg_r S2), (f_xg_z S2)), S2.2.2.2.2.2.2.2.1, S2.2.2.2.2.2.2.2.2) : CS)) H := hP
          have hD : va_D A (cW T ad ((S2.1, S2.2.1, S2.2.2.1, S2.2.2.2.1, S2.2.2.2.2.1, S2.2.2.2.2.2.1, ((a_xr_text S2), (f_xr_length S2), x5, (f_xr_tokenKind S2), (f_xr_tokenNumber S2), (f_xr_tokenReal S2), (upd (a_xr_begins S2) (o.toInt.toNat) (f_xg_z S2)), (a_xg_k S2), (a_xg_n S2), (a_xg_r S2), (f_xg_z S2)), S2.2.2.2.2.2.2.2.1, S2.2.2.2.2.2.2.2.2) : CS)) := hD
          refine lv_goto (tgt := 143) hx hb d_Reader_readProcedure_74 (by decide) ?_
          refine lv_iinc (v := (i + 1)) (lv' := [(2, .int (i + 1)), (1, .int x4), (3, .int rv2), (0, .ref (ad 60))]) hx hb d_Reader_readProcedure_143 hl (k := 2) rfl (by first | rfl | decide) (by decide) rfl (fun ls hl => ?_)
          obtain ⟨x6, ex6⟩ : ∃ z, z = (i + 1) := ⟨_, rfl⟩
          rw [← ex6] at hl
          have fx6 : x6.toInt = (i.toInt + 1) := by rw [ex6]; exact (zt_add (show i.toInt = _ from rfl) tI_1 (by omega) (by omega)).trans (by omega)
          have hl : lv_has ls 5 [(2, .int x6), (1, .int x4), (3, .int rv2), (0, .ref (ad 60))] := hl
          refine lv_goto (tgt := 12) hx hb d_Reader_readProcedure_146 (by decide) ?_
          exact ih (k - 1) (((S2.1, S2.2.1, S2.2.2.1, S2.2.2.2.1, S2.2.2.2.2.1, S2.2.2.2.2.2.1, ((a_xr_text S2), (f_xr_length S2), x5, (f_xr_tokenKind S2), (f_xr_tokenNumber S2), (f_xr_tokenReal S2), (upd (a_xr_begins S2) (o.toInt.toNat) (f_xg_z S2)), (a_xg_k S2), (a_xg_n S2), (a_xg_r S2), (f_xg_z S2)), S2.2.2.2.2.2.2.2.1, S2.2.2.2.2.2.2.2.2) : CS), x4, x6) _ _ _ (by omega) ⟨(show 0 ≤ x6.toInt ∧ x6.toInt ≤ 120 ∧ 120 ≤ x6.toInt + (((k - 1) : Nat) : Int) ∧ 0 ≤ x4.toInt ∧ x4.toInt ≤ 4 ∧ (x4.toInt = 0 → 0 ≤ x5.toInt ∧ x5.toInt < (f_xr_length S2).toInt ∧ ((a_xr_text S2) x5.toInt.toNat).toInt = 123) by omega), ⟨i_vst, i_vc0, i_vc1, i_vc2, i_vc3, i_vv0, i_vv1, i_vv2, i_vv3, i_vg, i_wct, i_wln, i_sd0, i_sd1, i_sd2, i_sd3, i_rln, i_rtx, (show 0 ≤ x5.toInt ∧ x5.toInt ≤ 300 by omega), i_rtk, i_cnv, i_pts, i_cik, i_und⟩, (show kcL S ((S2.1, S2.2.1, S2.2.2.1, S2.2.2.2.1, S2.2.2.2.2.1, S2.2.2.2.2.2.1, ((a_xr_text S2), (f_xr_length S2), x5, (f_xr_tokenKind S2), (f_xr_tokenNumber S2), (f_xr_tokenReal S2), (upd (a_xr_begins S2) (o.toInt.toNat) (f_xg_z S2)), (a_xg_k S2), (a_xg_n S2), (a_xg_r S2), (f_xg_z S2)), S2.2.2.2.2.2.2.2.1, S2.2.2.2.2.2.2.2.2) : CS) from kScL_S2), (show kcU S ((S2.1, S2.2.1, S2.2.2.1, S2.2.2.2.1, S2.2.2.2.2.1, S2.2.2.2.2.2.1, ((a_xr_text S2), (f_xr_length S2), x5, (f_xr_tokenKind S2), (f_xr_tokenNumber S2), (f_xr_tokenReal S2), (upd (a_xr_begins S2) (o.toInt.toNat) (f_xg_z S2)), (a_xg_k S2), (a_xg_n S2), (a_xg_r S2), (f_xg_z S2)), S2.2.2.2.2.2.2.2.1, S2.2.2.2.2.2.2.2.2) : CS) from kScU_S2), (show kcW S ((S2.1, S2.2.1, S2.2.2.1, S2.2.2.2.1, S2.2.2.2.2.1, S2.2.2.2.2.2.1, ((a_xr_text S2), (f_xr_length S2), x5, (f_xr_tokenKind S2), (f_xr_tokenNumber S2), (f_xr_tokenReal S2), (upd (a_xr_begins S2) (o.toInt.toNat) (f_xg_z S2)), (a_xg_k S2), (a_xg_n S2), (a_xg_r S2), (f_xg_z S2)), S2.2.2.2.2.2.2.2.1, S2.2.2.2.2.2.2.2.2) : CS) from kScW_S2), hP, hD, hS, lv_sub hl [0, 1, 3] rfl⟩
        · have fc42_1 : 4 ≤ o.toInt := Int.not_lt.mp (zt_nlt (show o.toInt = _ from rfl) tI_4 c42_1)
          refine lv_bipush (v := 12) hx hb d_Reader_readProcedure_45 (by decide) ?_
          exact j_iret F hr hlocks hK hS S2 ⟨⟨i_vst, i_vc0, i_vc1, i_vc2, i_vc3, i_vv0, i_vv1, i_vv2, i_vv3, i_vg, i_wct, i_wln, i_sd0, i_sd1, i_sd2, i_sd3, i_rln, i_rtx, i_rpl, i_rtk, i_cnv, i_pts, i_cik, i_und⟩, kScL_S2, kScU_S2, kScW_S2⟩ hP hD d_Reader_readProcedure_47
theorem d_Reader_next_0 : decode prog_7_method_6_code 0 = .ok (.aload_n 0, 1) := by decide +kernel
theorem d_Reader_next_1 : decode prog_7_method_6_code 1 = .ok (.aload_n 0, 1) := by decide +kernel
theorem d_Reader_next_2 : decode prog_7_method_6_code 2 = .ok (.getfield 19, 3) := by decide +kernel
theorem d_Reader_next_5 : decode prog_7_method_6_code 5 = .ok (.invokevirtual 53, 3) := by decide +kernel
theorem d_Reader_next_8 : decode prog_7_method_6_code 8 = .ok (.bipush 123, 2) := by decide +kernel
theorem d_Reader_next_10 : decode prog_7_method_6_code 10 = .ok (.if_icmp .ne 10, 3) := by decide +kernel
theorem d_Reader_next_20 : decode prog_7_method_6_code 20 = .ok (.aload_n 0, 1) := by decide +kernel
theorem d_Reader_next_21 : decode prog_7_method_6_code 21 = .ok (.invokevirtual 61, 3) := by decide +kernel
theorem d_Reader_next_24 : decode prog_7_method_6_code 24 = .ok (.ireturn, 1) := by decide +kernel
theorem d_Reader_next_13 : decode prog_7_method_6_code 13 = .ok (.aload_n 0, 1) := by decide +kernel
theorem d_Reader_next_14 : decode prog_7_method_6_code 14 = .ok (.invokevirtual 57, 3) := by decide +kernel
theorem k_3_77 : Cond.code ⟨"PageScribe$Reader", "readProcedure", "()I"⟩ prog_7_method_7_code 5 (some .int) ∈ gw := gw_of (tb_3 (List.mem_of_getElem? (i := 77) (by decide +kernel))) (by decide +kernel)
theorem k_3_74 : Cond.methodLink "PageScribe$Reader" 57 ⟨"PageScribe$Reader", "readProcedure", "()I"⟩ ∈ gw := gw_of (tb_3 (List.mem_of_getElem? (i := 74) (by decide +kernel))) (by decide +kernel)
theorem k_3_76 : Cond.instanceMethod ⟨"PageScribe$Reader", "readProcedure", "()I"⟩ ∈ gw := gw_of (tb_3 (List.mem_of_getElem? (i := 76) (by decide +kernel))) (by decide +kernel)
theorem k_0_2 : Cond.selects "PageScribe$Reader" ⟨"PageScribe$Reader", "readProcedure", "()I"⟩ ⟨"PageScribe$Reader", "readProcedure", "()I"⟩ ∈ gw := gw_of (tb_0 (List.mem_of_getElem? (i := 2) (by decide +kernel))) (by decide +kernel)
theorem d_Reader_next_17 : decode prog_7_method_6_code 17 = .ok (.goto 7, 3) := by decide +kernel
set_option maxHeartbeats 4000000 in
set_option maxRecDepth 100000 in
theorem c_Reader_next (l : Launch) (D : va_G) (T : Nat → ClassId) (ad : Nat → Nat) (g : GE) (Bq : Nat → Prop) (S : CS)  (sz : Nat)  (hI : CIv S) (h1 : 0 ≤ (f_xr_place S).toInt ∧ (f_xr_place S).toInt < (f_xr_length S).toInt) : Met l ⟨"PageScribe$Reader", "next", "()I"⟩ (wy ⟨"PageScribe$Reader", "next", "()I"⟩ prog_7_method_6_code 1 (some .int)) ({ frames := 9, cells := 0, slots := 0, locals := 630 }) (va_Pc [.ref (ad 60)] (Pw D T (cW T ad S) sz (EC g Bq ad))) (va_Qi (fun (r : Int32) (u : CS) => CIv u ∧ kcL S u ∧ kcU S u ∧ kcW S u) (fun u t => Bw D T (va_A (cW T ad S) sz) (cW T ad u) t) (va_A (cW T ad S) sz)) 0 0 (va_A (cW T ad S) sz) := by
  refine j_met (y := ⟨"PageScribe$Reader", "next", "()I"⟩) (b := prog_7_method_6_code) (n := 1) (ret := (some .int)) (av := [.ref (ad 60)]) (Qc := fun A => va_Qi (fun (r : Int32) (u : CS) => CIv u ∧ kcL S u ∧ kcU S u ∧ kcW S u) (fun u t => Bw D T A (cW T ad u) t) A) (by decide +kernel) (Nat.le_of_ble_eq_true rfl) (fun p e s m args below meth c A ls F hr hlocks hnm hK hP hD hS hA hN hE hl => ?_)
  obtain ⟨hx, hb, hml, hown, hts⟩ := id F
  have hl : lv_has ls 1 [(0, .ref (ad 60))] := hl
  obtain ⟨i_vst, i_vc0, i_vc1, i_vc2, i_vc3, i_vv0, i_vv1, i_vv2, i_vv3, i_vg, i_wct, i_wln, i_sd0, i_sd1, i_sd2, i_sd3, i_rln, i_rtx, i_rpl, i_rtk, i_cnv, i_pts, i_cik, i_und⟩ := id hI
  have hAB : ∀ q, A q → Bq q := EC.ab hE hN
  have hEV := hE.1.narrow hAB
  refine lv_aload_n hx hb d_Reader_next_0 rfl (lv_at hl 0 rfl) ?_
  refine lv_aload_n hx hb d_Reader_next_1 rfl (lv_at hl 0 rfl) ?_
  refine va_get (D := D) (ci := 5) (v := .int (f_xr_place S)) (C := "PageScribe$Reader") (T := F_Reader) (N := 10) hx hb hts i_Reader hown hK hP 60 (ce_60 _ _ _) cl_5 4 (by decide) (hts _ k_1_171) (fun _ h9 => h9) rfl d_Reader_next_2 ?_
  refine jc_ci (w := (fun _ => S)) hK hP hD hS hA (va_runV (As := [.int (f_xr_place S)]) (rest := []) F (c_Reader_charAt l D T ad S (f_xr_place S)  s.heap.size ⟨i_vst, i_vc0, i_vc1, i_vc2, i_vc3, i_vv0, i_vv1, i_vv2, i_vv3, i_vg, i_wct, i_wln, i_sd0, i_sd1, i_sd2, i_sd3, i_rln, i_rtx, i_rpl, i_rtk, i_cnv, i_pts, i_cik, i_und⟩) (j_cV (k := 1) (C := "PageScribe$Reader") hts k_3_73 k_1_7 k_3_70 k_3_72 k_0_1 (by decide +kernel) ⟨Nat.le_of_ble_eq_true rfl, Nat.le_of_ble_eq_true rfl⟩) (j_preV (q0 := 60) (ci := 5) hK hP hD csc csc_all csc_nd cl_5 (ce_60 _ _ _) (fun _ _ _ _ h => h) (fun _ _ _ => trivial)) rfl rfl hl.1 rfl (lv_room (Nat.le_of_ble_eq_true rfl)) d_Reader_next_5 ⟨Nat.le_of_ble_eq_true rfl, Nat.le_of_ble_eq_true rfl⟩) (fun rv1 u1 H locs hw1 hP hD hS => ?_)
  have hP : va_P D classes (cW T ad S) H := hP
  have hD : va_D A (cW T ad S) := hD
  have qhw1 : 0 ≤ rv1.toInt ∧ rv1.toInt ≤ 127 ∧ (rv1.toInt = 0 ∨ (0 ≤ (f_xr_place S).toInt ∧ (f_xr_place S).toInt < (f_xr_length S).toInt ∧ rv1.toInt = ((a_xr_text S) (f_xr_place S).toInt.toNat).toInt)) := hw1
  have rrv1 := zt_rng rv1
  refine lv_bipush (v := 123) hx hb d_Reader_next_8 (by decide) ?_
  refine lv_icmp_ne (tgt := 20) hx hb d_Reader_next_10 (by decide) (fun c10_1 => ?_) (fun c10_1 => ?_)
  · first | have fc10_1 : rv1.toInt < 123 := (by have := zt_ne (show rv1.toInt = _ from rfl) tI_123 c10_1; omega) | have fc10_1 : 123 < rv1.toInt := (by have := zt_ne (show rv1.toInt = _ from rfl) tI_123 c10_1; omega) | skip
    refine lv_aload_n hx hb d_Reader_next_20 rfl (lv_at hl 0 rfl) ?_
    refine jc_ci (w := (fun u => u)) hK hP hD hS hA (va_runV (As := []) (rest := []) F (c_Reader_readPlain l D T ad g Bq S  H.size ⟨i_vst, i_vc0, i_vc1, i_vc2, i_vc3, i_vv0, i_vv1, i_vv2, i_vv3, i_vg, i_wct, i_wln, i_sd0, i_sd1, i_sd2, i_sd3, i_rln, i_rtx, i_rpl, i_rtk, i_cnv, i_pts, i_cik, i_und⟩ (show 0 ≤ (f_xr_place S).toInt ∧ (f_xr_place S).toInt < (f_xr_length S).toInt by omega)) (j_cV (k := 0) (C := "PageScribe$Reader") hts k_3_116 k_1_7 k_3_113 k_3_115 k_0_5 (by decide +kernel) ⟨Nat.le_of_ble_eq_true rfl, Nat.le_of_ble_eq_true rfl⟩) (j_preV (q0 := 60) (ci := 5) hK hP hD csc csc_all csc_nd cl_5 (ce_60 _ _ _) (fun _ _ _ _ h => EC.calling h) (fun U hU hW => EC.at hS hAB hU hW hE)) rfl rfl hl.1 rfl (lv_room (Nat.le_of_ble_eq_true rfl)) d_Reader_next_21 ⟨Nat.le_of_ble_eq_true rfl, Nat.le_of_ble_eq_true rfl⟩) (fun rv2 S1 H locs hw2 hP hD hS => ?_)
    have hP : va_P D classes (cW T ad S1) H := hP
    have hD : va_D A (cW T ad S1) := hD
    obtain ⟨⟨i_vst, i_vc0, i_vc1, i_vc2, i_vc3, i_vv0, i_vv1, i_vv2, i_vv3, i_vg, i_wct, i_wln, i_sd0, i_sd1, i_sd2, i_sd3, i_rln, i_rtx, i_rpl, i_rtk, i_cnv, i_pts, i_cik, i_und⟩, kpcL_S1, kpcU_S1, kpcW_S1⟩ := hw2
    have kScL_S1 : kcL S S1 := kcL_t (show kcL S S from (kcL_r S)) kpcL_S1
    have kScU_S1 : kcU S S1 := kcU_t (show kcU S S from (kcU_r S)) kpcU_S1
    have kScW_S1 : kcW S S1 := kcW_t (show kcW S S from (kcW_r S)) kpcW_S1
    have nxr_length_S1 : (f_xr_length S1).toInt = (f_xr_length S).toInt := congrArg Int32.toInt kpcL_S1
    have nxe_underWay_S1 : (f_xe_underWay S1).toInt = (f_xe_underWay S).toInt := congrArg Int32.toInt kpcU_S1
    have nxp_columns_S1 : (f_xp_columns S1).toInt = (f_xp_columns S).toInt := congrArg Int32.toInt kpcW_S1.1
    have nxp_rows_S1 : (f_xp_rows S1).toInt = (f_xp_rows S).toInt := congrArg Int32.toInt kpcW_S1.2
    have rrv2 := zt_rng rv2
    exact j_iret F hr hlocks hK hS S1 ⟨⟨i_vst, i_vc0, i_vc1, i_vc2, i_vc3, i_vv0, i_vv1, i_vv2, i_vv3, i_vg, i_wct, i_wln, i_sd0, i_sd1, i_sd2, i_sd3, i_rln, i_rtx, i_rpl, i_rtk, i_cnv, i_pts, i_cik, i_und⟩, kScL_S1, kScU_S1, kScW_S1⟩ hP hD d_Reader_next_24
  · have fc10_1 : rv1.toInt = 123 := zt_eq (show rv1.toInt = _ from rfl) tI_123 c10_1
    refine lv_aload_n hx hb d_Reader_next_13 rfl (lv_at hl 0 rfl) ?_
    refine jc_ci (w := (fun u => u)) hK hP hD hS hA (va_runV (As := []) (rest := []) F (c_Reader_readProcedure l D T ad g Bq S  H.size ⟨i_vst, i_vc0, i_vc1, i_vc2, i_vc3, i_vv0, i_vv1, i_vv2, i_vv3, i_vg, i_wct, i_wln, i_sd0, i_sd1, i_sd2, i_sd3, i_rln, i_rtx, i_rpl, i_rtk, i_cnv, i_pts, i_cik, i_und⟩ (show 0 ≤ (f_xr_place S).toInt ∧ (f_xr_place S).toInt < (f_xr_length S).toInt by omega) (show ((a_xr_text S) (f_xr_place S).toInt.toNat).toInt = 123 by omega)) (j_cV (k := 0) (C := "PageScribe$Reader") hts k_3_77 k_1_7 k_3_74 k_3_76 k_0_2 (by decide +kernel) ⟨Nat.le_of_ble_eq_true rfl, Nat.le_of_ble_eq_true rfl⟩) (j_preV (q0 := 60) (ci := 5) hK hP hD csc csc_all csc_nd cl_5 (ce_60 _ _ _) (fun _ _ _ _ h => EC.calling h) (fun U hU hW => EC.at hS hAB hU hW hE)) rfl rfl hl.1 rfl (lv_room (Nat.le_of_ble_eq_true rfl)) d_Reader_next_14 ⟨Nat.le_of_ble_eq_true rfl, Nat.le_of_ble_eq_true rfl⟩) (fun rv3 S2 H locs hw3 hP hD hS => ?_)
    have hP : va_P D classes (cW T ad S2) H := hP
    have hD : va_D A (cW T ad S2) := hD
    obtain ⟨⟨i_vst, i_vc0, i_vc1, i_vc2, i_vc3, i_vv0, i_vv1, i_vv2, i_vv3, i_vg, i_wct, i_wln, i_sd0, i_sd1, i_sd2, i_sd3, i_rln, i_rtx, i_rpl, i_rtk, i_cnv, i_pts, i_cik, i_und⟩, kpcL_S2, kpcU_S2, kpcW_S2⟩ := hw3
    have kScL_S2 : kcL S S2 := kcL_t (show kcL S S from (kcL_r S)) kpcL_S2
    have kScU_S2 : kcU S S2 := kcU_t (show kcU S S from (kcU_r S)) kpcU_S2
    have kScW_S2 : kcW S S2 := kcW_t (show kcW S S from (kcW_r S)) kpcW_S2
    have nxr_length_S2 : (f_xr_length S2).toInt = (f_xr_length S).toInt := congrArg Int32.toInt kpcL_S2
    have nxe_underWay_S2 : (f_xe_underWay S2).toInt = (f_xe_underWay S).toInt := congrArg Int32.toInt kpcU_S2
    have nxp_columns_S2 : (f_xp_columns S2).toInt = (f_xp_columns S).toInt := congrArg Int32.toInt kpcW_S2.1
    have nxp_rows_S2 : (f_xp_rows S2).toInt = (f_xp_rows S).toInt := congrArg Int32.toInt kpcW_S2.2
    have rrv3 := zt_rng rv3
    refine lv_goto (tgt := 24) hx hb d_Reader_next_17 (by decide) ?_
    exact j_iret F hr hlocks hK hS S2 ⟨⟨i_vst, i_vc0, i_vc1, i_vc2, i_vc3, i_vv0, i_vv1, i_vv2, i_vv3, i_vg, i_wct, i_wln, i_sd0, i_sd1, i_sd2, i_sd3, i_rln, i_rtx, i_rpl, i_rtk, i_cnv, i_pts, i_cik, i_und⟩, kScL_S2, kScU_S2, kScW_S2⟩ hP hD d_Reader_next_24
