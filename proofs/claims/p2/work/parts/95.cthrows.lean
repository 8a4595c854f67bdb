theorem d_Ps_run_12 : decode prog_1_method_3_code 12 = .ok (.new 67, 3) := by decide +kernel
theorem d_Ps_run_15 : decode prog_1_method_3_code 15 = .ok (.dup, 1) := by decide +kernel
theorem d_Ps_run_16 : decode prog_1_method_3_code 16 = .ok (.ldc 69, 2) := by decide +kernel
theorem d_Ps_run_18 : decode prog_1_method_3_code 18 = .ok (.invokespecial 71, 3) := by decide +kernel
theorem d_Ps_run_21 : decode prog_1_method_3_code 21 = .ok (.athrow, 1) := by decide +kernel
theorem k_2_230 : Cond.classLink "PageScribe" 67 "java/lang/IllegalArgumentException" ∈ gw := gw_of (tb_2 (List.mem_of_getElem? (i := 230) (by decide +kernel))) (by decide +kernel)
theorem k_2_231 : Cond.instantiable "java/lang/IllegalArgumentException" 6 ∈ gw := gw_of (tb_2 (List.mem_of_getElem? (i := 231) (by decide +kernel))) (by decide +kernel)
theorem k_1_16 : Cond.initialized "java/lang/IllegalArgumentException" ∈ gw := gw_of (tb_1 (List.mem_of_getElem? (i := 16) (by decide +kernel))) (by decide +kernel)
set_option maxHeartbeats 4000000 in
set_option maxRecDepth 100000 in
theorem t_Ps_run (l : Launch) (D : va_G) (T : Nat → ClassId) (ad : Nat → Nat) (S : CS) (p0 : Int32) (qs : Nat) (sz : Nat)  (hv : p0.toInt < 1 ∨ 500 < p0.toInt) (hfl : l.flags = flags0) : MetT l ⟨"PageScribe", "run", "(I)I"⟩ (wy ⟨"PageScribe", "run", "(I)I"⟩ prog_1_method_3_code 4 (some .int)) ({ frames := 6, cells := 1, slots := 6, locals := 420 }) (va_Pc [.ref (ad 0), .int p0] (Pw D T (cW T ad S) sz (EY 69 "the fuel is not 1 to 500" qs))) ((ThX "java/lang/IllegalArgumentException")) 1 6 (Rn sz) := by
  refine j_metTR (y := ⟨"PageScribe", "run", "(I)I"⟩) (b := prog_1_method_3_code) (n := 4) (ret := (some .int)) (av := [.ref (ad 0), .int p0]) (by decide +kernel) (Nat.le_of_ble_eq_true rfl) (fun p e s m args below meth c A0 ls F hr hlocks hno hK hP hD hS hA0 hE hl => ?_)
  obtain ⟨hx, hb, hml, hown, hts⟩ := id F
  have hl : lv_has ls 4 [(0, .ref (ad 0)), (1, .int p0)] := hl
  have rp0 := zt_rng p0
  refine lv_iload_n hx hb d_Ps_run_0 rfl (lv_at hl 1 rfl) ?_
  refine lv_iconst (v := 1) hx hb d_Ps_run_1 (by decide) ?_
  refine lv_icmp_lt (tgt := 12) hx hb d_Ps_run_2 (by decide) (fun c2_1 => ?_) (fun c2_1 => ?_)
  · have fc2_1 : p0.toInt < 1 := zt_lt (show p0.toInt = _ from rfl) tI_1 c2_1
    exact j_thr (pc := 12) F hfl hlocks hno hl.1 (by decide) (ow_of3 hts hE.1 hE.2.1 hE.2.2.1 ow_in1 ow_s1) k_2_230 k_2_231 k_1_16 hE.2.2.2 hS (fun q h cell hc => absurd (Array.getElem?_eq_some_iff.mp hc).1 (Nat.not_lt.mpr h)) d_Ps_run_12 d_Ps_run_15 d_Ps_run_16 d_Ps_run_18 d_Ps_run_21 (Nat.le_of_ble_eq_true rfl) (Nat.le_of_ble_eq_true rfl) (Nat.le_of_ble_eq_true rfl) (Nat.le_of_ble_eq_true rfl)
  · have fc2_1 : 1 ≤ p0.toInt := Int.not_lt.mp (zt_nlt (show p0.toInt = _ from rfl) tI_1 c2_1)
    refine lv_iload_n hx hb d_Ps_run_5 rfl (lv_at hl 1 rfl) ?_
    refine lv_sipush (v := 500) hx hb d_Ps_run_6 (by decide) ?_
    refine lv_icmp_le (tgt := 22) hx hb d_Ps_run_9 (by decide) (fun c9_1 => ?_) (fun c9_1 => ?_)
    · have fc9_1 : p0.toInt ≤ 500 := zt_le (show p0.toInt = _ from rfl) tI_500 c9_1
      exfalso; omega
    · have fc9_1 : 500 < p0.toInt := Int.not_le.mp (zt_nle (show p0.toInt = _ from rfl) tI_500 c9_1)
      exact j_thr (pc := 12) F hfl hlocks hno hl.1 (by decide) (ow_of3 hts hE.1 hE.2.1 hE.2.2.1 ow_in1 ow_s1) k_2_230 k_2_231 k_1_16 hE.2.2.2 hS (fun q h cell hc => absurd (Array.getElem?_eq_some_iff.mp hc).1 (Nat.not_lt.mpr h)) d_Ps_run_12 d_Ps_run_15 d_Ps_run_16 d_Ps_run_18 d_Ps_run_21 (Nat.le_of_ble_eq_true rfl) (Nat.le_of_ble_eq_true rfl) (Nat.le_of_ble_eq_true rfl) (Nat.le_of_ble_eq_true rfl)
theorem d_Ps_kind_0 : decode prog_1_method_8_code 0 = .ok (.aload_n 0, 1) := by decide +kernel
theorem d_Ps_kind_1 : decode prog_1_method_8_code 1 = .ok (.getfield 12, 3) := by decide +kernel
theorem d_Ps_kind_4 : decode prog_1_method_8_code 4 = .ok (.iload_n 1, 1) := by decide +kernel
theorem d_Ps_kind_5 : decode prog_1_method_8_code 5 = .ok (.invokevirtual 123, 3) := by decide +kernel
theorem d_Ps_kind_8 : decode prog_1_method_8_code 8 = .ok (.ifCond .ne 13, 3) := by decide +kernel
theorem d_Ps_kind_11 : decode prog_1_method_8_code 11 = .ok (.new 127, 3) := by decide +kernel
theorem d_Ps_kind_14 : decode prog_1_method_8_code 14 = .ok (.dup, 1) := by decide +kernel
theorem d_Ps_kind_15 : decode prog_1_method_8_code 15 = .ok (.ldc 129, 2) := by decide +kernel
theorem d_Ps_kind_17 : decode prog_1_method_8_code 17 = .ok (.invokespecial 131, 3) := by decide +kernel
theorem d_Ps_kind_20 : decode prog_1_method_8_code 20 = .ok (.athrow, 1) := by decide +kernel
theorem k_6_33 : Cond.classLink "PageScribe" 127 "java/lang/IndexOutOfBoundsException" ∈ gw := gw_of (tb_6 (List.mem_of_getElem? (i := 33) (by decide +kernel))) (by decide +kernel)
theorem k_6_34 : Cond.instantiable "java/lang/IndexOutOfBoundsException" 6 ∈ gw := gw_of (tb_6 (List.mem_of_getElem? (i := 34) (by decide +kernel))) (by decide +kernel)
theorem k_1_27 : Cond.initialized "java/lang/IndexOutOfBoundsException" ∈ gw := gw_of (tb_1 (List.mem_of_getElem? (i := 27) (by decide +kernel))) (by decide +kernel)
set_option maxHeartbeats 4000000 in
set_option maxRecDepth 100000 in
theorem t_Ps_kind (l : Launch) (D : va_G) (T : Nat → ClassId) (ad : Nat → Nat) (S : CS) (p0 : Int32) (qs : Nat) (sz : Nat)  (hv : ¬ (0 ≤ p0.toInt ∧ p0.toInt < (f_xst_z S).toInt)) (hfl : l.flags = flags0) : MetT l ⟨"PageScribe", "kind", "(I)I"⟩ (wy ⟨"PageScribe", "kind", "(I)I"⟩ prog_1_method_8_code 2 (some .int)) ({ frames := 6, cells := 1, slots := 6, locals := 420 }) (va_Pc [.ref (ad 0), .int p0] (Pw D T (cW T ad S) sz (EY 129 "there is no such VALUE" qs))) ((ThX "java/lang/IndexOutOfBoundsException")) 1 6 (Rn sz) := by
  refine j_metTR (y := ⟨"PageScribe", "kind", "(I)I"⟩) (b := prog_1_method_8_code) (n := 2) (ret := (some .int)) (av := [.ref (ad 0), .int p0]) (by decide +kernel) (Nat.le_of_ble_eq_true rfl) (fun p e s m args below meth c A0 ls F hr hlocks hno hK hP hD hS hA0 hE hl => ?_)
  obtain ⟨hx, hb, hml, hown, hts⟩ := id F
  have hl : lv_has ls 2 [(0, .ref (ad 0)), (1, .int p0)] := hl
  have rp0 := zt_rng p0
  refine lv_aload_n hx hb d_Ps_kind_0 rfl (lv_at hl 0 rfl) ?_
  refine va_get (D := D) (ci := 10) (v := .ref (ad 1)) (C := "PageScribe") (T := F_Ps) (N := 6) hx hb hts i_Ps hown hK hP 0 (ce_0 _ _ _) cl_10 0 (by decide) (hts _ k_2_58) (fun _ h9 => h9) rfl d_Ps_kind_1 ?_
  refine lv_iload_n hx hb d_Ps_kind_4 rfl (lv_at hl 1 rfl) ?_
  refine j_ciR hK hP hD hS hA0 (fun q h => h) (va_runV (As := [.int p0]) (rest := []) F (r_Stack_hasDown l D T ad S p0  s.heap.size) (j_cV (k := 1) (C := "PageScribe$Stack") hts k_2_116 k_1_3 k_2_113 k_2_114 k_2_115 (by decide +kernel) ⟨Nat.le_of_ble_eq_true rfl, Nat.le_of_ble_eq_true rfl⟩) (j_preV (q0 := 1) (ci := 0) hK hP hD csc csc_all csc_nd cl_0 (ce_1 _ _ _) (fun _ _ _ _ h => h) (fun _ _ _ => trivial)) rfl rfl hl.1 rfl (lv_room (Nat.le_of_ble_eq_true rfl)) d_Ps_kind_5 ⟨Nat.le_of_ble_eq_true rfl, Nat.le_of_ble_eq_true rfl⟩) (fun rv1 u1 H locs hw1 hP hD hS => ?_)
  have hP : va_P D classes (cW T ad S) H := hP
  have hD : va_D A0 (cW T ad S) := hD
  have qhw1 : (rv1.toInt = 1 ∧ 0 ≤ p0.toInt ∧ p0.toInt < (f_xst_z S).toInt) ∨ (rv1.toInt = 0 ∧ ¬ (0 ≤ p0.toInt ∧ p0.toInt < (f_xst_z S).toInt)) := hw1
  have rrv1 := zt_rng rv1
  refine lv_if_ne (tgt := 21) hx hb d_Ps_kind_8 (by decide) (fun c8_1 => ?_) (fun c8_1 => ?_)
  · first | have fc8_1 : rv1.toInt < 0 := (by have := zt_ne (show rv1.toInt = _ from rfl) tI_0 c8_1; omega) | have fc8_1 : 0 < rv1.toInt := (by have := zt_ne (show rv1.toInt = _ from rfl) tI_0 c8_1; omega) | skip
    exfalso; omega
  · have fc8_1 : rv1.toInt = 0 := zt_eq (show rv1.toInt = _ from rfl) tI_0 c8_1
    exact j_thr (pc := 11) F hfl hlocks hno hl.1 (by decide) (ow_of3 hts hE.1 hE.2.1 hE.2.2.1 ow_in2 ow_s2) k_6_33 k_6_34 k_1_27 hE.2.2.2 hS (fun q h cell hc => absurd (Array.getElem?_eq_some_iff.mp hc).1 (Nat.not_lt.mpr h)) d_Ps_kind_11 d_Ps_kind_14 d_Ps_kind_15 d_Ps_kind_17 d_Ps_kind_20 (Nat.le_of_ble_eq_true rfl) (Nat.le_of_ble_eq_true rfl) (Nat.le_of_ble_eq_true rfl) (Nat.le_of_ble_eq_true rfl)
theorem d_Ps_number_0 : decode prog_1_method_9_code 0 = .ok (.aload_n 0, 1) := by decide +kernel
theorem d_Ps_number_1 : decode prog_1_method_9_code 1 = .ok (.getfield 12, 3) := by decide +kernel
theorem d_Ps_number_4 : decode prog_1_method_9_code 4 = .ok (.iload_n 1, 1) := by decide +kernel
theorem d_Ps_number_5 : decode prog_1_method_9_code 5 = .ok (.invokevirtual 123, 3) := by decide +kernel
theorem d_Ps_number_8 : decode prog_1_method_9_code 8 = .ok (.ifCond .ne 13, 3) := by decide +kernel
theorem d_Ps_number_11 : decode prog_1_method_9_code 11 = .ok (.new 127, 3) := by decide +kernel
theorem d_Ps_number_14 : decode prog_1_method_9_code 14 = .ok (.dup, 1) := by decide +kernel
theorem d_Ps_number_15 : decode prog_1_method_9_code 15 = .ok (.ldc 129, 2) := by decide +kernel
theorem d_Ps_number_17 : decode prog_1_method_9_code 17 = .ok (.invokespecial 131, 3) := by decide +kernel
theorem d_Ps_number_20 : decode prog_1_method_9_code 20 = .ok (.athrow, 1) := by decide +kernel
set_option maxHeartbeats 4000000 in
set_option maxRecDepth 100000 in
theorem t_Ps_number (l : Launch) (D : va_G) (T : Nat → ClassId) (ad : Nat → Nat) (S : CS) (p0 : Int32) (qs : Nat) (sz : Nat)  (hv : ¬ (0 ≤ p0.toInt ∧ p0.toInt < (f_xst_z S).toInt)) (hfl : l.flags = flags0) : MetT l ⟨"PageScribe", "number", "(I)I"⟩ (wy ⟨"PageScribe", "number", "(I)I"⟩ prog_1_method_9_code 3 (some .int)) ({ frames := 6, cells := 1, slots := 6, locals := 420 }) (va_Pc [.ref (ad 0), .int p0] (Pw D T (cW T ad S) sz (EY 129 "there is no such VALUE" qs))) ((ThX "java/lang/IndexOutOfBoundsException")) 1 6 (Rn sz) := by
  refine j_metTR (y := ⟨"PageScribe", "number", "(I)I"⟩) (b := prog_1_method_9_code) (n := 3) (ret := (some .int)) (av := [.ref (ad 0), .int p0]) (by decide +kernel) (Nat.le_of_ble_eq_true rfl) (fun p e s m args below meth c A0 ls F hr hlocks hno hK hP hD hS hA0 hE hl => ?_)
  obtain ⟨hx, hb, hml, hown, hts⟩ := id F
  have hl : lv_has ls 3 [(0, .ref (ad 0)), (1, .int p0)] := hl
  have rp0 := zt_rng p0
  refine lv_aload_n hx hb d_Ps_number_0 rfl (lv_at hl 0 rfl) ?_
  refine va_get (D := D) (ci := 10) (v := .ref (ad 1)) (C := "PageScribe") (T := F_Ps) (N := 6) hx hb hts i_Ps hown hK hP 0 (ce_0 _ _ _) cl_10 0 (by decide) (hts _ k_2_58) (fun _ h9 => h9) rfl d_Ps_number_1 ?_
  refine lv_iload_n hx hb d_Ps_number_4 rfl (lv_at hl 1 rfl) ?_
  refine j_ciR hK hP hD hS hA0 (fun q h => h) (va_runV (As := [.int p0]) (rest := []) F (r_Stack_hasDown l D T ad S p0  s.heap.size) (j_cV (k := 1) (C := "PageScribe$Stack") hts k_2_116 k_1_3 k_2_113 k_2_114 k_2_115 (by decide +kernel) ⟨Nat.le_of_ble_eq_true rfl, Nat.le_of_ble_eq_true rfl⟩) (j_preV (q0 := 1) (ci := 0) hK hP hD csc csc_all csc_nd cl_0 (ce_1 _ _ _) (fun _ _ _ _ h => h) (fun _ _ _ => trivial)) rfl rfl hl.1 rfl (lv_room (Nat.le_of_ble_eq_true rfl)) d_Ps_number_5 ⟨Nat.le_of_ble_eq_true rfl, Nat.le_of_ble_eq_true rfl⟩) (fun rv1 u1 H locs hw1 hP hD hS => ?_)
  have hP : va_P D classes (cW T ad S) H := hP
  have hD : va_D A0 (cW T ad S) := hD
  have qhw1 : (rv1.toInt = 1 ∧ 0 ≤ p0.toInt ∧ p0.toInt < (f_xst_z S).toInt) ∨ (rv1.toInt = 0 ∧ ¬ (0 ≤ p0.toInt ∧ p0.toInt < (f_xst_z S).toInt)) := hw1
  have rrv1 := zt_rng rv1
  refine lv_if_ne (tgt := 21) hx hb d_Ps_number_8 (by decide) (fun c8_1 => ?_) (fun c8_1 => ?_)
  · first | have fc8_1 : rv1.toInt < 0 := (by have := zt_ne (show rv1.toInt = _ from rfl) tI_0 c8_1; omega) | have fc8_1 : 0 < rv1.toInt := (by have := zt_ne (show rv1.toInt = _ from rfl) tI_0 c8_1; omega) | skip
    exfalso; omega
  · have fc8_1 : rv1.toInt = 0 := zt_eq (show rv1.toInt = _ from rfl) tI_0 c8_1
    exact j_thr (pc := 11) F hfl hlocks hno hl.1 (by decide) (ow_of3 hts hE.1 hE.2.1 hE.2.2.1 ow_in2 ow_s2) k_6_33 k_6_34 k_1_27 hE.2.2.2 hS (fun q h cell hc => absurd (Array.getElem?_eq_some_iff.mp hc).1 (Nat.not_lt.mpr h)) d_Ps_number_11 d_Ps_number_14 d_Ps_number_15 d_Ps_number_17 d_Ps_number_20 (Nat.le_of_ble_eq_true rfl) (Nat.le_of_ble_eq_true rfl) (Nat.le_of_ble_eq_true rfl) (Nat.le_of_ble_eq_true rfl)
theorem d_Ps_real_0 : decode prog_1_method_10_code 0 = .ok (.aload_n 0, 1) := by decide +kernel
theorem d_Ps_real_1 : decode prog_1_method_10_code 1 = .ok (.getfield 12, 3) := by decide +kernel
theorem d_Ps_real_4 : decode prog_1_method_10_code 4 = .ok (.iload_n 1, 1) := by decide +kernel
theorem d_Ps_real_5 : decode prog_1_method_10_code 5 = .ok (.invokevirtual 123, 3) := by decide +kernel
theorem d_Ps_real_8 : decode prog_1_method_10_code 8 = .ok (.ifCond .ne 13, 3) := by decide +kernel
theorem d_Ps_real_11 : decode prog_1_method_10_code 11 = .ok (.new 127, 3) := by decide +kernel
theorem d_Ps_real_14 : decode prog_1_method_10_code 14 = .ok (.dup, 1) := by decide +kernel
theorem d_Ps_real_15 : decode prog_1_method_10_code 15 = .ok (.ldc 129, 2) := by decide +kernel
theorem d_Ps_real_17 : decode prog_1_method_10_code 17 = .ok (.invokespecial 131, 3) := by decide +kernel
theorem d_Ps_real_20 : decode prog_1_method_10_code 20 = .ok (.athrow, 1) := by decide +kernel
set_option maxHeartbeats 4000000 in
set_option maxRecDepth 100000 in
theorem t_Ps_real (l : Launch) (D : va_G) (T : Nat → ClassId) (ad : Nat → Nat) (S : CS) (p0 : Int32) (qs : Nat) (sz : Nat)  (hv : ¬ (0 ≤ p0.toInt ∧ p0.toInt < (f_xst_z S).toInt)) (hfl : l.flags = flags0) : MetT l ⟨"PageScribe", "real", "(I)D"⟩ (wy ⟨"PageScribe", "real", "(I)D"⟩ prog_1_method_10_code 2 (some .double)) ({ frames := 6, cells := 1, slots := 6, locals := 420 }) (va_Pc [.ref (ad 0), .int p0] (Pw D T (cW T ad S) sz (EY 129 "there is no such VALUE" qs))) ((ThX "java/lang/IndexOutOfBoundsException")) 1 6 (Rn sz) := by
  refine j_metTR (y := ⟨"PageScribe", "real", "(I)D"⟩) (b := prog_1_method_10_code) (n := 2) (ret := (some .double)) (av := [.ref (ad 0), .int p0]) (by decide +kernel) (Nat.le_of_ble_eq_true rfl) (fun p e s m args below meth c A0 ls F hr hlocks hno hK hP hD hS hA0 hE hl => ?_)
  obtain ⟨hx, hb, hml, hown, hts⟩ := id F
  have hl : lv_has ls 2 [(0, .ref (ad 0)), (1, .int p0)] := hl
  have rp0 := zt_rng p0
  refine lv_aload_n hx hb d_Ps_real_0 rfl (lv_at hl 0 rfl) ?_
  refine va_get (D := D) (ci := 10) (v := .ref (ad 1)) (C := "PageScribe") (T := F_Ps) (N := 6) hx hb hts i_Ps hown hK hP 0 (ce_0 _ _ _) cl_10 0 (by decide) (hts _ k_2_58) (fun _ h9 => h9) rfl d_Ps_real_1 ?_
  refine lv_iload_n hx hb d_Ps_real_4 rfl (lv_at hl 1 rfl) ?_
  refine j_ciR hK hP hD hS hA0 (fun q h => h) (va_runV (As := [.int p0]) (rest := []) F (r_Stack_hasDown l D T ad S p0  s.heap.size) (j_cV (k := 1) (C := "PageScribe$Stack") hts k_2_116 k_1_3 k_2_113 k_2_114 k_2_115 (by decide +kernel) ⟨Nat.le_of_ble_eq_true rfl, Nat.le_of_ble_eq_true rfl⟩) (j_preV (q0 := 1) (ci := 0) hK hP hD csc csc_all csc_nd cl_0 (ce_1 _ _ _) (fun _ _ _ _ h => h) (fun _ _ _ => trivial)) rfl rfl hl.1 rfl (lv_room (Nat.le_of_ble_eq_true rfl)) d_Ps_real_5 ⟨Nat.le_of_ble_eq_true rfl, Nat.le_of_ble_eq_true rfl⟩) (fun rv1 u1 H locs hw1 hP hD hS => ?_)
  have hP : va_P D classes (cW T ad S) H := hP
  have hD : va_D A0 (cW T ad S) := hD
  have qhw1 : (rv1.toInt = 1 ∧ 0 ≤ p0.toInt ∧ p0.toInt < (f_xst_z S).toInt) ∨ (rv1.toInt = 0 ∧ ¬ (0 ≤ p0.toInt ∧ p0.toInt < (f_xst_z S).toInt)) := hw1
  have rrv1 := zt_rng rv1
  refine lv_if_ne (tgt := 21) hx hb d_Ps_real_8 (by decide) (fun c8_1 => ?_) (fun c8_1 => ?_)
  · first | have fc8_1 : rv1.toInt < 0 := (by have := zt_ne (show rv1.toInt = _ from rfl) tI_0 c8_1; omega) | have fc8_1 : 0 < rv1.toInt := (by have := zt_ne (show rv1.toInt = _ from rfl) tI_0 c8_1; omega) | skip
    exfalso; omega
  · have fc8_1 : rv1.toInt = 0 := zt_eq (show rv1.toInt = _ from rfl) tI_0 c8_1
    exact j_thr (pc := 11) F hfl hlocks hno hl.1 (by decide) (ow_of3 hts hE.1 hE.2.1 hE.2.2.1 ow_in2 ow_s2) k_6_33 k_6_34 k_1_27 hE.2.2.2 hS (fun q h cell hc => absurd (Array.getElem?_eq_some_iff.mp hc).1 (Nat.not_lt.mpr h)) d_Ps_real_11 d_Ps_real_14 d_Ps_real_15 d_Ps_real_17 d_Ps_real_20 (Nat.le_of_ble_eq_true rfl) (Nat.le_of_ble_eq_true rfl) (Nat.le_of_ble_eq_true rfl) (Nat.le_of_ble_eq_true rfl)
theorem d_Ps_number_21 : decode prog_1_method_9_code 21 = .ok (.aload_n 0, 1) := by decide +kernel
theorem d_Ps_number_22 : decode prog_1_method_9_code 22 = .ok (.getfield 12, 3) := by decide +kernel
theorem d_Ps_number_25 : decode prog_1_method_9_code 25 = .ok (.iload_n 1, 1) := by decide +kernel
theorem d_Ps_number_26 : decode prog_1_method_9_code 26 = .ok (.invokevirtual 136, 3) := by decide +kernel
theorem d_Ps_number_29 : decode prog_1_method_9_code 29 = .ok (.istore_n 2, 1) := by decide +kernel
theorem d_Ps_number_30 : decode prog_1_method_9_code 30 = .ok (.aload_n 0, 1) := by decide +kernel
theorem d_Ps_number_31 : decode prog_1_method_9_code 31 = .ok (.getfield 12, 3) := by decide +kernel
theorem d_Ps_number_34 : decode prog_1_method_9_code 34 = .ok (.iload_n 1, 1) := by decide +kernel
theorem d_Ps_number_35 : decode prog_1_method_9_code 35 = .ok (.invokevirtual 132, 3) := by decide +kernel
theorem d_Ps_number_38 : decode prog_1_method_9_code 38 = .ok (.bipush 7, 2) := by decide +kernel
theorem d_Ps_number_40 : decode prog_1_method_9_code 40 = .ok (.iand, 1) := by decide +kernel
theorem d_Ps_number_41 : decode prog_1_method_9_code 41 = .ok (.tableswitch 59 1 5 #[35, 59, 45, 59, 54], 35) := by decide +kernel
theorem d_Ps_number_76 : decode prog_1_method_9_code 76 = .ok (.new 139, 3) := by decide +kernel
theorem d_Ps_number_79 : decode prog_1_method_9_code 79 = .ok (.dup, 1) := by decide +kernel
theorem d_Ps_number_80 : decode prog_1_method_9_code 80 = .ok (.ldc 141, 2) := by decide +kernel
theorem d_Ps_number_82 : decode prog_1_method_9_code 82 = .ok (.invokespecial 143, 3) := by decide +kernel
theorem d_Ps_number_85 : decode prog_1_method_9_code 85 = .ok (.athrow, 1) := by decide +kernel
theorem k_6_57 : Cond.classLink "PageScribe" 139 "java/lang/IllegalStateException" ∈ gw := gw_of (tb_6 (List.mem_of_getElem? (i := 57) (by decide +kernel))) (by decide +kernel)
theorem k_6_58 : Cond.instantiable "java/lang/IllegalStateException" 6 ∈ gw := gw_of (tb_6 (List.mem_of_getElem? (i := 58) (by decide +kernel))) (by decide +kernel)
theorem k_1_28 : Cond.initialized "java/lang/IllegalStateException" ∈ gw := gw_of (tb_1 (List.mem_of_getElem? (i := 28) (by decide +kernel))) (by decide +kernel)
set_option maxHeartbeats 4000000 in
set_option maxRecDepth 100000 in
theorem t_Ps_number2 (l : Launch) (D : va_G) (T : Nat → ClassId) (ad : Nat → Nat) (S : CS) (p0 : Int32) (qs : Nat) (sz : Nat)  (hv : 0 ≤ p0.toInt ∧ p0.toInt < (f_xst_z S).toInt) (hk : (kDn S p0 &&& 7).toInt = 1) (hfl : l.flags = flags0) : MetT l ⟨"PageScribe", "number", "(I)I"⟩ (wy ⟨"PageScribe", "number", "(I)I"⟩ prog_1_method_9_code 3 (some .int)) ({ frames := 6, cells := 1, slots := 6, locals := 420 }) (va_Pc [.ref (ad 0), .int p0] (Pw D T (cW T ad S) sz (EY 141 "a REAL has no number" qs))) ((ThX "java/lang/IllegalStateException")) 1 6 (Rn sz) := by
  refine j_metTR (y := ⟨"PageScribe", "number", "(I)I"⟩) (b := prog_1_method_9_code) (n := 3) (ret := (some .int)) (av := [.ref (ad 0), .int p0]) (by decide +kernel) (Nat.le_of_ble_eq_true rfl) (fun p e s m args below meth c A0 ls F hr hlocks hno hK hP hD hS hA0 hE hl => ?_)
  obtain ⟨hx, hb, hml, hown, hts⟩ := id F
  have hl : lv_has ls 3 [(0, .ref (ad 0)), (1, .int p0)] := hl
  have rp0 := zt_rng p0
  refine lv_aload_n hx hb d_Ps_number_0 rfl (lv_at hl 0 rfl) ?_
  refine va_get (D := D) (ci := 10) (v := .ref (ad 1)) (C := "PageScribe") (T := F_Ps) (N := 6) hx hb hts i_Ps hown hK hP 0 (ce_0 _ _ _) cl_10 0 (by decide) (hts _ k_2_58) (fun _ h9 => h9) rfl d_Ps_number_1 ?_
  refine lv_iload_n hx hb d_Ps_number_4 rfl (lv_at hl 1 rfl) ?_
  refine j_ciR hK hP hD hS hA0 (fun q h => h) (va_runV (As := [.int p0]) (rest := []) F (r_Stack_hasDown l D T ad S p0  s.heap.size) (j_cV (k := 1) (C := "PageScribe$Stack") hts k_2_116 k_1_3 k_2_113 k_2_114 k_2_115 (by decide +kernel) ⟨Nat.le_of_ble_eq_true rfl, Nat.le_of_ble_eq_true rfl⟩) (j_preV (q0 := 1) (ci := 0) hK hP hD csc csc_all csc_nd cl_0 (ce_1 _ _ _) (fun _ _ _ _ h => h) (fun _ _ _ => trivial)) rfl rfl hl.1 rfl (lv_room (Nat.le_of_ble_eq_true rfl)) d_Ps_number_5 ⟨Nat.le_of_ble_eq_true rfl, Nat.le_of_ble_eq_true rfl⟩) (fun rv1 u1 H locs hw1 hP hD hS => ?_)
  have hP : va_P D classes (cW T ad S) H := hP
  have hD : va_D A0 (cW T ad S) := hD
  have qhw1 : (rv1.toInt = 1 ∧ 0 ≤ p0.toInt ∧ p0.toInt < (f_xst_z S).toInt) ∨ (rv1.toInt = 0 ∧ ¬ (0 ≤ p0.toInt ∧ p0.toInt < (f_xst_z S).toInt)) := hw1
  have rrv1 := zt_rng rv1
  refine lv_if_ne (tgt := 21) hx hb d_Ps_number_8 (by decide) (fun c8_1 => ?_) (fun c8_1 => ?_)
  · first | have fc8_1 : rv1.toInt < 0 := (by have := zt_ne (show rv1.toInt = _ from rfl) tI_0 c8_1; omega) | have fc8_1 : 0 < rv1.toInt := (by have := zt_ne (show rv1.toInt = _ from rfl) tI_0 c8_1; omega) | skip
    refine lv_aload_n hx hb d_Ps_number_21 rfl (lv_at hl 0 rfl) ?_
    refine va_get (D := D) (ci := 10) (v := .ref (ad 1)) (C := "PageScribe") (T := F_Ps) (N := 6) hx hb hts i_Ps hown hK hP 0 (ce_0 _ _ _) cl_10 0 (by decide) (hts _ k_2_58) (fun _ h9 => h9) rfl d_Ps_number_22 ?_
    refine lv_iload_n hx hb d_Ps_number_25 rfl (lv_at hl 1 rfl) ?_
    refine j_ciR hK hP hD hS hA0 (fun q h => h) (va_runV (As := [.int p0]) (rest := []) F (r_Stack_numberDown l D T ad S p0  H.size) (j_cV (k := 1) (C := "PageScribe$Stack") hts k_2_130 k_1_3 k_2_127 k_2_128 k_2_129 (by decide +kernel) ⟨Nat.le_of_ble_eq_true rfl, Nat.le_of_ble_eq_true rfl⟩) (j_preV (q0 := 1) (ci := 0) hK hP hD csc csc_all csc_nd cl_0 (ce_1 _ _ _) (fun _ _ _ _ h => h) (fun _ _ _ => trivial)) rfl rfl hl.1 rfl (lv_room (Nat.le_of_ble_eq_true rfl)) d_Ps_number_26 ⟨Nat.le_of_ble_eq_true rfl, Nat.le_of_ble_eq_true rfl⟩) (fun rv2 u2 H locs hw2 hP hD hS => ?_)
    have hP : va_P D classes (cW T ad S) H := hP
    have hD : va_D A0 (cW T ad S) := hD
    have qhw2 : rv2 = kAt (a_xst_n S) ((f_xst_z S) - 1 - p0) := hw2
    have rrv2 := zt_rng rv2
    refine lv_istore_n (lv' := [(2, .int rv2), (0, .ref (ad 0)), (1, .int p0)]) hx hb d_Ps_number_29 rfl hl (by decide) rfl (fun ls hl => ?_)
    refine lv_aload_n hx hb d_Ps_number_30 rfl (lv_at hl 1 rfl) ?_
    refine va_get (D := D) (ci := 10) (v := .ref (ad 1)) (C := "PageScribe") (T := F_Ps) (N := 6) hx hb hts i_Ps hown hK hP 0 (ce_0 _ _ _) cl_10 0 (by decide) (hts _ k_2_58) (fun _ h9 => h9) rfl d_Ps_number_31 ?_
    refine lv_iload_n hx hb d_Ps_number_34 rfl (lv_at hl 2 rfl) ?_
    refine j_ciR hK hP hD hS hA0 (fun q h => h) (va_runV (As := [.int p0]) (rest := []) F (r_Stack_kindDown l D T ad S p0  H.size) (j_cV (k := 1) (C := "PageScribe$Stack") hts k_2_120 k_1_3 k_2_117 k_2_118 k_2_119 (by decide +kernel) ⟨Nat.le_of_ble_eq_true rfl, Nat.le_of_ble_eq_true rfl⟩) (j_preV (q0 := 1) (ci := 0) hK hP hD csc csc_all csc_nd cl_0 (ce_1 _ _ _) (fun _ _ _ _ h => h) (fun _ _ _ => trivial)) rfl rfl hl.1 rfl (lv_room (Nat.le_of_ble_eq_true rfl)) d_Ps_number_35 ⟨Nat.le_of_ble_eq_true rfl, Nat.le_of_ble_eq_true rfl⟩) (fun rv3 u3 H locs hw3 hP hD hS => ?_)
    have hP : va_P D classes (cW T ad S) H := hP
    have hD : va_D A0 (cW T ad S) := hD
    have qhw3 : rv3 = kAt (a_xst_k S) ((f_xst_z S) - 1 - p0) := hw3
    have rrv3 := zt_rng rv3
    refine lv_bipush (v := 7) hx hb d_Ps_number_38 (by decide) ?_
    refine lv_iand hx hb d_Ps_number_40 ?_
    refine lv_topi (fun x1 ex1 => ?_)
    have rx1 := zt_rng x1
    have fkx1 : x1 = kDn S p0 &&& 7 := by rw [ex1, qhw3]
    by_cases h_1_1 : x1.toInt = 1
    · refine lv_tableIn (off := 35) (tgt := 76) hx hb d_Ps_number_41 (by omega) (by omega) (by rw [show x1.toInt = 1 from h_1_1]; decide +kernel) (by decide) ?_
      exact j_thr (pc := 76) F hfl hlocks hno hl.1 (by decide) (ow_of3 hts hE.1 hE.2.1 hE.2.2.1 ow_in3 ow_s3) k_6_57 k_6_58 k_1_28 hE.2.2.2 hS (fun q h cell hc => absurd (Array.getElem?_eq_some_iff.mp hc).1 (Nat.not_lt.mpr h)) d_Ps_number_76 d_Ps_number_79 d_Ps_number_80 d_Ps_number_82 d_Ps_number_85 (Nat.le_of_ble_eq_true rfl) (Nat.le_of_ble_eq_true rfl) (Nat.le_of_ble_eq_true rfl) (Nat.le_of_ble_eq_true rfl)
    by_cases h_2_1 : x1.toInt = 2
    · refine lv_tableIn (off := 59) (tgt := 100) hx hb d_Ps_number_41 (by omega) (by omega) (by rw [show x1.toInt = 2 from h_2_1]; decide +kernel) (by decide) ?_
      exfalso; rw [← fkx1] at hk; omega
    by_cases h_3_1 : x1.toInt = 3
    · refine lv_tableIn (off := 45) (tgt := 86) hx hb d_Ps_number_41 (by omega) (by omega) (by rw [show x1.toInt = 3 from h_3_1]; decide +kernel) (by decide) ?_
      exfalso; rw [← fkx1] at hk; omega
    by_cases h_4_1 : x1.toInt = 4
    · refine lv_tableIn (off := 59) (tgt := 100) hx hb d_Ps_number_41 (by omega) (by omega) (by rw [show x1.toInt = 4 from h_4_1]; decide +kernel) (by decide) ?_
      exfalso; rw [← fkx1] at hk; omega
    by_cases h_5_1 : x1.toInt = 5
    · refine lv_tableIn (off := 54) (tgt := 95) hx hb d_Ps_number_41 (by omega) (by omega) (by rw [show x1.toInt = 5 from h_5_1]; decide +kernel) (by decide) ?_
      exfalso; rw [← fkx1] at hk; omega
    refine lv_tableOut (tgt := 100) hx hb d_Ps_number_41 (by omega) (by decide) ?_
    exfalso; rw [← fkx1] at hk; omega
  · have fc8_1 : rv1.toInt = 0 := zt_eq (show rv1.toInt = _ from rfl) tI_0 c8_1
    exfalso; omega
theorem d_Ps_real_21 : decode prog_1_method_10_code 21 = .ok (.aload_n 0, 1) := by decide +kernel
theorem d_Ps_real_22 : decode prog_1_method_10_code 22 = .ok (.getfield 12, 3) := by decide +kernel
theorem d_Ps_real_25 : decode prog_1_method_10_code 25 = .ok (.iload_n 1, 1) := by decide +kernel
theorem d_Ps_real_26 : decode prog_1_method_10_code 26 = .ok (.invokevirtual 132, 3) := by decide +kernel
theorem d_Ps_real_29 : decode prog_1_method_10_code 29 = .ok (.iconst 1, 1) := by decide +kernel
theorem d_Ps_real_30 : decode prog_1_method_10_code 30 = .ok (.if_icmp .le 13, 3) := by decide +kernel
theorem d_Ps_real_33 : decode prog_1_method_10_code 33 = .ok (.new 139, 3) := by decide +kernel
theorem d_Ps_real_36 : decode prog_1_method_10_code 36 = .ok (.dup, 1) := by decide +kernel
theorem d_Ps_real_37 : decode prog_1_method_10_code 37 = .ok (.ldc 148, 2) := by decide +kernel
theorem d_Ps_real_39 : decode prog_1_method_10_code 39 = .ok (.invokespecial 143, 3) := by decide +kernel
theorem d_Ps_real_42 : decode prog_1_method_10_code 42 = .ok (.athrow, 1) := by decide +kernel
set_option maxHeartbeats 4000000 in
set_option maxRecDepth 100000 in
theorem t_Ps_real2 (l : Launch) (D : va_G) (T : Nat → ClassId) (ad : Nat → Nat) (S : CS) (p0 : Int32) (qs : Nat) (sz : Nat)  (hv : 0 ≤ p0.toInt ∧ p0.toInt < (f_xst_z S).toInt) (hk : 1 < (kDn S p0).toInt) (hfl : l.flags = flags0) : MetT l ⟨"PageScribe", "real", "(I)D"⟩ (wy ⟨"PageScribe", "real", "(I)D"⟩ prog_1_method_10_code 2 (some .double)) ({ frames := 6, cells := 1, slots := 6, locals := 420 }) (va_Pc [.ref (ad 0), .int p0] (Pw D T (cW T ad S) sz (EY 148 "no number" qs))) ((ThX "java/lang/IllegalStateException")) 1 6 (Rn sz) := by
  refine j_metTR (y := ⟨"PageScribe", "real", "(I)D"⟩) (b := prog_1_method_10_code) (n := 2) (ret := (some .double)) (av := [.ref (ad 0), .int p0]) (by decide +kernel) (Nat.le_of_ble_eq_true rfl) (fun p e s m args below meth c A0 ls F hr hlocks hno hK hP hD hS hA0 hE hl => ?_)
  obtain ⟨hx, hb, hml, hown, hts⟩ := id F
  have hl : lv_has ls 2 [(0, .ref (ad 0)), (1, .int p0)] := hl
  have rp0 := zt_rng p0
  refine lv_aload_n hx hb d_Ps_real_0 rfl (lv_at hl 0 rfl) ?_
  refine va_get (D := D) (ci := 10) (v := .ref (ad 1)) (C := "PageScribe") (T := F_Ps) (N := 6) hx hb hts i_Ps hown hK hP 0 (ce_0 _ _ _) cl_10 0 (by decide) (hts _ k_2_58) (fun _ h9 => h9) rfl d_Ps_real_1 ?_
  refine lv_iload_n hx hb d_Ps_real_4 rfl (lv_at hl 1 rfl) ?_
  refine j_ciR hK hP hD hS hA0 (fun q h => h) (va_runV (As := [.int p0]) (rest := []) F (r_Stack_hasDown l D T ad S p0  s.heap.size) (j_cV (k := 1) (C := "PageScribe$Stack") hts k_2_116 k_1_3 k_2_113 k_2_114 k_2_115 (by decide +kernel) ⟨Nat.le_of_ble_eq_true rfl, Nat.le_of_ble_eq_true rfl⟩) (j_preV (q0 := 1) (ci := 0) hK hP hD csc csc_all csc_nd cl_0 (ce_1 _ _ _) (fun _ _ _ _ h => h) (fun _ _ _ => trivial)) rfl rfl hl.1 rfl (lv_room (Nat.le_of_ble_eq_true rfl)) d_Ps_real_5 ⟨Nat.le_of_ble_eq_true rfl, Nat.le_of_ble_eq_true rfl⟩) (fun rv1 u1 H locs hw1 hP hD hS => ?_)
  have hP : va_P D classes (cW T ad S) H := hP
  have hD : va_D A0 (cW T ad S) := hD
  have qhw1 : (rv1.toInt = 1 ∧ 0 ≤ p0.toInt ∧ p0.toInt < (f_xst_z S).toInt) ∨ (rv1.toInt = 0 ∧ ¬ (0 ≤ p0.toInt ∧ p0.toInt < (f_xst_z S).toInt)) := hw1
  have rrv1 := zt_rng rv1
  refine lv_if_ne (tgt := 21) hx hb d_Ps_real_8 (by decide) (fun c8_1 => ?_) (fun c8_1 => ?_)
  · first | have fc8_1 : rv1.toInt < 0 := (by have := zt_ne (show rv1.toInt = _ from rfl) tI_0 c8_1; omega) | have fc8_1 : 0 < rv1.toInt := (by have := zt_ne (show rv1.toInt = _ from rfl) tI_0 c8_1; omega) | skip
    refine lv_aload_n hx hb d_Ps_real_21 rfl (lv_at hl 0 rfl) ?_
    refine va_get (D := D) (ci := 10) (v := .ref (ad 1)) (C := "PageScribe") (T := F_Ps) (N := 6) hx hb hts i_Ps hown hK hP 0 (ce_0 _ _ _) cl_10 0 (by decide) (hts _ k_2_58) (fun _ h9 => h9) rfl d_Ps_real_22 ?_
    refine lv_iload_n hx hb d_Ps_real_25 rfl (lv_at hl 1 rfl) ?_
    refine j_ciR hK hP hD hS hA0 (fun q h => h) (va_runV (As := [.int p0]) (rest := []) F (r_Stack_kindDown l D T ad S p0  H.size) (j_cV (k := 1) (C := "PageScribe$Stack") hts k_2_120 k_1_3 k_2_117 k_2_118 k_2_119 (by decide +kernel) ⟨Nat.le_of_ble_eq_true rfl, Nat.le_of_ble_eq_true rfl⟩) (j_preV (q0 := 1) (ci := 0) hK hP hD csc csc_all csc_nd cl_0 (ce_1 _ _ _) (fun _ _ _ _ h => h) (fun _ _ _ => trivial)) rfl rfl hl.1 rfl (lv_room (Nat.le_of_ble_eq_true rfl)) d_Ps_real_26 ⟨Nat.le_of_ble_eq_true rfl, Nat.le_of_ble_eq_true rfl⟩) (fun rv2 u2 H locs hw2 hP hD hS => ?_)
    have hP : va_P D classes (cW T ad S) H := hP
    have hD : va_D A0 (cW T ad S) := hD
    have qhw2 : rv2 = kAt (a_xst_k S) ((f_xst_z S) - 1 - p0) := hw2
    have rrv2 := zt_rng rv2
    have fqrv2 : rv2.toInt = (kDn S p0).toInt := congrArg Int32.toInt qhw2
    refine lv_iconst (v := 1) hx hb d_Ps_real_29 (by decide) ?_
    refine lv_icmp_le (tgt := 43) hx hb d_Ps_real_30 (by decide) (fun c30_1 => ?_) (fun c30_1 => ?_)
    · have fc30_1 : rv2.toInt ≤ 1 := zt_le (show rv2.toInt = _ from rfl) tI_1 c30_1
      exfalso; omega
    · have fc30_1 : 1 < rv2.toInt := Int.not_le.mp (zt_nle (show rv2.toInt = _ from rfl) tI_1 c30_1)
      exact j_thr (pc := 33) F hfl hlocks hno hl.1 (by decide) (ow_of3 hts hE.1 hE.2.1 hE.2.2.1 ow_in3 ow_s3) k_6_57 k_6_58 k_1_28 hE.2.2.2 hS (fun q h cell hc => absurd (Array.getElem?_eq_some_iff.mp hc).1 (Nat.not_lt.mpr h)) d_Ps_real_33 d_Ps_real_36 d_Ps_real_37 d_Ps_real_39 d_Ps_real_42 (Nat.le_of_ble_eq_true rfl) (Nat.le_of_ble_eq_true rfl) (Nat.le_of_ble_eq_true rfl) (Nat.le_of_ble_eq_true rfl)
  · have fc8_1 : rv1.toInt = 0 := zt_eq (show rv1.toInt = _ from rfl) tI_0 c8_1
    exfalso; omega
