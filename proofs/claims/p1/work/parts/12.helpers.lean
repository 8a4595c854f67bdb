theorem d_Ps_run_12 : decode prog_1_method_3_code 12 = .ok (.new 67, 3) := by decide +kernel
theorem d_Ps_run_15 : decode prog_1_method_3_code 15 = .ok (.dup, 1) := by decide +kernel
theorem d_Ps_run_16 : decode prog_1_method_3_code 16 = .ok (.ldc 69, 2) := by decide +kernel
theorem d_Ps_run_18 : decode prog_1_method_3_code 18 = .ok (.invokespecial 71, 3) := by decide +kernel
theorem d_Ps_run_21 : decode prog_1_method_3_code 21 = .ok (.athrow, 1) := by decide +kernel
theorem k_2_230 : Cond.classLink "PageScribe" 67 "java/lang/IllegalArgumentException" ∈ gw := gw_of (tb_2 (List.mem_of_getElem? (i := 230) (by decide +kernel))) (by decide +kernel)
theorem k_2_231 : Cond.instantiable "java/lang/IllegalArgumentException" 6 ∈ gw := gw_of (tb_2 (List.mem_of_getElem? (i := 231) (by decide +kernel))) (by decide +kernel)
theorem k_1_16 : Cond.initialized "java/lang/IllegalArgumentException" ∈ gw := gw_of (tb_1 (List.mem_of_getElem? (i := 16) (by decide +kernel))) (by decide +kernel)
set_option maxHeartbeats 4000000 in
set_option maxRecDepth 100000 in
theorem t_Ps_run (l : Launch) (D : va_G) (T : Nat → ClassId) (h0 : Nat) (p0 : Int32) (qs : Nat) (sz : Nat) (hfl : l.flags = flags0) (hp : p0 < 1 ∨ 500 < p0) : MetT l ⟨"PageScribe", "run", "(I)I"⟩ (wy ⟨"PageScribe", "run", "(I)I"⟩ prog_1_method_3_code 4 (some .int)) ({ frames := 6, cells := 1, slots := 6, locals := 420 }) (va_Pc [.ref h0, .int p0] (Pw D T [] sz (EX 69 "the fuel is not 1 to 500" qs))) (ThX "java/lang/IllegalArgumentException") 1 6 (va_A [] sz) := by
  refine j_metT (y := ⟨"PageScribe", "run", "(I)I"⟩) (b := prog_1_method_3_code) (n := 4) (ret := (some .int)) (av := [.ref h0, .int p0]) (by decide +kernel) (Nat.le_of_ble_eq_true rfl) (fun p e s m args below meth c A ls F hr hlocks hno hK hP hD hS hA hSt hE hl => ?_)
  obtain ⟨hx, hb, hml, hown, hts⟩ := id F
  have hl : lv_has ls 4 [(0, .ref h0), (1, .int p0)] := hl
  refine lv_iload_n hx hb d_Ps_run_0 rfl (lv_at hl 1 rfl) ?_
  refine lv_iconst (v := 1) hx hb d_Ps_run_1 (by decide) ?_
  refine lv_icmp_lt (tgt := 12) hx hb d_Ps_run_2 (by decide) (fun c_2 => ?_) (fun c_2 => ?_)
  · exact j_thr (pc := 12) F hfl hlocks hno hl.1 (by decide) (ow_of hts hE.1 hE.2.1 ow_in1 ow_sp1) k_2_230 k_2_231 k_1_16 hE.2.2 hS hSt d_Ps_run_12 d_Ps_run_15 d_Ps_run_16 d_Ps_run_18 d_Ps_run_21 (Nat.le_of_ble_eq_true rfl) (Nat.le_of_ble_eq_true rfl) (Nat.le_of_ble_eq_true rfl) (Nat.le_of_ble_eq_true rfl)
  · refine lv_iload_n hx hb d_Ps_run_5 rfl (lv_at hl 1 rfl) ?_
    refine lv_sipush (v := 500) hx hb d_Ps_run_6 (by decide) ?_
    refine lv_icmp_le (tgt := 22) hx hb d_Ps_run_9 (by decide) (fun c_9 => absurd c_9 (fun q => hp.elim c_2 (fun z => absurd q (Int32.not_le.mpr z)))) (fun c_9 => ?_)
    exact j_thr (pc := 12) F hfl hlocks hno hl.1 (by decide) (ow_of hts hE.1 hE.2.1 ow_in1 ow_sp1) k_2_230 k_2_231 k_1_16 hE.2.2 hS hSt d_Ps_run_12 d_Ps_run_15 d_Ps_run_16 d_Ps_run_18 d_Ps_run_21 (Nat.le_of_ble_eq_true rfl) (Nat.le_of_ble_eq_true rfl) (Nat.le_of_ble_eq_true rfl) (Nat.le_of_ble_eq_true rfl)
theorem d_Ps_kind_0 : decode prog_1_method_8_code 0 = .ok (.aload_n 0, 1) := by decide +kernel
theorem d_Ps_kind_1 : decode prog_1_method_8_code 1 = .ok (.getfield 12, 3) := by decide +kernel
theorem d_Ps_kind_4 : decode prog_1_method_8_code 4 = .ok (.iload_n 1, 1) := by decide +kernel
theorem d_Ps_kind_5 : decode prog_1_method_8_code 5 = .ok (.invokevirtual 123, 3) := by decide +kernel
theorem d_Ps_kind_8 : decode prog_1_method_8_code 8 = .ok (.ifCond .ne 13, 3) := by decide +kernel
theorem d_Ps_kind_11 : decode prog_1_method_8_code 11 = .ok (.new 127, 3) := by decide +kernel
theorem d_Ps_kind_14 : decode prog_1_method_8_code 14 = .ok (.dup, 1) := by decide +kernel
theorem d_Ps_kind_15 : decode prog_1_method_8_code 15 = .ok (.ldc 129, 2) := by decide +kernel
theorem d_Ps_kind_17 : decode prog_1_method_8_code 17 = .ok (.invokespecial 131, 3) := by decide +kernel
theorem d_Ps_kind_20 : decode prog_1_method_8_code 20 = .ok (.athrow, 1) := by decide +kernel
theorem k_6_33 : Cond.classLink "PageScribe" 127 "java/lang/IndexOutOfBoundsException" ∈ gw := gw_of (tb_6 (List.mem_of_getElem? (i := 33) (by decide +kernel))) (by decide +kernel)
theorem k_6_34 : Cond.instantiable "java/lang/IndexOutOfBoundsException" 6 ∈ gw := gw_of (tb_6 (List.mem_of_getElem? (i := 34) (by decide +kernel))) (by decide +kernel)
theorem k_1_27 : Cond.initialized "java/lang/IndexOutOfBoundsException" ∈ gw := gw_of (tb_1 (List.mem_of_getElem? (i := 27) (by decide +kernel))) (by decide +kernel)
set_option maxHeartbeats 4000000 in
set_option maxRecDepth 100000 in
theorem t_Ps_kind (l : Launch) (D : va_G) (T : Nat → ClassId) (h0 : Nat) (oS : Nat) (oW : Nat) (oM : Nat) (oR : Nat) (oC : Nat) (oE : Nat) (k1 : Nat) (k2 : Nat) (k3 : Nat) (p0 : Int32) (qs : Nat) (sz : Nat) (hfl : l.flags = flags0) : MetT l ⟨"PageScribe", "kind", "(I)I"⟩ (wy ⟨"PageScribe", "kind", "(I)I"⟩ prog_1_method_8_code 2 (some .int)) ({ frames := 6, cells := 1, slots := 6, locals := 420 }) (va_Pc [.ref h0, .int p0] (Pw D T [(h0, .inr (10, [.ref oS, .ref oW, .ref oM, .ref oR, .ref oC, .ref oE])), (oS, .inr (0, [.ref k1, .ref k2, .ref k3, .int 0]))] sz (EX 129 "there is no such VALUE" qs))) (ThX "java/lang/IndexOutOfBoundsException") 1 6 (va_A [(h0, .inr (10, [.ref oS, .ref oW, .ref oM, .ref oR, .ref oC, .ref oE])), (oS, .inr (0, [.ref k1, .ref k2, .ref k3, .int 0]))] sz) := by
  refine j_metT (y := ⟨"PageScribe", "kind", "(I)I"⟩) (b := prog_1_method_8_code) (n := 2) (ret := (some .int)) (av := [.ref h0, .int p0]) (by decide +kernel) (Nat.le_of_ble_eq_true rfl) (fun p e s m args below meth c A ls F hr hlocks hno hK hP hD hS hA hSt hE hl => ?_)
  obtain ⟨hx, hb, hml, hown, hts⟩ := id F
  have hl : lv_has ls 2 [(0, .ref h0), (1, .int p0)] := hl
  refine lv_aload_n hx hb d_Ps_kind_0 rfl (lv_at hl 0 rfl) ?_
  refine va_get (D := D) (ci := 10) (v := .ref oS) (C := "PageScribe") (T := F_Ps) (N := 6) hx hb hts i_Ps hown hK hP 0 rfl rfl 0 (by decide) (hts _ k_2_58) (fun _ h9 => h9) rfl d_Ps_kind_1 ?_
  refine lv_iload_n hx hb d_Ps_kind_4 rfl (lv_at hl 1 rfl) ?_
  refine j_ci (wc := [(oS, .inr (0, [.ref k1, .ref k2, .ref k3, .int 0]))]) (wr := [(h0, .inr (10, [.ref oS, .ref oW, .ref oM, .ref oR, .ref oC, .ref oE]))]) hK hP hD hS hA [1] [0] rfl rfl (by decide) (by decide) (va_runV (As := [.int p0]) (rest := []) F (c_Stack_hasDown l D T oS k1 k2 k3 p0 s.heap.size) (j_cV (k := 1) (C := "PageScribe$Stack") hts k_2_116 k_1_3 k_2_113 k_2_114 k_2_115 (by decide +kernel) ⟨Nat.le_of_ble_eq_true rfl, Nat.le_of_ble_eq_true rfl⟩) (j_preV (q0 := 1) (ci := 0) hK hP hD [1] rfl (by decide) rfl rfl (fun _ _ _ _ h => h) (fun _ _ _ => trivial)) rfl rfl hl.1 rfl (lv_room (Nat.le_of_ble_eq_true rfl)) d_Ps_kind_5 ⟨Nat.le_of_ble_eq_true rfl, Nat.le_of_ble_eq_true rfl⟩) (fun rv1 u1 H locs hw hP hD hS => ?_)
  have hP : va_P D classes [(h0, .inr (10, [.ref oS, .ref oW, .ref oM, .ref oR, .ref oC, .ref oE])), (oS, .inr (0, [.ref k1, .ref k2, .ref k3, .int 0]))] H := hP
  have hD : va_D A [(h0, .inr (10, [.ref oS, .ref oW, .ref oM, .ref oR, .ref oC, .ref oE])), (oS, .inr (0, [.ref k1, .ref k2, .ref k3, .int 0]))] := hD
  have hw1 : rv1 = 0 := hw
  refine j_eqi (y := 0) hw1 ?_
  refine lv_if_ne (tgt := 21) hx hb d_Ps_kind_8 (by decide) (fun c9 => absurd c9 (by decide +kernel)) (fun _ => ?_)
  exact j_thr (pc := 11) F hfl hlocks hno hl.1 (by decide) (ow_of hts hE.1 hE.2.1 ow_in2 ow_sp2) k_6_33 k_6_34 k_1_27 hE.2.2 hS hSt d_Ps_kind_11 d_Ps_kind_14 d_Ps_kind_15 d_Ps_kind_17 d_Ps_kind_20 (Nat.le_of_ble_eq_true rfl) (Nat.le_of_ble_eq_true rfl) (Nat.le_of_ble_eq_true rfl) (Nat.le_of_ble_eq_true rfl)
theorem d_Ps_number_0 : decode prog_1_method_9_code 0 = .ok (.aload_n 0, 1) := by decide +kernel
theorem d_Ps_number_1 : decode prog_1_method_9_code 1 = .ok (.getfield 12, 3) := by decide +kernel
theorem d_Ps_number_4 : decode prog_1_method_9_code 4 = .ok (.iload_n 1, 1) := by decide +kernel
theorem d_Ps_number_5 : decode prog_1_method_9_code 5 = .ok (.invokevirtual 123, 3) := by decide +kernel
theorem d_Ps_number_8 : decode prog_1_method_9_code 8 = .ok (.ifCond .ne 13, 3) := by decide +kernel
theorem d_Ps_number_11 : decode prog_1_method_9_code 11 = .ok (.new 127, 3) := by decide +kernel
theorem d_Ps_number_14 : decode prog_1_method_9_code 14 = .ok (.dup, 1) := by decide +kernel
theorem d_Ps_number_15 : decode prog_1_method_9_code 15 = .ok (.ldc 129, 2) := by decide +kernel
theorem d_Ps_number_17 : decode prog_1_method_9_code 17 = .ok (.invokespecial 131, 3) := by decide +kernel
theorem d_Ps_number_20 : decode prog_1_method_9_code 20 = .ok (.athrow, 1) := by decide +kernel
set_option maxHeartbeats 4000000 in
set_option maxRecDepth 100000 in
theorem t_Ps_number (l : Launch) (D : va_G) (T : Nat → ClassId) (h0 : Nat) (oS : Nat) (oW : Nat) (oM : Nat) (oR : Nat) (oC : Nat) (oE : Nat) (k1 : Nat) (k2 : Nat) (k3 : Nat) (p0 : Int32) (qs : Nat) (sz : Nat) (hfl : l.flags = flags0) : MetT l ⟨"PageScribe", "number", "(I)I"⟩ (wy ⟨"PageScribe", "number", "(I)I"⟩ prog_1_method_9_code 3 (some .int)) ({ frames := 6, cells := 1, slots := 6, locals := 420 }) (va_Pc [.ref h0, .int p0] (Pw D T [(h0, .inr (10, [.ref oS, .ref oW, .ref oM, .ref oR, .ref oC, .ref oE])), (oS, .inr (0, [.ref k1, .ref k2, .ref k3, .int 0]))] sz (EX 129 "there is no such VALUE" qs))) (ThX "java/lang/IndexOutOfBoundsException") 1 6 (va_A [(h0, .inr (10, [.ref oS, .ref oW, .ref oM, .ref oR, .ref oC, .ref oE])), (oS, .inr (0, [.ref k1, .ref k2, .ref k3, .int 0]))] sz) := by
  refine j_metT (y := ⟨"PageScribe", "number", "(I)I"⟩) (b := prog_1_method_9_code) (n := 3) (ret := (some .int)) (av := [.ref h0, .int p0]) (by decide +kernel) (Nat.le_of_ble_eq_true rfl) (fun p e s m args below meth c A ls F hr hlocks hno hK hP hD hS hA hSt hE hl => ?_)
  obtain ⟨hx, hb, hml, hown, hts⟩ := id F
  have hl : lv_has ls 3 [(0, .ref h0), (1, .int p0)] := hl
  refine lv_aload_n hx hb d_Ps_number_0 rfl (lv_at hl 0 rfl) ?_
  refine va_get (D := D) (ci := 10) (v := .ref oS) (C := "PageScribe") (T := F_Ps) (N := 6) hx hb hts i_Ps hown hK hP 0 rfl rfl 0 (by decide) (hts _ k_2_58) (fun _ h9 => h9) rfl d_Ps_number_1 ?_
  refine lv_iload_n hx hb d_Ps_number_4 rfl (lv_at hl 1 rfl) ?_
  refine j_ci (wc := [(oS, .inr (0, [.ref k1, .ref k2, .ref k3, .int 0]))]) (wr := [(h0, .inr (10, [.ref oS, .ref oW, .ref oM, .ref oR, .ref oC, .ref oE]))]) hK hP hD hS hA [1] [0] rfl rfl (by decide) (by decide) (va_runV (As := [.int p0]) (rest := []) F (c_Stack_hasDown l D T oS k1 k2 k3 p0 s.heap.size) (j_cV (k := 1) (C := "PageScribe$Stack") hts k_2_116 k_1_3 k_2_113 k_2_114 k_2_115 (by decide +kernel) ⟨Nat.le_of_ble_eq_true rfl, Nat.le_of_ble_eq_true rfl⟩) (j_preV (q0 := 1) (ci := 0) hK hP hD [1] rfl (by decide) rfl rfl (fun _ _ _ _ h => h) (fun _ _ _ => trivial)) rfl rfl hl.1 rfl (lv_room (Nat.le_of_ble_eq_true rfl)) d_Ps_number_5 ⟨Nat.le_of_ble_eq_true rfl, Nat.le_of_ble_eq_true rfl⟩) (fun rv1 u1 H locs hw hP hD hS => ?_)
  have hP : va_P D classes [(h0, .inr (10, [.ref oS, .ref oW, .ref oM, .ref oR, .ref oC, .ref oE])), (oS, .inr (0, [.ref k1, .ref k2, .ref k3, .int 0]))] H := hP
  have hD : va_D A [(h0, .inr (10, [.ref oS, .ref oW, .ref oM, .ref oR, .ref oC, .ref oE])), (oS, .inr (0, [.ref k1, .ref k2, .ref k3, .int 0]))] := hD
  have hw1 : rv1 = 0 := hw
  refine j_eqi (y := 0) hw1 ?_
  refine lv_if_ne (tgt := 21) hx hb d_Ps_number_8 (by decide) (fun c9 => absurd c9 (by decide +kernel)) (fun _ => ?_)
  exact j_thr (pc := 11) F hfl hlocks hno hl.1 (by decide) (ow_of hts hE.1 hE.2.1 ow_in2 ow_sp2) k_6_33 k_6_34 k_1_27 hE.2.2 hS hSt d_Ps_number_11 d_Ps_number_14 d_Ps_number_15 d_Ps_number_17 d_Ps_number_20 (Nat.le_of_ble_eq_true rfl) (Nat.le_of_ble_eq_true rfl) (Nat.le_of_ble_eq_true rfl) (Nat.le_of_ble_eq_true rfl)
theorem d_Ps_real_0 : decode prog_1_method_10_code 0 = .ok (.aload_n 0, 1) := by decide +kernel
theorem d_Ps_real_1 : decode prog_1_method_10_code 1 = .ok (.getfield 12, 3) := by decide +kernel
theorem d_Ps_real_4 : decode prog_1_method_10_code 4 = .ok (.iload_n 1, 1) := by decide +kernel
theorem d_Ps_real_5 : decode prog_1_method_10_code 5 = .ok (.invokevirtual 123, 3) := by decide +kernel
theorem d_Ps_real_8 : decode prog_1_method_10_code 8 = .ok (.ifCond .ne 13, 3) := by decide +kernel
theorem d_Ps_real_11 : decode prog_1_method_10_code 11 = .ok (.new 127, 3) := by decide +kernel
theorem d_Ps_real_14 : decode prog_1_method_10_code 14 = .ok (.dup, 1) := by decide +kernel
theorem d_Ps_real_15 : decode prog_1_method_10_code 15 = .ok (.ldc 129, 2) := by decide +kernel
theorem d_Ps_real_17 : decode prog_1_method_10_code 17 = .ok (.invokespecial 131, 3) := by decide +kernel
theorem d_Ps_real_20 : decode prog_1_method_10_code 20 = .ok (.athrow, 1) := by decide +kernel
set_option maxHeartbeats 4000000 in
set_option maxRecDepth 100000 in
theorem t_Ps_real (l : Launch) (D : va_G) (T : Nat → ClassId) (h0 : Nat) (oS : Nat) (oW : Nat) (oM : Nat) (oR : Nat) (oC : Nat) (oE : Nat) (k1 : Nat) (k2 : Nat) (k3 : Nat) (p0 : Int32) (qs : Nat) (sz : Nat) (hfl : l.flags = flags0) : MetT l ⟨"PageScribe", "real", "(I)D"⟩ (wy ⟨"PageScribe", "real", "(I)D"⟩ prog_1_method_10_code 2 (some .double)) ({ frames := 6, cells := 1, slots := 6, locals := 420 }) (va_Pc [.ref h0, .int p0] (Pw D T [(h0, .inr (10, [.ref oS, .ref oW, .ref oM, .ref oR, .ref oC, .ref oE])), (oS, .inr (0, [.ref k1, .ref k2, .ref k3, .int 0]))] sz (EX 129 "there is no such VALUE" qs))) (ThX "java/lang/IndexOutOfBoundsException") 1 6 (va_A [(h0, .inr (10, [.ref oS, .ref oW, .ref oM, .ref oR, .ref oC, .ref oE])), (oS, .inr (0, [.ref k1, .ref k2, .ref k3, .int 0]))] sz) := by
  refine j_metT (y := ⟨"PageScribe", "real", "(I)D"⟩) (b := prog_1_method_10_code) (n := 2) (ret := (some .double)) (av := [.ref h0, .int p0]) (by decide +kernel) (Nat.le_of_ble_eq_true rfl) (fun p e s m args below meth c A ls F hr hlocks hno hK hP hD hS hA hSt hE hl => ?_)
  obtain ⟨hx, hb, hml, hown, hts⟩ := id F
  have hl : lv_has ls 2 [(0, .ref h0), (1, .int p0)] := hl
  refine lv_aload_n hx hb d_Ps_real_0 rfl (lv_at hl 0 rfl) ?_
  refine va_get (D := D) (ci := 10) (v := .ref oS) (C := "PageScribe") (T := F_Ps) (N := 6) hx hb hts i_Ps hown hK hP 0 rfl rfl 0 (by decide) (hts _ k_2_58) (fun _ h9 => h9) rfl d_Ps_real_1 ?_
  refine lv_iload_n hx hb d_Ps_real_4 rfl (lv_at hl 1 rfl) ?_
  refine j_ci (wc := [(oS, .inr (0, [.ref k1, .ref k2, .ref k3, .int 0]))]) (wr := [(h0, .inr (10, [.ref oS, .ref oW, .ref oM, .ref oR, .ref oC, .ref oE]))]) hK hP hD hS hA [1] [0] rfl rfl (by decide) (by decide) (va_runV (As := [.int p0]) (rest := []) F (c_Stack_hasDown l D T oS k1 k2 k3 p0 s.heap.size) (j_cV (k := 1) (C := "PageScribe$Stack") hts k_2_116 k_1_3 k_2_113 k_2_114 k_2_115 (by decide +kernel) ⟨Nat.le_of_ble_eq_true rfl, Nat.le_of_ble_eq_true rfl⟩) (j_preV (q0 := 1) (ci := 0) hK hP hD [1] rfl (by decide) rfl rfl (fun _ _ _ _ h => h) (fun _ _ _ => trivial)) rfl rfl hl.1 rfl (lv_room (Nat.le_of_ble_eq_true rfl)) d_Ps_real_5 ⟨Nat.le_of_ble_eq_true rfl, Nat.le_of_ble_eq_true rfl⟩) (fun rv1 u1 H locs hw hP hD hS => ?_)
  have hP : va_P D classes [(h0, .inr (10, [.ref oS, .ref oW, .ref oM, .ref oR, .ref oC, .ref oE])), (oS, .inr (0, [.ref k1, .ref k2, .ref k3, .int 0]))] H := hP
  have hD : va_D A [(h0, .inr (10, [.ref oS, .ref oW, .ref oM, .ref oR, .ref oC, .ref oE])), (oS, .inr (0, [.ref k1, .ref k2, .ref k3, .int 0]))] := hD
  have hw1 : rv1 = 0 := hw
  refine j_eqi (y := 0) hw1 ?_
  refine lv_if_ne (tgt := 21) hx hb d_Ps_real_8 (by decide) (fun c9 => absurd c9 (by decide +kernel)) (fun _ => ?_)
  exact j_thr (pc := 11) F hfl hlocks hno hl.1 (by decide) (ow_of hts hE.1 hE.2.1 ow_in2 ow_sp2) k_6_33 k_6_34 k_1_27 hE.2.2 hS hSt d_Ps_real_11 d_Ps_real_14 d_Ps_real_15 d_Ps_real_17 d_Ps_real_20 (Nat.le_of_ble_eq_true rfl) (Nat.le_of_ble_eq_true rfl) (Nat.le_of_ble_eq_true rfl) (Nat.le_of_ble_eq_true rfl)
theorem d_Lw_run_0 : decode method_3_code 0 = .ok (.aload_n 2, 1) := by decide +kernel
theorem d_Lw_run_1 : decode method_3_code 1 = .ok (.iconst 0, 1) := by decide +kernel
theorem d_Lw_run_2 : decode method_3_code 2 = .ok (.aload_n 0, 1) := by decide +kernel
theorem d_Lw_run_3 : decode method_3_code 3 = .ok (.iload_n 1, 1) := by decide +kernel
theorem d_Lw_run_4 : decode method_3_code 4 = .ok (.invokevirtual 7, 3) := by decide +kernel
theorem k_2_229 : Cond.code ⟨"PageScribe", "run", "(I)I"⟩ prog_1_method_3_code 4 (some .int) ∈ gw := gw_of (tb_2 (List.mem_of_getElem? (i := 229) (by decide +kernel))) (by decide +kernel)
theorem k_1_1 : Cond.initialized "PageScribe" ∈ gw := gw_of (tb_1 (List.mem_of_getElem? (i := 1) (by decide +kernel))) (by decide +kernel)
theorem k_2_226 : Cond.methodLink "PageScribeLaw" 7 ⟨"PageScribe", "run", "(I)I"⟩ ∈ gw := gw_of (tb_2 (List.mem_of_getElem? (i := 226) (by decide +kernel))) (by decide +kernel)
theorem k_2_227 : Cond.instanceMethod ⟨"PageScribe", "run", "(I)I"⟩ ∈ gw := gw_of (tb_2 (List.mem_of_getElem? (i := 227) (by decide +kernel))) (by decide +kernel)
theorem k_2_228 : Cond.selects "PageScribe" ⟨"PageScribe", "run", "(I)I"⟩ ⟨"PageScribe", "run", "(I)I"⟩ ∈ gw := gw_of (tb_2 (List.mem_of_getElem? (i := 228) (by decide +kernel))) (by decide +kernel)
theorem d_Lw_run_7 : decode method_3_code 7 = .ok (.i2l, 1) := by decide +kernel
theorem d_Lw_run_8 : decode method_3_code 8 = .ok (.lastore, 1) := by decide +kernel
theorem d_Lw_run_9 : decode method_3_code 9 = .ok (.goto 6, 3) := by decide +kernel
theorem d_Lw_run_15 : decode method_3_code 15 = .ok (.iconst 0, 1) := by decide +kernel
theorem d_Lw_run_16 : decode method_3_code 16 = .ok (.ireturn, 1) := by decide +kernel
set_option maxHeartbeats 4000000 in
set_option maxRecDepth 100000 in
theorem c_Lw_runA (l : Launch) (D : va_G) (T : Nat → ClassId) (h0 : Nat) (oS : Nat) (oW : Nat) (oM : Nat) (oR : Nat) (oC : Nat) (oE : Nat) (su : Nat) (tr : Nat) (st : Nat) (tx : Nat) (gt : Nat) (bg : Nat) (ou : Nat) (p0 : Int32) (sz : Nat) (hfl : l.flags = flags0) (hp1 : ¬ p0 < 1) (hp2 : ¬ 500 < p0) : Met l ⟨"PageScribeLaw", "run", "(LPageScribe;I[J)I"⟩ (wyH ⟨"PageScribeLaw", "run", "(LPageScribe;I[J)I"⟩ method_3_code 4 (some .int) [(0, 9, 12, 13)]) ({ frames := 2, cells := 0, slots := 0, locals := 140 }) (va_Pc [.ref h0, .int p0, .ref ou] (Pw D T [(h0, .inr (10, [.ref oS, .ref oW, .ref oM, .ref oR, .ref oC, .ref oE])), (oE, .inr (7, [.ref oS, .ref oM, .ref oC, .ref su, .ref tr, .int 0, .int 0, .int 0, .int 0, .int 0, .int 0])), (oR, .inr (5, [.ref oW, .ref st, .ref tx, .int 0, .int 0, .int 0, .int 0, .double 0, .ref gt, .ref bg])), (ou, .inl (T 1, 1, .inr (.inl zJ)))] sz E0)) (va_Qi (fun (r : Int32) (u : Unit) => r = 0) (fun u t => Bw D T (va_A [(h0, .inr (10, [.ref oS, .ref oW, .ref oM, .ref oR, .ref oC, .ref oE])), (oE, .inr (7, [.ref oS, .ref oM, .ref oC, .ref su, .ref tr, .int 0, .int 0, .int 0, .int 0, .int 0, .int 0])), (oR, .inr (5, [.ref oW, .ref st, .ref tx, .int 0, .int 0, .int 0, .int 0, .double 0, .ref gt, .ref bg])), (ou, .inl (T 1, 1, .inr (.inl zJ)))] sz) [(ou, .inl (T 1, 1, .inr (.inl zJ)))] t) (va_A [(h0, .inr (10, [.ref oS, .ref oW, .ref oM, .ref oR, .ref oC, .ref oE])), (oE, .inr (7, [.ref oS, .ref oM, .ref oC, .ref su, .ref tr, .int 0, .int 0, .int 0, .int 0, .int 0, .int 0])), (oR, .inr (5, [.ref oW, .ref st, .ref tx, .int 0, .int 0, .int 0, .int 0, .double 0, .ref gt, .ref bg])), (ou, .inl (T 1, 1, .inr (.inl zJ)))] sz)) 0 0 (va_A [(h0, .inr (10, [.ref oS, .ref oW, .ref oM, .ref oR, .ref oC, .ref oE])), (oE, .inr (7, [.ref oS, .ref oM, .ref oC, .ref su, .ref tr, .int 0, .int 0, .int 0, .int 0, .int 0, .int 0])), (oR, .inr (5, [.ref oW, .ref st, .ref tx, .int 0, .int 0, .int 0, .int 0, .double 0, .ref gt, .ref bg])), (ou, .inl (T 1, 1, .inr (.inl zJ)))] sz) := by
  refine j_metW (y := ⟨"PageScribeLaw", "run", "(LPageScribe;I[J)I"⟩) (b := method_3_code) (n := 4) (ret := (some .int)) (av := [.ref h0, .int p0, .ref ou]) (hh := [(0, 9, 12, 13)]) (Qc := fun A => va_Qi (fun (r : Int32) (u : Unit) => r = 0) (fun u t => Bw D T A [(ou, .inl (T 1, 1, .inr (.inl zJ)))] t) A) (by decide +kernel) (Nat.le_of_ble_eq_true rfl) (fun p e s m args below meth c A ls F hr hlocks htab hK hP hD hS hA hSt hE hl => ?_)
  obtain ⟨hx, hb, hml, hown, hts⟩ := id F
  have hl : lv_has ls 4 [(0, .ref h0), (1, .int p0), (2, .ref ou)] := hl
  refine lv_aload_n hx hb d_Lw_run_0 rfl (lv_at hl 2 rfl) ?_
  refine lv_iconst (v := 0) hx hb d_Lw_run_1 (by decide) ?_
  refine lv_aload_n hx hb d_Lw_run_2 rfl (lv_at hl 0 rfl) ?_
  refine lv_iload_n hx hb d_Lw_run_3 rfl (lv_at hl 1 rfl) ?_
  refine j_ci (wc := [(h0, .inr (10, [.ref oS, .ref oW, .ref oM, .ref oR, .ref oC, .ref oE])), (oE, .inr (7, [.ref oS, .ref oM, .ref oC, .ref su, .ref tr, .int 0, .int 0, .int 0, .int 0, .int 0, .int 0])), (oR, .inr (5, [.ref oW, .ref st, .ref tx, .int 0, .int 0, .int 0, .int 0, .double 0, .ref gt, .ref bg]))]) (wr := [(ou, .inl (T 1, 1, .inr (.inl zJ)))]) hK hP hD hS hA [0, 1, 2] [3] rfl rfl (by decide) (by decide) (va_runV (As := [.int p0]) (rest := [.int 0, .ref ou]) F (c_Ps_run l D T h0 oS oW oM oR oC oE su tr st tx gt bg p0 s.heap.size hp1 hp2) (j_cV (k := 1) (C := "PageScribe") hts k_2_229 k_1_1 k_2_226 k_2_227 k_2_228 (by decide +kernel) ⟨Nat.le_of_ble_eq_true rfl, Nat.le_of_ble_eq_true rfl⟩) (j_preV (q0 := 0) (ci := 10) hK hP hD [0, 1, 2] rfl (by decide) rfl rfl (fun _ _ _ _ h => h) (fun _ _ _ => trivial)) rfl rfl hl.1 rfl (lv_room (Nat.le_of_ble_eq_true rfl)) d_Lw_run_4 ⟨Nat.le_of_ble_eq_true rfl, Nat.le_of_ble_eq_true rfl⟩) (fun rv1 u1 H locs hw hP hD hS => ?_)
  have hP : va_P D classes [(ou, .inl (T 1, 1, .inr (.inl zJ))), (h0, .inr (10, [.ref oS, .ref oW, .ref oM, .ref oR, .ref oC, .ref oE])), (oE, .inr (7, [.ref oS, .ref oM, .ref oC, .ref su, .ref tr, .int p0, .int 0, .int 0, .int 0, .int 0, .int 0])), (oR, .inr (5, [.ref oW, .ref st, .ref tx, .int 0, .int 0, .int 0, .int 0, .double 0, .ref gt, .ref bg]))] H := hP
  have hD : va_D A [(ou, .inl (T 1, 1, .inr (.inl zJ))), (h0, .inr (10, [.ref oS, .ref oW, .ref oM, .ref oR, .ref oC, .ref oE])), (oE, .inr (7, [.ref oS, .ref oM, .ref oC, .ref su, .ref tr, .int p0, .int 0, .int 0, .int 0, .int 0, .int 0])), (oR, .inr (5, [.ref oW, .ref st, .ref tx, .int 0, .int 0, .int 0, .int 0, .double 0, .ref gt, .ref bg]))] := hD
  have hw1 : rv1 = 0 := hw
  refine j_eqi (y := 0) hw1 ?_
  refine lv_i2l (v := 0) hx hb d_Lw_run_7 (by decide +kernel) ?_
  refine va_last hx hb hK hP hD hS 0 1 rfl rfl (by unfold vp_in; decide +kernel) d_Lw_run_8 (fun H locs hP hD hS => ?_)
  have hP : va_P D classes [(ou, .inl (T 1, 1, .inr (.inl (vp_updL zJ (0 : Int32).toNatClampNeg 0)))), (h0, .inr (10, [.ref oS, .ref oW, .ref oM, .ref oR, .ref oC, .ref oE])), (oE, .inr (7, [.ref oS, .ref oM, .ref oC, .ref su, .ref tr, .int p0, .int 0, .int 0, .int 0, .int 0, .int 0])), (oR, .inr (5, [.ref oW, .ref st, .ref tx, .int 0, .int 0, .int 0, .int 0, .double 0, .ref gt, .ref bg]))] H := hP
  have hD : va_D A [(ou, .inl (T 1, 1, .inr (.inl (vp_updL zJ (0 : Int32).toNatClampNeg 0)))), (h0, .inr (10, [.ref oS, .ref oW, .ref oM, .ref oR, .ref oC, .ref oE])), (oE, .inr (7, [.ref oS, .ref oM, .ref oC, .ref su, .ref tr, .int p0, .int 0, .int 0, .int 0, .int 0, .int 0])), (oR, .inr (5, [.ref oW, .ref st, .ref tx, .int 0, .int 0, .int 0, .int 0, .double 0, .ref gt, .ref bg]))] := hD
  rw [zJ_up] at hP hD
  have hP : va_P D classes [(ou, .inl (T 1, 1, .inr (.inl zJ))), (h0, .inr (10, [.ref oS, .ref oW, .ref oM, .ref oR, .ref oC, .ref oE])), (oE, .inr (7, [.ref oS, .ref oM, .ref oC, .ref su, .ref tr, .int p0, .int 0, .int 0, .int 0, .int 0, .int 0])), (oR, .inr (5, [.ref oW, .ref st, .ref tx, .int 0, .int 0, .int 0, .int 0, .double 0, .ref gt, .ref bg]))] H := hP
  have hD : va_D A [(ou, .inl (T 1, 1, .inr (.inl zJ))), (h0, .inr (10, [.ref oS, .ref oW, .ref oM, .ref oR, .ref oC, .ref oE])), (oE, .inr (7, [.ref oS, .ref oM, .ref oC, .ref su, .ref tr, .int p0, .int 0, .int 0, .int 0, .int 0, .int 0])), (oR, .inr (5, [.ref oW, .ref st, .ref tx, .int 0, .int 0, .int 0, .int 0, .double 0, .ref gt, .ref bg]))] := hD
  refine lv_goto (tgt := 15) hx hb d_Lw_run_9 (by decide) ?_
  refine lv_iconst (v := 0) hx hb d_Lw_run_15 (by decide) ?_
  have hP9 := hP.sub (ws' := [(ou, .inl (T 1, 1, .inr (.inl zJ)))]) [0] rfl
  have hD9 := hD.sub (ws' := [(ou, .inl (T 1, 1, .inr (.inl zJ)))]) [0] (by decide) rfl
  refine W.widen (k := 0) (n := 0) (Nat.le_of_ble_eq_true rfl) (Nat.le_of_ble_eq_true rfl) ?_
  exact j_iret F hr hlocks hK hS () rfl hP9 hD9 d_Lw_run_16
theorem k_2_225 : Cond.classLink "PageScribeLaw" 13 "java/lang/IllegalArgumentException" ∈ gw := gw_of (tb_2 (List.mem_of_getElem? (i := 225) (by decide +kernel))) (by decide +kernel)
theorem d_Lw_run_12 : decode method_3_code 12 = .ok (.astore_n 3, 1) := by decide +kernel
theorem d_Lw_run_13 : decode method_3_code 13 = .ok (.iconst 1, 1) := by decide +kernel
theorem d_Lw_run_14 : decode method_3_code 14 = .ok (.ireturn, 1) := by decide +kernel
set_option maxHeartbeats 4000000 in
set_option maxRecDepth 100000 in
theorem c_Lw_runB (l : Launch) (D : va_G) (T : Nat → ClassId) (h0 : Nat) (oS : Nat) (oW : Nat) (oM : Nat) (oR : Nat) (oC : Nat) (oE : Nat) (ou : Nat) (p0 : Int32) (qs : Nat) (sz : Nat) (hfl : l.flags = flags0) (hp : p0 < 1 ∨ 500 < p0) : Met l ⟨"PageScribeLaw", "run", "(LPageScribe;I[J)I"⟩ (wyH ⟨"PageScribeLaw", "run", "(LPageScribe;I[J)I"⟩ method_3_code 4 (some .int) [(0, 9, 12, 13)]) ({ frames := 7, cells := 1, slots := 6, locals := 490 }) (va_Pc [.ref h0, .int p0, .ref ou] (Pw D T [(h0, .inr (10, [.ref oS, .ref oW, .ref oM, .ref oR, .ref oC, .ref oE])), (ou, .inl (T 1, 1, .inr (.inl zJ)))] sz (EX 69 "the fuel is not 1 to 500" qs))) (va_Qi (fun (r : Int32) (u : Unit) => r = 1) (fun u t => Bw D T (va_A [(h0, .inr (10, [.ref oS, .ref oW, .ref oM, .ref oR, .ref oC, .ref oE])), (ou, .inl (T 1, 1, .inr (.inl zJ)))] sz) [] t) (va_A [(h0, .inr (10, [.ref oS, .ref oW, .ref oM, .ref oR, .ref oC, .ref oE])), (ou, .inl (T 1, 1, .inr (.inl zJ)))] sz)) 1 6 (va_A [(h0, .inr (10, [.ref oS, .ref oW, .ref oM, .ref oR, .ref oC, .ref oE])), (ou, .inl (T 1, 1, .inr (.inl zJ)))] sz) := by
  refine j_metW (y := ⟨"PageScribeLaw", "run", "(LPageScribe;I[J)I"⟩) (b := method_3_code) (n := 4) (ret := (some .int)) (av := [.ref h0, .int p0, .ref ou]) (hh := [(0, 9, 12, 13)]) (Qc := fun A => va_Qi (fun (r : Int32) (u : Unit) => r = 1) (fun u t => Bw D T A [] t) A) (by decide +kernel) (Nat.le_of_ble_eq_true rfl) (fun p e s m args below meth c A ls F hr hlocks htab hK hP hD hS hA hSt hE hl => ?_)
  obtain ⟨hx, hb, hml, hown, hts⟩ := id F
  have hl : lv_has ls 4 [(0, .ref h0), (1, .int p0), (2, .ref ou)] := hl
  refine lv_aload_n hx hb d_Lw_run_0 rfl (lv_at hl 2 rfl) ?_
  refine lv_iconst (v := 0) hx hb d_Lw_run_1 (by decide) ?_
  refine lv_aload_n hx hb d_Lw_run_2 rfl (lv_at hl 0 rfl) ?_
  refine lv_iload_n hx hb d_Lw_run_3 rfl (lv_at hl 1 rfl) ?_
  refine j_catch (wc := []) (wr := [(h0, .inr (10, [.ref oS, .ref oW, .ref oM, .ref oR, .ref oC, .ref oE])), (ou, .inl (T 1, 1, .inr (.inl zJ)))]) (hpc := 12) (rest := [.int 0, .ref ou]) (As := [.int p0]) F hP hD hS hA [] [0, 1] rfl rfl (by decide) (by decide) (t_Ps_run l D T h0 p0 qs s.heap.size hfl hp) (j_cV (k := 1) (C := "PageScribe") hts k_2_229 k_1_1 k_2_226 k_2_227 k_2_228 (by decide +kernel) ⟨Nat.le_of_ble_eq_true rfl, Nat.le_of_ble_eq_true rfl⟩) (j_preV (q0 := 0) (ci := 10) hK hP hD [] rfl (by decide) rfl rfl (fun U g mk a h => EX.calling h) (fun U hU hW => EX.at hS hSt hU hW hE)) rfl hl.1 (Nat.le_of_ble_eq_true rfl) d_Lw_run_4 ⟨Nat.le_of_ble_eq_true rfl, Nat.le_of_ble_eq_true rfl⟩ ⟨0, 9, 12, 13⟩ [] htab (by decide) (by decide) k_2_225 rfl (fun x H locs hP hD hS => ?_)
  refine lv_astore_n (lv' := [(3, .ref x), (0, .ref h0), (1, .int p0), (2, .ref ou)]) hx hb d_Lw_run_12 rfl hl (by decide) rfl (fun ls hl => ?_)
  refine lv_iconst (v := 1) hx hb d_Lw_run_13 (by decide) ?_
  have hP9 := hP.sub (ws' := []) [] rfl
  have hD9 := hD.sub (ws' := []) [] (by decide) rfl
  refine W.widen (k := 1) (n := 6) (Nat.le_of_ble_eq_true rfl) (Nat.le_of_ble_eq_true rfl) ?_
  exact j_iret F hr hlocks hK hS () rfl hP9 hD9 d_Lw_run_14
theorem d_Lw_kind_0 : decode method_4_code 0 = .ok (.aload_n 2, 1) := by decide +kernel
theorem d_Lw_kind_1 : decode method_4_code 1 = .ok (.iconst 0, 1) := by decide +kernel
theorem d_Lw_kind_2 : decode method_4_code 2 = .ok (.aload_n 0, 1) := by decide +kernel
theorem d_Lw_kind_3 : decode method_4_code 3 = .ok (.iload_n 1, 1) := by decide +kernel
theorem d_Lw_kind_4 : decode method_4_code 4 = .ok (.invokevirtual 15, 3) := by decide +kernel
theorem k_6_32 : Cond.code ⟨"PageScribe", "kind", "(I)I"⟩ prog_1_method_8_code 2 (some .int) ∈ gw := gw_of (tb_6 (List.mem_of_getElem? (i := 32) (by decide +kernel))) (by decide +kernel)
theorem k_6_29 : Cond.methodLink "PageScribeLaw" 15 ⟨"PageScribe", "kind", "(I)I"⟩ ∈ gw := gw_of (tb_6 (List.mem_of_getElem? (i := 29) (by decide +kernel))) (by decide +kernel)
theorem k_6_30 : Cond.instanceMethod ⟨"PageScribe", "kind", "(I)I"⟩ ∈ gw := gw_of (tb_6 (List.mem_of_getElem? (i := 30) (by decide +kernel))) (by decide +kernel)
theorem k_6_31 : Cond.selects "PageScribe" ⟨"PageScribe", "kind", "(I)I"⟩ ⟨"PageScribe", "kind", "(I)I"⟩ ∈ gw := gw_of (tb_6 (List.mem_of_getElem? (i := 31) (by decide +kernel))) (by decide +kernel)
theorem k_6_28 : Cond.classLink "PageScribeLaw" 18 "java/lang/IndexOutOfBoundsException" ∈ gw := gw_of (tb_6 (List.mem_of_getElem? (i := 28) (by decide +kernel))) (by decide +kernel)
theorem d_Lw_kind_12 : decode method_4_code 12 = .ok (.astore_n 3, 1) := by decide +kernel
theorem d_Lw_kind_13 : decode method_4_code 13 = .ok (.iconst 1, 1) := by decide +kernel
theorem d_Lw_kind_14 : decode method_4_code 14 = .ok (.ireturn, 1) := by decide +kernel
set_option maxHeartbeats 4000000 in
set_option maxRecDepth 100000 in
theorem c_Lw_kind (l : Launch) (D : va_G) (T : Nat → ClassId) (h0 : Nat) (oS : Nat) (oW : Nat) (oM : Nat) (oR : Nat) (oC : Nat) (oE : Nat) (k1 : Nat) (k2 : Nat) (k3 : Nat) (ou : Nat) (p0 : Int32) (qs : Nat) (sz : Nat) (hfl : l.flags = flags0) : Met l ⟨"PageScribeLaw", "kind", "(LPageScribe;I[J)I"⟩ (wyH ⟨"PageScribeLaw", "kind", "(LPageScribe;I[J)I"⟩ method_4_code 4 (some .int) [(0, 9, 12, 18)]) ({ frames := 7, cells := 1, slots := 6, locals := 490 }) (va_Pc [.ref h0, .int p0, .ref ou] (Pw D T [(h0, .inr (10, [.ref oS, .ref oW, .ref oM, .ref oR, .ref oC, .ref oE])), (oS, .inr (0, [.ref k1, .ref k2, .ref k3, .int 0])), (ou, .inl (T 1, 1, .inr (.inl zJ)))] sz (EX 129 "there is no such VALUE" qs))) (va_Qi (fun (r : Int32) (u : Unit) => r = 1) (fun u t => Bw D T (va_A [(h0, .inr (10, [.ref oS, .ref oW, .ref oM, .ref oR, .ref oC, .ref oE])), (oS, .inr (0, [.ref k1, .ref k2, .ref k3, .int 0])), (ou, .inl (T 1, 1, .inr (.inl zJ)))] sz) [] t) (va_A [(h0, .inr (10, [.ref oS, .ref oW, .ref oM, .ref oR, .ref oC, .ref oE])), (oS, .inr (0, [.ref k1, .ref k2, .ref k3, .int 0])), (ou, .inl (T 1, 1, .inr (.inl zJ)))] sz)) 1 6 (va_A [(h0, .inr (10, [.ref oS, .ref oW, .ref oM, .ref oR, .ref oC, .ref oE])), (oS, .inr (0, [.ref k1, .ref k2, .ref k3, .int 0])), (ou, .inl (T 1, 1, .inr (.inl zJ)))] sz) := by
  refine j_metW (y := ⟨"PageScribeLaw", "kind", "(LPageScribe;I[J)I"⟩) (b := method_4_code) (n := 4) (ret := (some .int)) (av := [.ref h0, .int p0, .ref ou]) (hh := [(0, 9, 12, 18)]) (Qc := fun A => va_Qi (fun (r : Int32) (u : Unit) => r = 1) (fun u t => Bw D T A [] t) A) (by decide +kernel) (Nat.le_of_ble_eq_true rfl) (fun p e s m args below meth c A ls F hr hlocks htab hK hP hD hS hA hSt hE hl => ?_)
  obtain ⟨hx, hb, hml, hown, hts⟩ := id F
  have hl : lv_has ls 4 [(0, .ref h0), (1, .int p0), (2, .ref ou)] := hl
  refine lv_aload_n hx hb d_Lw_kind_0 rfl (lv_at hl 2 rfl) ?_
  refine lv_iconst (v := 0) hx hb d_Lw_kind_1 (by decide) ?_
  refine lv_aload_n hx hb d_Lw_kind_2 rfl (lv_at hl 0 rfl) ?_
  refine lv_iload_n hx hb d_Lw_kind_3 rfl (lv_at hl 1 rfl) ?_
  refine j_catch (wc := [(h0, .inr (10, [.ref oS, .ref oW, .ref oM, .ref oR, .ref oC, .ref oE])), (oS, .inr (0, [.ref k1, .ref k2, .ref k3, .int 0]))]) (wr := [(ou, .inl (T 1, 1, .inr (.inl zJ)))]) (hpc := 12) (rest := [.int 0, .ref ou]) (As := [.int p0]) F hP hD hS hA [0, 1] [2] rfl rfl (by decide) (by decide) (t_Ps_kind l D T h0 oS oW oM oR oC oE k1 k2 k3 p0 qs s.heap.size hfl) (j_cV (k := 1) (C := "PageScribe") hts k_6_32 k_1_1 k_6_29 k_6_30 k_6_31 (by decide +kernel) ⟨Nat.le_of_ble_eq_true rfl, Nat.le_of_ble_eq_true rfl⟩) (j_preV (q0 := 0) (ci := 10) hK hP hD [0, 1] rfl (by decide) rfl rfl (fun U g mk a h => EX.calling h) (fun U hU hW => EX.at hS hSt hU hW hE)) rfl hl.1 (Nat.le_of_ble_eq_true rfl) d_Lw_kind_4 ⟨Nat.le_of_ble_eq_true rfl, Nat.le_of_ble_eq_true rfl⟩ ⟨0, 9, 12, 18⟩ [] htab (by decide) (by decide) k_6_28 rfl (fun x H locs hP hD hS => ?_)
  refine lv_astore_n (lv' := [(3, .ref x), (0, .ref h0), (1, .int p0), (2, .ref ou)]) hx hb d_Lw_kind_12 rfl hl (by decide) rfl (fun ls hl => ?_)
  refine lv_iconst (v := 1) hx hb d_Lw_kind_13 (by decide) ?_
  have hP9 := hP.sub (ws' := []) [] rfl
  have hD9 := hD.sub (ws' := []) [] (by decide) rfl
  refine W.widen (k := 1) (n := 6) (Nat.le_of_ble_eq_true rfl) (Nat.le_of_ble_eq_true rfl) ?_
  exact j_iret F hr hlocks hK hS () rfl hP9 hD9 d_Lw_kind_14
theorem d_Lw_number_0 : decode method_5_code 0 = .ok (.aload_n 2, 1) := by decide +kernel
theorem d_Lw_number_1 : decode method_5_code 1 = .ok (.iconst 0, 1) := by decide +kernel
theorem d_Lw_number_2 : decode method_5_code 2 = .ok (.aload_n 0, 1) := by decide +kernel
theorem d_Lw_number_3 : decode method_5_code 3 = .ok (.iload_n 1, 1) := by decide +kernel
theorem d_Lw_number_4 : decode method_5_code 4 = .ok (.invokevirtual 20, 3) := by decide +kernel
theorem k_6_56 : Cond.code ⟨"PageScribe", "number", "(I)I"⟩ prog_1_method_9_code 3 (some .int) ∈ gw := gw_of (tb_6 (List.mem_of_getElem? (i := 56) (by decide +kernel))) (by decide +kernel)
theorem k_6_53 : Cond.methodLink "PageScribeLaw" 20 ⟨"PageScribe", "number", "(I)I"⟩ ∈ gw := gw_of (tb_6 (List.mem_of_getElem? (i := 53) (by decide +kernel))) (by decide +kernel)
theorem k_6_54 : Cond.instanceMethod ⟨"PageScribe", "number", "(I)I"⟩ ∈ gw := gw_of (tb_6 (List.mem_of_getElem? (i := 54) (by decide +kernel))) (by decide +kernel)
theorem k_6_55 : Cond.selects "PageScribe" ⟨"PageScribe", "number", "(I)I"⟩ ⟨"PageScribe", "number", "(I)I"⟩ ∈ gw := gw_of (tb_6 (List.mem_of_getElem? (i := 55) (by decide +kernel))) (by decide +kernel)
theorem d_Lw_number_12 : decode method_5_code 12 = .ok (.astore_n 3, 1) := by decide +kernel
theorem d_Lw_number_13 : decode method_5_code 13 = .ok (.iconst 1, 1) := by decide +kernel
theorem d_Lw_number_14 : decode method_5_code 14 = .ok (.ireturn, 1) := by decide +kernel
set_option maxHeartbeats 4000000 in
set_option maxRecDepth 100000 in
theorem c_Lw_number (l : Launch) (D : va_G) (T : Nat → ClassId) (h0 : Nat) (oS : Nat) (oW : Nat) (oM : Nat) (oR : Nat) (oC : Nat) (oE : Nat) (k1 : Nat) (k2 : Nat) (k3 : Nat) (ou : Nat) (p0 : Int32) (qs : Nat) (sz : Nat) (hfl : l.flags = flags0) : Met l ⟨"PageScribeLaw", "number", "(LPageScribe;I[J)I"⟩ (wyH ⟨"PageScribeLaw", "number", "(LPageScribe;I[J)I"⟩ method_5_code 4 (some .int) [(0, 9, 12, 18), (0, 9, 15, 23)]) ({ frames := 7, cells := 1, slots := 6, locals := 490 }) (va_Pc [.ref h0, .int p0, .ref ou] (Pw D T [(h0, .inr (10, [.ref oS, .ref oW, .ref oM, .ref oR, .ref oC, .ref oE])), (oS, .inr (0, [.ref k1, .ref k2, .ref k3, .int 0])), (ou, .inl (T 1, 1, .inr (.inl zJ)))] sz (EX 129 "there is no such VALUE" qs))) (va_Qi (fun (r : Int32) (u : Unit) => r = 1) (fun u t => Bw D T (va_A [(h0, .inr (10, [.ref oS, .ref oW, .ref oM, .ref oR, .ref oC, .ref oE])), (oS, .inr (0, [.ref k1, .ref k2, .ref k3, .int 0])), (ou, .inl (T 1, 1, .inr (.inl zJ)))] sz) [] t) (va_A [(h0, .inr (10, [.ref oS, .ref oW, .ref oM, .ref oR, .ref oC, .ref oE])), (oS, .inr (0, [.ref k1, .ref k2, .ref k3, .int 0])), (ou, .inl (T 1, 1, .inr (.inl zJ)))] sz)) 1 6 (va_A [(h0, .inr (10, [.ref oS, .ref oW, .ref oM, .ref oR, .ref oC, .ref oE])), (oS, .inr (0, [.ref k1, .ref k2, .ref k3, .int 0])), (ou, .inl (T 1, 1, .inr (.inl zJ)))] sz) := by
  refine j_metW (y := ⟨"PageScribeLaw", "number", "(LPageScribe;I[J)I"⟩) (b := method_5_code) (n := 4) (ret := (some .int)) (av := [.ref h0, .int p0, .ref ou]) (hh := [(0, 9, 12, 18), (0, 9, 15, 23)]) (Qc := fun A => va_Qi (fun (r : Int32) (u : Unit) => r = 1) (fun u t => Bw D T A [] t) A) (by decide +kernel) (Nat.le_of_ble_eq_true rfl) (fun p e s m args below meth c A ls F hr hlocks htab hK hP hD hS hA hSt hE hl => ?_)
  obtain ⟨hx, hb, hml, hown, hts⟩ := id F
  have hl : lv_has ls 4 [(0, .ref h0), (1, .int p0), (2, .ref ou)] := hl
  refine lv_aload_n hx hb d_Lw_number_0 rfl (lv_at hl 2 rfl) ?_
  refine lv_iconst (v := 0) hx hb d_Lw_number_1 (by decide) ?_
  refine lv_aload_n hx hb d_Lw_number_2 rfl (lv_at hl 0 rfl) ?_
  refine lv_iload_n hx hb d_Lw_number_3 rfl (lv_at hl 1 rfl) ?_
  refine j_catch (wc := [(h0, .inr (10, [.ref oS, .ref oW, .ref oM, .ref oR, .ref oC, .ref oE])), (oS, .inr (0, [.ref k1, .ref k2, .ref k3, .int 0]))]) (wr := [(ou, .inl (T 1, 1, .inr (.inl zJ)))]) (hpc := 12) (rest := [.int 0, .ref ou]) (As := [.int p0]) F hP hD hS hA [0, 1] [2] rfl rfl (by decide) (by decide) (t_Ps_number l D T h0 oS oW oM oR oC oE k1 k2 k3 p0 qs s.heap.size hfl) (j_cV (k := 1) (C := "PageScribe") hts k_6_56 k_1_1 k_6_53 k_6_54 k_6_55 (by decide +kernel) ⟨Nat.le_of_ble_eq_true rfl, Nat.le_of_ble_eq_true rfl⟩) (j_preV (q0 := 0) (ci := 10) hK hP hD [0, 1] rfl (by decide) rfl rfl (fun U g mk a h => EX.calling h) (fun U hU hW => EX.at hS hSt hU hW hE)) rfl hl.1 (Nat.le_of_ble_eq_true rfl) d_Lw_number_4 ⟨Nat.le_of_ble_eq_true rfl, Nat.le_of_ble_eq_true rfl⟩ ⟨0, 9, 12, 18⟩ [⟨0, 9, 15, 23⟩] htab (by decide) (by decide) k_6_28 rfl (fun x H locs hP hD hS => ?_)
  refine lv_astore_n (lv' := [(3, .ref x), (0, .ref h0), (1, .int p0), (2, .ref ou)]) hx hb d_Lw_number_12 rfl hl (by decide) rfl (fun ls hl => ?_)
  refine lv_iconst (v := 1) hx hb d_Lw_number_13 (by decide) ?_
  have hP9 := hP.sub (ws' := []) [] rfl
  have hD9 := hD.sub (ws' := []) [] (by decide) rfl
  refine W.widen (k := 1) (n := 6) (Nat.le_of_ble_eq_true rfl) (Nat.le_of_ble_eq_true rfl) ?_
  exact j_iret F hr hlocks hK hS () rfl hP9 hD9 d_Lw_number_14
theorem d_Lw_real_0 : decode method_6_code 0 = .ok (.aload_n 2, 1) := by decide +kernel
theorem d_Lw_real_1 : decode method_6_code 1 = .ok (.iconst 0, 1) := by decide +kernel
theorem d_Lw_real_2 : decode method_6_code 2 = .ok (.aload_n 0, 1) := by decide +kernel
theorem d_Lw_real_3 : decode method_6_code 3 = .ok (.iload_n 1, 1) := by decide +kernel
theorem d_Lw_real_4 : decode method_6_code 4 = .ok (.invokevirtual 25, 3) := by decide +kernel
theorem k_6_81 : Cond.code ⟨"PageScribe", "real", "(I)D"⟩ prog_1_method_10_code 2 (some .double) ∈ gw := gw_of (tb_6 (List.mem_of_getElem? (i := 81) (by decide +kernel))) (by decide +kernel)
theorem k_6_78 : Cond.methodLink "PageScribeLaw" 25 ⟨"PageScribe", "real", "(I)D"⟩ ∈ gw := gw_of (tb_6 (List.mem_of_getElem? (i := 78) (by decide +kernel))) (by decide +kernel)
theorem k_6_79 : Cond.instanceMethod ⟨"PageScribe", "real", "(I)D"⟩ ∈ gw := gw_of (tb_6 (List.mem_of_getElem? (i := 79) (by decide +kernel))) (by decide +kernel)
theorem k_6_80 : Cond.selects "PageScribe" ⟨"PageScribe", "real", "(I)D"⟩ ⟨"PageScribe", "real", "(I)D"⟩ ∈ gw := gw_of (tb_6 (List.mem_of_getElem? (i := 80) (by decide +kernel))) (by decide +kernel)
theorem d_Lw_real_11 : decode method_6_code 11 = .ok (.astore_n 3, 1) := by decide +kernel
theorem d_Lw_real_12 : decode method_6_code 12 = .ok (.iconst 1, 1) := by decide +kernel
theorem d_Lw_real_13 : decode method_6_code 13 = .ok (.ireturn, 1) := by decide +kernel
set_option maxHeartbeats 4000000 in
set_option maxRecDepth 100000 in
theorem c_Lw_real (l : Launch) (D : va_G) (T : Nat → ClassId) (h0 : Nat) (oS : Nat) (oW : Nat) (oM : Nat) (oR : Nat) (oC : Nat) (oE : Nat) (k1 : Nat) (k2 : Nat) (k3 : Nat) (ou : Nat) (p0 : Int32) (qs : Nat) (sz : Nat) (hfl : l.flags = flags0) : Met l ⟨"PageScribeLaw", "real", "(LPageScribe;I[D)I"⟩ (wyH ⟨"PageScribeLaw", "real", "(LPageScribe;I[D)I"⟩ method_6_code 4 (some .int) [(0, 8, 11, 18), (0, 8, 14, 23)]) ({ frames := 7, cells := 1, slots := 6, locals := 490 }) (va_Pc [.ref h0, .int p0, .ref ou] (Pw D T [(h0, .inr (10, [.ref oS, .ref oW, .ref oM, .ref oR, .ref oC, .ref oE])), (oS, .inr (0, [.ref k1, .ref k2, .ref k3, .int 0])), (ou, .inl (T 3, 1, .inr (.inr (.inr (.inl zD)))))] sz (EX 129 "there is no such VALUE" qs))) (va_Qi (fun (r : Int32) (u : Unit) => r = 1) (fun u t => Bw D T (va_A [(h0, .inr (10, [.ref oS, .ref oW, .ref oM, .ref oR, .ref oC, .ref oE])), (oS, .inr (0, [.ref k1, .ref k2, .ref k3, .int 0])), (ou, .inl (T 3, 1, .inr (.inr (.inr (.inl zD)))))] sz) [] t) (va_A [(h0, .inr (10, [.ref oS, .ref oW, .ref oM, .ref oR, .ref oC, .ref oE])), (oS, .inr (0, [.ref k1, .ref k2, .ref k3, .int 0])), (ou, .inl (T 3, 1, .inr (.inr (.inr (.inl zD)))))] sz)) 1 6 (va_A [(h0, .inr (10, [.ref oS, .ref oW, .ref oM, .ref oR, .ref oC, .ref oE])), (oS, .inr (0, [.ref k1, .ref k2, .ref k3, .int 0])), (ou, .inl (T 3, 1, .inr (.inr (.inr (.inl zD)))))] sz) := by
  refine j_metW (y := ⟨"PageScribeLaw", "real", "(LPageScribe;I[D)I"⟩) (b := method_6_code) (n := 4) (ret := (some .int)) (av := [.ref h0, .int p0, .ref ou]) (hh := [(0, 8, 11, 18), (0, 8, 14, 23)]) (Qc := fun A => va_Qi (fun (r : Int32) (u : Unit) => r = 1) (fun u t => Bw D T A [] t) A) (by decide +kernel) (Nat.le_of_ble_eq_true rfl) (fun p e s m args below meth c A ls F hr hlocks htab hK hP hD hS hA hSt hE hl => ?_)
  obtain ⟨hx, hb, hml, hown, hts⟩ := id F
  have hl : lv_has ls 4 [(0, .ref h0), (1, .int p0), (2, .ref ou)] := hl
  refine lv_aload_n hx hb d_Lw_real_0 rfl (lv_at hl 2 rfl) ?_
  refine lv_iconst (v := 0) hx hb d_Lw_real_1 (by decide) ?_
  refine lv_aload_n hx hb d_Lw_real_2 rfl (lv_at hl 0 rfl) ?_
  refine lv_iload_n hx hb d_Lw_real_3 rfl (lv_at hl 1 rfl) ?_
  refine j_catch (wc := [(h0, .inr (10, [.ref oS, .ref oW, .ref oM, .ref oR, .ref oC, .ref oE])), (oS, .inr (0, [.ref k1, .ref k2, .ref k3, .int 0]))]) (wr := [(ou, .inl (T 3, 1, .inr (.inr (.inr (.inl zD)))))]) (hpc := 11) (rest := [.int 0, .ref ou]) (As := [.int p0]) F hP hD hS hA [0, 1] [2] rfl rfl (by decide) (by decide) (t_Ps_real l D T h0 oS oW oM oR oC oE k1 k2 k3 p0 qs s.heap.size hfl) (j_cV (k := 1) (C := "PageScribe") hts k_6_81 k_1_1 k_6_78 k_6_79 k_6_80 (by decide +kernel) ⟨Nat.le_of_ble_eq_true rfl, Nat.le_of_ble_eq_true rfl⟩) (j_preV (q0 := 0) (ci := 10) hK hP hD [0, 1] rfl (by decide) rfl rfl (fun U g mk a h => EX.calling h) (fun U hU hW => EX.at hS hSt hU hW hE)) rfl hl.1 (Nat.le_of_ble_eq_true rfl) d_Lw_real_4 ⟨Nat.le_of_ble_eq_true rfl, Nat.le_of_ble_eq_true rfl⟩ ⟨0, 8, 11, 18⟩ [⟨0, 8, 14, 23⟩] htab (by decide) (by decide) k_6_28 rfl (fun x H locs hP hD hS => ?_)
  refine lv_astore_n (lv' := [(3, .ref x), (0, .ref h0), (1, .int p0), (2, .ref ou)]) hx hb d_Lw_real_11 rfl hl (by decide) rfl (fun ls hl => ?_)
  refine lv_iconst (v := 1) hx hb d_Lw_real_12 (by decide) ?_
  have hP9 := hP.sub (ws' := []) [] rfl
  have hD9 := hD.sub (ws' := []) [] (by decide) rfl
  refine W.widen (k := 1) (n := 6) (Nat.le_of_ble_eq_true rfl) (Nat.le_of_ble_eq_true rfl) ?_
  exact j_iret F hr hlocks hK hS () rfl hP9 hD9 d_Lw_real_13
/-- the script, as a method that reads it has it -/
def EXs (b L : Nat) (xs : Nat → Int32) : State → Prop := fun U => va_X b L xs U U.heap ∧ L ≤ 5
theorem EXs.calling {b L : Nat} {xs : Nat → Int32} {U : State} {g : JFrame} {mk : MethodId} {a : Array Value} (h : EXs b L xs U) : EXs b L xs (U.calling g mk a) := ⟨va_X.moved (u := U) (U := U.calling g mk a) (Vm.Alike.refl U.vm) h.1, h.2⟩
theorem EXs.at {b L : Nat} {xs : Nat → Int32} {A : Nat → Prop} {s U : State} {H : Heap} {locs : List Loc} (hL : L ≤ 5) (hX : va_X b L xs s s.heap) (hbl : b < s.heap.size) (hbA : ¬ A b) (hS : va_S A s.heap H locs) (hU : U.heap = H) (hW : s.WarmedH U.vm) : EXs b L xs U := by
  refine ⟨va_X.moved hW.alike ?_, hL⟩
  rw [hU]
  exact hX.kept (hS.2.1 b hbl hbA)
def cellOf (L : Nat) (xs : Nat → Int32) (k : Nat) : Int32 := if k < L then xs k else 0
theorem d_Lw_cell_0 : decode method_2_code 0 = .ok (.iload_n 1, 1) := by decide +kernel
theorem d_Lw_cell_1 : decode method_2_code 1 = .ok (.aload_n 0, 1) := by decide +kernel
theorem d_Lw_cell_2 : decode method_2_code 2 = .ok (.arraylength, 1) := by decide +kernel
theorem d_Lw_cell_3 : decode method_2_code 3 = .ok (.if_icmp .ge 9, 3) := by decide +kernel
theorem d_Lw_cell_12 : decode method_2_code 12 = .ok (.iconst 0, 1) := by decide +kernel
theorem d_Lw_cell_13 : decode method_2_code 13 = .ok (.ireturn, 1) := by decide +kernel
theorem d_Lw_cell_6 : decode method_2_code 6 = .ok (.aload_n 0, 1) := by decide +kernel
theorem d_Lw_cell_7 : decode method_2_code 7 = .ok (.iload_n 1, 1) := by decide +kernel
theorem d_Lw_cell_8 : decode method_2_code 8 = .ok (.iaload, 1) := by decide +kernel
theorem d_Lw_cell_9 : decode method_2_code 9 = .ok (.goto 4, 3) := by decide +kernel
set_option maxHeartbeats 4000000 in
set_option maxRecDepth 100000 in
theorem c_Lw_cell0 (l : Launch) (D : va_G) (T : Nat → ClassId) (b : Nat) (L : Nat) (xs : (Nat → Int32)) (sz : Nat) : Met l ⟨"PageScribeLaw", "cell", "([II)I"⟩ (wy ⟨"PageScribeLaw", "cell", "([II)I"⟩ method_2_code 2 (some .int)) ({ frames := 0, cells := 0, slots := 0, locals := 0 }) (va_Pc [.ref b, .int 0] (Pw D T [] sz (EXs b L xs))) (va_Qi (fun (r : Int32) (u : Unit) => r = cellOf L xs 0) (fun u t => Bw D T (va_A [] sz) [] t) (va_A [] sz)) 0 0 (va_A [] sz) := by
  refine j_met (y := ⟨"PageScribeLaw", "cell", "([II)I"⟩) (b := method_2_code) (n := 2) (ret := (some .int)) (av := [.ref b, .int 0]) (Qc := fun A => va_Qi (fun (r : Int32) (u : Unit) => r = cellOf L xs 0) (fun u t => Bw D T A [] t) A) (by decide +kernel) (Nat.le_of_ble_eq_true rfl) (fun p e s m args below meth c A ls F hr hlocks hnm hK hP hD hS hA hN hE hl => ?_)
  obtain ⟨hx, hb, hml, hown, hts⟩ := id F
  have hin := hnm
  have hl : lv_has ls 2 [(0, .ref b), (1, .int 0)] := hl
  have hX := hE.1
  have hL5 := hE.2
  have hbl : b < s.heap.size := by obtain ⟨scr, h1, -⟩ := hX; exact (Array.getElem?_eq_some_iff.mp h1).1
  have hbA : ¬ A b := hN b hbl (fun k e h => by simp at h)
  refine lv_iload_n hx hb d_Lw_cell_0 rfl (lv_at hl 1 rfl) ?_
  refine lv_aload_n hx hb d_Lw_cell_1 rfl (lv_at hl 0 rfl) ?_
  refine va_slen hx hb hX hbl hbA hS d_Lw_cell_2 ?_
  refine W.eq (g2 := F0 m 3 ls [.int (nI L), .int 0]) rfl ?_
  refine lv_icmp_ge (tgt := 12) hx hb d_Lw_cell_3 (by decide) (fun c_3 => ?_) (fun c_3 => ?_)
  · refine lv_iconst (v := 0) hx hb d_Lw_cell_12 (by decide) ?_
    have hP9 := hP.sub (ws' := []) [] rfl
    have hD9 := hD.sub (ws' := []) [] (by decide) rfl
    refine W.widen (k := 0) (n := 0) (Nat.le_of_ble_eq_true rfl) (Nat.le_of_ble_eq_true rfl) ?_
    exact j_iret F hr hlocks hK hS () (by first | exact (if_pos hlt).symm | exact (if_neg (fun q => absurd c_3 (nI_ge (a := 0) (b := L) q (by omega)))).symm) hP9 hD9 d_Lw_cell_13
  · refine lv_aload_n hx hb d_Lw_cell_6 rfl (lv_at hl 0 rfl) ?_
    refine lv_iload_n hx hb d_Lw_cell_7 rfl (lv_at hl 1 rfl) ?_
    have hlt : 0 < L := by
      rcases Nat.lt_or_ge 0 L with q | q
      · exact q
      · exact absurd (show nI L ≤ nI 0 from nI_le q (by omega)) c_3
    refine va_sld hx hb hX hbl hbA hS (vp_in_nI (n := 0) hlt (by omega)) d_Lw_cell_8 ?_
    refine j_eqi (y := xs 0) (by rw [show ((0 : Int32).toNatClampNeg) = 0 by decide +kernel]) ?_
    refine lv_goto (tgt := 13) hx hb d_Lw_cell_9 (by decide) ?_
    have hP9 := hP.sub (ws' := []) [] rfl
    have hD9 := hD.sub (ws' := []) [] (by decide) rfl
    refine W.widen (k := 0) (n := 0) (Nat.le_of_ble_eq_true rfl) (Nat.le_of_ble_eq_true rfl) ?_
    exact j_iret F hr hlocks hK hS () (by first | exact (if_pos hlt).symm | exact (if_neg (fun q => absurd c_3 (nI_ge (a := 0) (b := L) q (by omega)))).symm) hP9 hD9 d_Lw_cell_13
set_option maxHeartbeats 4000000 in
set_option maxRecDepth 100000 in
theorem c_Lw_cell1 (l : Launch) (D : va_G) (T : Nat → ClassId) (b : Nat) (L : Nat) (xs : (Nat → Int32)) (sz : Nat) : Met l ⟨"PageScribeLaw", "cell", "([II)I"⟩ (wy ⟨"PageScribeLaw", "cell", "([II)I"⟩ method_2_code 2 (some .int)) ({ frames := 0, cells := 0, slots := 0, locals := 0 }) (va_Pc [.ref b, .int 1] (Pw D T [] sz (EXs b L xs))) (va_Qi (fun (r : Int32) (u : Unit) => r = cellOf L xs 1) (fun u t => Bw D T (va_A [] sz) [] t) (va_A [] sz)) 0 0 (va_A [] sz) := by
  refine j_met (y := ⟨"PageScribeLaw", "cell", "([II)I"⟩) (b := method_2_code) (n := 2) (ret := (some .int)) (av := [.ref b, .int 1]) (Qc := fun A => va_Qi (fun (r : Int32) (u : Unit) => r = cellOf L xs 1) (fun u t => Bw D T A [] t) A) (by decide +kernel) (Nat.le_of_ble_eq_true rfl) (fun p e s m args below meth c A ls F hr hlocks hnm hK hP hD hS hA hN hE hl => ?_)
  obtain ⟨hx, hb, hml, hown, hts⟩ := id F
  have hin := hnm
  have hl : lv_has ls 2 [(0, .ref b), (1, .int 1)] := hl
  have hX := hE.1
  have hL5 := hE.2
  have hbl : b < s.heap.size := by obtain ⟨scr, h1, -⟩ := hX; exact (Array.getElem?_eq_some_iff.mp h1).1
  have hbA : ¬ A b := hN b hbl (fun k e h => by simp at h)
  refine lv_iload_n hx hb d_Lw_cell_0 rfl (lv_at hl 1 rfl) ?_
  refine lv_aload_n hx hb d_Lw_cell_1 rfl (lv_at hl 0 rfl) ?_
  refine va_slen hx hb hX hbl hbA hS d_Lw_cell_2 ?_
  refine W.eq (g2 := F0 m 3 ls [.int (nI L), .int 1]) rfl ?_
  refine lv_icmp_ge (tgt := 12) hx hb d_Lw_cell_3 (by decide) (fun c_3 => ?_) (fun c_3 => ?_)
  · refine lv_iconst (v := 0) hx hb d_Lw_cell_12 (by decide) ?_
    have hP9 := hP.sub (ws' := []) [] rfl
    have hD9 := hD.sub (ws' := []) [] (by decide) rfl
    refine W.widen (k := 0) (n := 0) (Nat.le_of_ble_eq_true rfl) (Nat.le_of_ble_eq_true rfl) ?_
    exact j_iret F hr hlocks hK hS () (by first | exact (if_pos hlt).symm | exact (if_neg (fun q => absurd c_3 (nI_ge (a := 1) (b := L) q (by omega)))).symm) hP9 hD9 d_Lw_cell_13
  · refine lv_aload_n hx hb d_Lw_cell_6 rfl (lv_at hl 0 rfl) ?_
    refine lv_iload_n hx hb d_Lw_cell_7 rfl (lv_at hl 1 rfl) ?_
    have hlt : 1 < L := by
      rcases Nat.lt_or_ge 1 L with q | q
      · exact q
      · exact absurd (show nI L ≤ nI 1 from nI_le q (by omega)) c_3
    refine va_sld hx hb hX hbl hbA hS (vp_in_nI (n := 1) hlt (by omega)) d_Lw_cell_8 ?_
    refine j_eqi (y := xs 1) (by rw [show ((1 : Int32).toNatClampNeg) = 1 by decide +kernel]) ?_
    refine lv_goto (tgt := 13) hx hb d_Lw_cell_9 (by decide) ?_
    have hP9 := hP.sub (ws' := []) [] rfl
    have hD9 := hD.sub (ws' := []) [] (by decide) rfl
    refine W.widen (k := 0) (n := 0) (Nat.le_of_ble_eq_true rfl) (Nat.le_of_ble_eq_true rfl) ?_
    exact j_iret F hr hlocks hK hS () (by first | exact (if_pos hlt).symm | exact (if_neg (fun q => absurd c_3 (nI_ge (a := 1) (b := L) q (by omega)))).symm) hP9 hD9 d_Lw_cell_13
