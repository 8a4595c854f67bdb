theorem d_Stack_hasDown_0 : decode prog_9_method_2_code 0 = .ok (.iload_n 1, 1) := by decide +kernel
theorem d_Stack_hasDown_1 : decode prog_9_method_2_code 1 = .ok (.ifCond .lt 15, 3) := by decide +kernel
theorem d_Stack_hasDown_16 : decode prog_9_method_2_code 16 = .ok (.iconst 0, 1) := by decide +kernel
theorem d_Stack_hasDown_17 : decode prog_9_method_2_code 17 = .ok (.ireturn, 1) := by decide +kernel
theorem d_Stack_hasDown_4 : decode prog_9_method_2_code 4 = .ok (.iload_n 1, 1) := by decide +kernel
theorem d_Stack_hasDown_5 : decode prog_9_method_2_code 5 = .ok (.aload_n 0, 1) := by decide +kernel
theorem d_Stack_hasDown_6 : decode prog_9_method_2_code 6 = .ok (.getfield 9, 3) := by decide +kernel
theorem k_1_51 : Cond.sameField "PageScribe$Stack" "PageScribe$Row" "size" "I" ∈ gw := gw_of (tb_1 (List.mem_of_getElem? (i := 51) (by decide +kernel))) (by decide +kernel)
theorem k_1_50 : Cond.fieldLink "PageScribe$Stack" 9 "PageScribe$Stack" "size" "I" ∈ gw := gw_of (tb_1 (List.mem_of_getElem? (i := 50) (by decide +kernel))) (by decide +kernel)
theorem d_Stack_hasDown_9 : decode prog_9_method_2_code 9 = .ok (.if_icmp .ge 7, 3) := by decide +kernel
theorem d_Stack_hasDown_12 : decode prog_9_method_2_code 12 = .ok (.iconst 1, 1) := by decide +kernel
theorem d_Stack_hasDown_13 : decode prog_9_method_2_code 13 = .ok (.goto 4, 3) := by decide +kernel
set_option maxHeartbeats 4000000 in
set_option maxRecDepth 100000 in
theorem c_Stack_hasDown (l : Launch) (D : va_G) (T : Nat → ClassId) (ad : Nat → Nat) (S : CS) (p0 : Int32) (sz : Nat)  : Met l ⟨"PageScribe$Stack", "hasDown", "(I)Z"⟩ (wy ⟨"PageScribe$Stack", "hasDown", "(I)Z"⟩ prog_9_method_2_code 2 (some .boolean)) ({ frames := 0, cells := 0, slots := 0, locals := 0 }) (va_Pc [.ref (ad 1), .int p0] (Pw D T (cW T ad S) sz E0)) (va_Qi (fun (r : Int32) (u : Unit) => r.toInt = 0 ∨ r.toInt = 1) (fun u t => Bw D T (va_A (cW T ad S) sz) (cW T ad S) t) (va_A (cW T ad S) sz)) 0 0 (va_A (cW T ad S) sz) := by
  refine j_met (y := ⟨"PageScribe$Stack", "hasDown", "(I)Z"⟩) (b := prog_9_method_2_code) (n := 2) (ret := (some .boolean)) (av := [.ref (ad 1), .int p0]) (Qc := fun A => va_Qi (fun (r : Int32) (u : Unit) => r.toInt = 0 ∨ r.toInt = 1) (fun u t => Bw D T A (cW T ad S) t) A) (by decide +kernel) (Nat.le_of_ble_eq_true rfl) (fun p e s m args below meth c A ls F hr hlocks hnm hK hP hD hS hA hN hE hl => ?_)
  obtain ⟨hx, hb, hml, hown, hts⟩ := id F
  have hl : lv_has ls 2 [(0, .ref (ad 1)), (1, .int p0)] := hl
  have rp0 := zt_rng p0
  refine lv_iload_n hx hb d_Stack_hasDown_0 rfl (lv_at hl 1 rfl) ?_
  refine lv_if_lt (tgt := 16) hx hb d_Stack_hasDown_1 (by decide) (fun c1_1 => ?_) (fun c1_1 => ?_)
  · have fc1_1 : p0.toInt < 0 := zt_lt (show p0.toInt = _ from rfl) tI_0 c1_1
    refine lv_iconst (v := 0) hx hb d_Stack_hasDown_16 (by decide) ?_
    exact j_zret F hr (by decide +kernel) hlocks hK hS () (show (0 : Int32).toInt = 0 ∨ (0 : Int32).toInt = 1 by have := tI_0; omega) hP hD d_Stack_hasDown_17
  · have fc1_1 : 0 ≤ p0.toInt := Int.not_lt.mp (zt_nlt (show p0.toInt = _ from rfl) tI_0 c1_1)
    refine lv_iload_n hx hb d_Stack_hasDown_4 rfl (lv_at hl 1 rfl) ?_
    refine lv_aload_n hx hb d_Stack_hasDown_5 rfl (lv_at hl 0 rfl) ?_
    refine va_get (D := D) (ci := 0) (v := .int (f_xst_z S)) (C := "PageScribe$Stack") (T := F_Stack) (N := 4) hx hb hts i_Stack hown hK hP 1 (ce_1 _ _ _) cl_0 3 (by decide) (hts _ k_1_50) (fun x9 h9 => u_same (hts _ k_1_51) x9 h9) rfl d_Stack_hasDown_6 ?_
    refine lv_icmp_ge (tgt := 16) hx hb d_Stack_hasDown_9 (by decide) (fun c9_1 => ?_) (fun c9_1 => ?_)
    · have fc9_1 : (f_xst_z S).toInt ≤ p0.toInt := zt_le (show (f_xst_z S).toInt = _ from rfl) (show p0.toInt = _ from rfl) c9_1
      refine lv_iconst (v := 0) hx hb d_Stack_hasDown_16 (by decide) ?_
      exact j_zret F hr (by decide +kernel) hlocks hK hS () (show (0 : Int32).toInt = 0 ∨ (0 : Int32).toInt = 1 by have := tI_0; omega) hP hD d_Stack_hasDown_17
    · have fc9_1 : p0.toInt < (f_xst_z S).toInt := Int.not_le.mp (zt_nle (show (f_xst_z S).toInt = _ from rfl) (show p0.toInt = _ from rfl) c9_1)
      refine lv_iconst (v := 1) hx hb d_Stack_hasDown_12 (by decide) ?_
      refine lv_goto (tgt := 17) hx hb d_Stack_hasDown_13 (by decide) ?_
      exact j_zret F hr (by decide +kernel) hlocks hK hS () (show (1 : Int32).toInt = 0 ∨ (1 : Int32).toInt = 1 by have := tI_1; omega) hP hD d_Stack_hasDown_17
theorem d_Stack_kindDown_0 : decode prog_9_method_3_code 0 = .ok (.aload_n 0, 1) := by decide +kernel
theorem d_Stack_kindDown_1 : decode prog_9_method_3_code 1 = .ok (.aload_n 0, 1) := by decide +kernel
theorem d_Stack_kindDown_2 : decode prog_9_method_3_code 2 = .ok (.getfield 9, 3) := by decide +kernel
theorem d_Stack_kindDown_5 : decode prog_9_method_3_code 5 = .ok (.iconst 1, 1) := by decide +kernel
theorem d_Stack_kindDown_6 : decode prog_9_method_3_code 6 = .ok (.isub, 1) := by decide +kernel
theorem d_Stack_kindDown_7 : decode prog_9_method_3_code 7 = .ok (.iload_n 1, 1) := by decide +kernel
theorem d_Stack_kindDown_8 : decode prog_9_method_3_code 8 = .ok (.isub, 1) := by decide +kernel
theorem d_Stack_kindDown_9 : decode prog_9_method_3_code 9 = .ok (.invokevirtual 15, 3) := by decide +kernel
theorem k_2_121 : Cond.methodLink "PageScribe$Stack" 15 ⟨"PageScribe$Stack", "kindAt", "(I)I"⟩ ∈ gw := gw_of (tb_2 (List.mem_of_getElem? (i := 121) (by decide +kernel))) (by decide +kernel)
theorem k_2_122 : Cond.sameMethod "PageScribe$Stack" "PageScribe$Row" "kindAt" "(I)I" ∈ gw := gw_of (tb_2 (List.mem_of_getElem? (i := 122) (by decide +kernel))) (by decide +kernel)
theorem k_2_124 : Cond.selects "PageScribe$Stack" ⟨"PageScribe$Stack", "kindAt", "(I)I"⟩ ⟨"PageScribe$Row", "kindAt", "(I)I"⟩ ∈ gw := gw_of (tb_2 (List.mem_of_getElem? (i := 124) (by decide +kernel))) (by decide +kernel)
theorem d_Stack_kindDown_12 : decode prog_9_method_3_code 12 = .ok (.ireturn, 1) := by decide +kernel
set_option maxHeartbeats 4000000 in
set_option maxRecDepth 100000 in
theorem c_Stack_kindDown (l : Launch) (D : va_G) (T : Nat → ClassId) (ad : Nat → Nat) (S : CS) (p0 : Int32) (sz : Nat)  : Met l ⟨"PageScribe$Stack", "kindDown", "(I)I"⟩ (wy ⟨"PageScribe$Stack", "kindDown", "(I)I"⟩ prog_9_method_3_code 2 (some .int)) ({ frames := 1, cells := 0, slots := 0, locals := 70 }) (va_Pc [.ref (ad 1), .int p0] (Pw D T (cW T ad S) sz E0)) (va_Qi (fun (r : Int32) (u : Unit) => True) (fun u t => Bw D T (va_A (cW T ad S) sz) (cW T ad S) t) (va_A (cW T ad S) sz)) 0 0 (va_A (cW T ad S) sz) := by
  refine j_met (y := ⟨"PageScribe$Stack", "kindDown", "(I)I"⟩) (b := prog_9_method_3_code) (n := 2) (ret := (some .int)) (av := [.ref (ad 1), .int p0]) (Qc := fun A => va_Qi (fun (r : Int32) (u : Unit) => True) (fun u t => Bw D T A (cW T ad S) t) A) (by decide +kernel) (Nat.le_of_ble_eq_true rfl) (fun p e s m args below meth c A ls F hr hlocks hnm hK hP hD hS hA hN hE hl => ?_)
  obtain ⟨hx, hb, hml, hown, hts⟩ := id F
  have hl : lv_has ls 2 [(0, .ref (ad 1)), (1, .int p0)] := hl
  have rp0 := zt_rng p0
  refine lv_aload_n hx hb d_Stack_kindDown_0 rfl (lv_at hl 0 rfl) ?_
  refine lv_aload_n hx hb d_Stack_kindDown_1 rfl (lv_at hl 0 rfl) ?_
  refine va_get (D := D) (ci := 0) (v := .int (f_xst_z S)) (C := "PageScribe$Stack") (T := F_Stack) (N := 4) hx hb hts i_Stack hown hK hP 1 (ce_1 _ _ _) cl_0 3 (by decide) (hts _ k_1_50) (fun x9 h9 => u_same (hts _ k_1_51) x9 h9) rfl d_Stack_kindDown_2 ?_
  refine lv_iconst (v := 1) hx hb d_Stack_kindDown_5 (by decide) ?_
  refine lv_isub hx hb d_Stack_kindDown_6 ?_
  refine lv_topi (fun x1 ex1 => ?_)
  have rx1 := zt_rng x1
  refine lv_iload_n hx hb d_Stack_kindDown_7 rfl (lv_at hl 1 rfl) ?_
  refine lv_isub hx hb d_Stack_kindDown_8 ?_
  refine lv_topi (fun x2 ex2 => ?_)
  have rx2 := zt_rng x2
  refine jc_ci (w := (fun _ => S)) hK hP hD hS hA (va_runU (As := [.int x2]) (rest := []) F (c_Row_kindAt l D T ad S x2  s.heap.size) (j_cU (k := 1) (C := "PageScribe$Stack") (owner := "PageScribe$Row") (x := ⟨"PageScribe$Stack", "kindAt", "(I)I"⟩) hts k_2_126 k_2_121 k_2_122 k_2_124 k_2_125 k_1_2 rfl (by decide +kernel) ⟨Nat.le_of_ble_eq_true rfl, Nat.le_of_ble_eq_true rfl⟩) (j_preV (q0 := 1) (ci := 0) hK hP hD csc csc_all csc_nd cl_0 (ce_1 _ _ _) (fun _ _ _ _ h => h) (fun _ _ _ => trivial)) rfl rfl hl.1 rfl (lv_room (Nat.le_of_ble_eq_true rfl)) d_Stack_kindDown_9 ⟨Nat.le_of_ble_eq_true rfl, Nat.le_of_ble_eq_true rfl⟩) (fun rv1 u1 H locs hw1 hP hD hS => ?_)
  have hP : va_P D classes (cW T ad S) H := hP
  have hD : va_D A (cW T ad S) := hD
  have rrv1 := zt_rng rv1
  exact j_iret F hr hlocks hK hS () trivial hP hD d_Stack_kindDown_12
theorem d_Stack_numberDown_0 : decode prog_9_method_4_code 0 = .ok (.aload_n 0, 1) := by decide +kernel
theorem d_Stack_numberDown_1 : decode prog_9_method_4_code 1 = .ok (.aload_n 0, 1) := by decide +kernel
theorem d_Stack_numberDown_2 : decode prog_9_method_4_code 2 = .ok (.getfield 9, 3) := by decide +kernel
theorem d_Stack_numberDown_5 : decode prog_9_method_4_code 5 = .ok (.iconst 1, 1) := by decide +kernel
theorem d_Stack_numberDown_6 : decode prog_9_method_4_code 6 = .ok (.isub, 1) := by decide +kernel
theorem d_Stack_numberDown_7 : decode prog_9_method_4_code 7 = .ok (.iload_n 1, 1) := by decide +kernel
theorem d_Stack_numberDown_8 : decode prog_9_method_4_code 8 = .ok (.isub, 1) := by decide +kernel
theorem d_Stack_numberDown_9 : decode prog_9_method_4_code 9 = .ok (.invokevirtual 19, 3) := by decide +kernel
theorem k_2_131 : Cond.methodLink "PageScribe$Stack" 19 ⟨"PageScribe$Stack", "numberAt", "(I)I"⟩ ∈ gw := gw_of (tb_2 (List.mem_of_getElem? (i := 131) (by decide +kernel))) (by decide +kernel)
theorem k_2_132 : Cond.sameMethod "PageScribe$Stack" "PageScribe$Row" "numberAt" "(I)I" ∈ gw := gw_of (tb_2 (List.mem_of_getElem? (i := 132) (by decide +kernel))) (by decide +kernel)
theorem k_2_134 : Cond.selects "PageScribe$Stack" ⟨"PageScribe$Stack", "numberAt", "(I)I"⟩ ⟨"PageScribe$Row", "numberAt", "(I)I"⟩ ∈ gw := gw_of (tb_2 (List.mem_of_getElem? (i := 134) (by decide +kernel))) (by decide +kernel)
theorem d_Stack_numberDown_12 : decode prog_9_method_4_code 12 = .ok (.ireturn, 1) := by decide +kernel
set_option maxHeartbeats 4000000 in
set_option maxRecDepth 100000 in
theorem c_Stack_numberDown (l : Launch) (D : va_G) (T : Nat → ClassId) (ad : Nat → Nat) (S : CS) (p0 : Int32) (sz : Nat)  : Met l ⟨"PageScribe$Stack", "numberDown", "(I)I"⟩ (wy ⟨"PageScribe$Stack", "numberDown", "(I)I"⟩ prog_9_method_4_code 2 (some .int)) ({ frames := 1, cells := 0, slots := 0, locals := 70 }) (va_Pc [.ref (ad 1), .int p0] (Pw D T (cW T ad S) sz E0)) (va_Qi (fun (r : Int32) (u : Unit) => True) (fun u t => Bw D T (va_A (cW T ad S) sz) (cW T ad S) t) (va_A (cW T ad S) sz)) 0 0 (va_A (cW T ad S) sz) := by
  refine j_met (y := ⟨"PageScribe$Stack", "numberDown", "(I)I"⟩) (b := prog_9_method_4_code) (n := 2) (ret := (some .int)) (av := [.ref (ad 1), .int p0]) (Qc := fun A => va_Qi (fun (r : Int32) (u : Unit) => True) (fun u t => Bw D T A (cW T ad S) t) A) (by decide +kernel) (Nat.le_of_ble_eq_true rfl) (fun p e s m args below meth c A ls F hr hlocks hnm hK hP hD hS hA hN hE hl => ?_)
  obtain ⟨hx, hb, hml, hown, hts⟩ := id F
  have hl : lv_has ls 2 [(0, .ref (ad 1)), (1, .int p0)] := hl
  have rp0 := zt_rng p0
  refine lv_aload_n hx hb d_Stack_numberDown_0 rfl (lv_at hl 0 rfl) ?_
  refine lv_aload_n hx hb d_Stack_numberDown_1 rfl (lv_at hl 0 rfl) ?_
  refine va_get (D := D) (ci := 0) (v := .int (f_xst_z S)) (C := "PageScribe$Stack") (T := F_Stack) (N := 4) hx hb hts i_Stack hown hK hP 1 (ce_1 _ _ _) cl_0 3 (by decide) (hts _ k_1_50) (fun x9 h9 => u_same (hts _ k_1_51) x9 h9) rfl d_Stack_numberDown_2 ?_
  refine lv_iconst (v := 1) hx hb d_Stack_numberDown_5 (by decide) ?_
  refine lv_isub hx hb d_Stack_numberDown_6 ?_
  refine lv_topi (fun x1 ex1 => ?_)
  have rx1 := zt_rng x1
  refine lv_iload_n hx hb d_Stack_numberDown_7 rfl (lv_at hl 1 rfl) ?_
  refine lv_isub hx hb d_Stack_numberDown_8 ?_
  refine lv_topi (fun x2 ex2 => ?_)
  have rx2 := zt_rng x2
  refine jc_ci (w := (fun _ => S)) hK hP hD hS hA (va_runU (As := [.int x2]) (rest := []) F (c_Row_numberAt l D T ad S x2  s.heap.size) (j_cU (k := 1) (C := "PageScribe$Stack") (owner := "PageScribe$Row") (x := ⟨"PageScribe$Stack", "numberAt", "(I)I"⟩) hts k_2_136 k_2_131 k_2_132 k_2_134 k_2_135 k_1_2 rfl (by decide +kernel) ⟨Nat.le_of_ble_eq_true rfl, Nat.le_of_ble_eq_true rfl⟩) (j_preV (q0 := 1) (ci := 0) hK hP hD csc csc_all csc_nd cl_0 (ce_1 _ _ _) (fun _ _ _ _ h => h) (fun _ _ _ => trivial)) rfl rfl hl.1 rfl (lv_room (Nat.le_of_ble_eq_true rfl)) d_Stack_numberDown_9 ⟨Nat.le_of_ble_eq_true rfl, Nat.le_of_ble_eq_true rfl⟩) (fun rv1 u1 H locs hw1 hP hD hS => ?_)
  have hP : va_P D classes (cW T ad S) H := hP
  have hD : va_D A (cW T ad S) := hD
  have rrv1 := zt_rng rv1
  exact j_iret F hr hlocks hK hS () trivial hP hD d_Stack_numberDown_12
theorem d_Stack_realDown_0 : decode prog_9_method_5_code 0 = .ok (.aload_n 0, 1) := by decide +kernel
theorem d_Stack_realDown_1 : decode prog_9_method_5_code 1 = .ok (.aload_n 0, 1) := by decide +kernel
theorem d_Stack_realDown_2 : decode prog_9_method_5_code 2 = .ok (.getfield 9, 3) := by decide +kernel
theorem d_Stack_realDown_5 : decode prog_9_method_5_code 5 = .ok (.iconst 1, 1) := by decide +kernel
theorem d_Stack_realDown_6 : decode prog_9_method_5_code 6 = .ok (.isub, 1) := by decide +kernel
theorem d_Stack_realDown_7 : decode prog_9_method_5_code 7 = .ok (.iload_n 1, 1) := by decide +kernel
theorem d_Stack_realDown_8 : decode prog_9_method_5_code 8 = .ok (.isub, 1) := by decide +kernel
theorem d_Stack_realDown_9 : decode prog_9_method_5_code 9 = .ok (.invokevirtual 22, 3) := by decide +kernel
theorem k_4_53 : Cond.methodLink "PageScribe$Stack" 22 ⟨"PageScribe$Stack", "realAt", "(I)D"⟩ ∈ gw := gw_of (tb_4 (List.mem_of_getElem? (i := 53) (by decide +kernel))) (by decide +kernel)
theorem k_4_54 : Cond.sameMethod "PageScribe$Stack" "PageScribe$Row" "realAt" "(I)D" ∈ gw := gw_of (tb_4 (List.mem_of_getElem? (i := 54) (by decide +kernel))) (by decide +kernel)
theorem k_4_56 : Cond.selects "PageScribe$Stack" ⟨"PageScribe$Stack", "realAt", "(I)D"⟩ ⟨"PageScribe$Row", "realAt", "(I)D"⟩ ∈ gw := gw_of (tb_4 (List.mem_of_getElem? (i := 56) (by decide +kernel))) (by decide +kernel)
theorem d_Stack_realDown_12 : decode prog_9_method_5_code 12 = .ok (.dreturn, 1) := by decide +kernel
set_option maxHeartbeats 4000000 in
set_option maxRecDepth 100000 in
theorem c_Stack_realDown (l : Launch) (D : va_G) (T : Nat → ClassId) (ad : Nat → Nat) (S : CS) (p0 : Int32) (sz : Nat)  (hI : CIv S) : Met l ⟨"PageScribe$Stack", "realDown", "(I)D"⟩ (wy ⟨"PageScribe$Stack", "realDown", "(I)D"⟩ prog_9_method_5_code 2 (some .double)) ({ frames := 1, cells := 0, slots := 0, locals := 70 }) (va_Pc [.ref (ad 1), .int p0] (Pw D T (cW T ad S) sz E0)) (va_Qd (fun (r : UInt64) (u : Unit) => dB r) (fun u t => Bw D T (va_A (cW T ad S) sz) (cW T ad S) t) (va_A (cW T ad S) sz)) 0 0 (va_A (cW T ad S) sz) := by
  refine j_met (y := ⟨"PageScribe$Stack", "realDown", "(I)D"⟩) (b := prog_9_method_5_code) (n := 2) (ret := (some .double)) (av := [.ref (ad 1), .int p0]) (Qc := fun A => va_Qd (fun (r : UInt64) (u : Unit) => dB r) (fun u t => Bw D T A (cW T ad S) t) A) (by decide +kernel) (Nat.le_of_ble_eq_true rfl) (fun p e s m args below meth c A ls F hr hlocks hnm hK hP hD hS hA hN hE hl => ?_)
  obtain ⟨hx, hb, hml, hown, hts⟩ := id F
  have hl : lv_has ls 2 [(0, .ref (ad 1)), (1, .int p0)] := hl
  obtain ⟨i_vst, i_vc0, i_vc1, i_vc2, i_vc3, i_vv0, i_vv1, i_vv2, i_vv3, i_vg, i_wct, i_wln, i_sd0, i_sd1, i_sd2, i_sd3, i_rln, i_rtx, i_rpl, i_rtk, i_cnv, i_pts, i_cik, i_und⟩ := id hI
  have rp0 := zt_rng p0
  refine lv_aload_n hx hb d_Stack_realDown_0 rfl (lv_at hl 0 rfl) ?_
  refine lv_aload_n hx hb d_Stack_realDown_1 rfl (lv_at hl 0 rfl) ?_
  refine va_get (D := D) (ci := 0) (v := .int (f_xst_z S)) (C := "PageScribe$Stack") (T := F_Stack) (N := 4) hx hb hts i_Stack hown hK hP 1 (ce_1 _ _ _) cl_0 3 (by decide) (hts _ k_1_50) (fun x9 h9 => u_same (hts _ k_1_51) x9 h9) rfl d_Stack_realDown_2 ?_
  refine lv_iconst (v := 1) hx hb d_Stack_realDown_5 (by decide) ?_
  refine lv_isub hx hb d_Stack_realDown_6 ?_
  refine lv_topi (fun x1 ex1 => ?_)
  have rx1 := zt_rng x1
  refine lv_iload_n hx hb d_Stack_realDown_7 rfl (lv_at hl 1 rfl) ?_
  refine lv_isub hx hb d_Stack_realDown_8 ?_
  refine lv_topi (fun x2 ex2 => ?_)
  have rx2 := zt_rng x2
  refine jc_cd (w := (fun _ => S)) hK hP hD hS hA (va_runU (As := [.int x2]) (rest := []) F (c_Row_realAt l D T ad S x2  s.heap.size ⟨i_vst, i_vc0, i_vc1, i_vc2, i_vc3, i_vv0, i_vv1, i_vv2, i_vv3, i_vg, i_wct, i_wln, i_sd0, i_sd1, i_sd2, i_sd3, i_rln, i_rtx, i_rpl, i_rtk, i_cnv, i_pts, i_cik, i_und⟩) (j_cU (k := 1) (C := "PageScribe$Stack") (owner := "PageScribe$Row") (x := ⟨"PageScribe$Stack", "realAt", "(I)D"⟩) hts k_3_104 k_4_53 k_4_54 k_4_56 k_3_100 k_1_2 rfl (by decide +kernel) ⟨Nat.le_of_ble_eq_true rfl, Nat.le_of_ble_eq_true rfl⟩) (j_preV (q0 := 1) (ci := 0) hK hP hD csc csc_all csc_nd cl_0 (ce_1 _ _ _) (fun _ _ _ _ h => h) (fun _ _ _ => trivial)) rfl rfl hl.1 rfl (lv_room (Nat.le_of_ble_eq_true rfl)) d_Stack_realDown_9 ⟨Nat.le_of_ble_eq_true rfl, Nat.le_of_ble_eq_true rfl⟩) (fun rv1 u1 H locs hw1 hP hD hS => ?_)
  have hP : va_P D classes (cW T ad S) H := hP
  have hD : va_D A (cW T ad S) := hD
  have qhw1 : dB rv1 := hw1
  exact j_dret F hr hlocks hK hS () (show dB rv1 by omega) hP hD d_Stack_realDown_12
theorem d_Stack_doubleDown_0 : decode prog_9_method_6_code 0 = .ok (.aload_n 0, 1) := by decide +kernel
theorem d_Stack_doubleDown_1 : decode prog_9_method_6_code 1 = .ok (.iload_n 1, 1) := by decide +kernel
theorem d_Stack_doubleDown_2 : decode prog_9_method_6_code 2 = .ok (.invokevirtual 26, 3) := by decide +kernel
theorem k_2_120 : Cond.code ⟨"PageScribe$Stack", "kindDown", "(I)I"⟩ prog_9_method_3_code 2 (some .int) ∈ gw := gw_of (tb_2 (List.mem_of_getElem? (i := 120) (by decide +kernel))) (by decide +kernel)
theorem k_1_3 : Cond.initialized "PageScribe$Stack" ∈ gw := gw_of (tb_1 (List.mem_of_getElem? (i := 3) (by decide +kernel))) (by decide +kernel)
theorem k_4_25 : Cond.methodLink "PageScribe$Stack" 26 ⟨"PageScribe$Stack", "kindDown", "(I)I"⟩ ∈ gw := gw_of (tb_4 (List.mem_of_getElem? (i := 25) (by decide +kernel))) (by decide +kernel)
theorem k_2_118 : Cond.instanceMethod ⟨"PageScribe$Stack", "kindDown", "(I)I"⟩ ∈ gw := gw_of (tb_2 (List.mem_of_getElem? (i := 118) (by decide +kernel))) (by decide +kernel)
theorem k_2_119 : Cond.selects "PageScribe$Stack" ⟨"PageScribe$Stack", "kindDown", "(I)I"⟩ ⟨"PageScribe$Stack", "kindDown", "(I)I"⟩ ∈ gw := gw_of (tb_2 (List.mem_of_getElem? (i := 119) (by decide +kernel))) (by decide +kernel)
theorem d_Stack_doubleDown_5 : decode prog_9_method_6_code 5 = .ok (.ifCond .ne 12, 3) := by decide +kernel
theorem d_Stack_doubleDown_17 : decode prog_9_method_6_code 17 = .ok (.aload_n 0, 1) := by decide +kernel
theorem d_Stack_doubleDown_18 : decode prog_9_method_6_code 18 = .ok (.iload_n 1, 1) := by decide +kernel
theorem d_Stack_doubleDown_19 : decode prog_9_method_6_code 19 = .ok (.invokevirtual 32, 3) := by decide +kernel
theorem k_4_117 : Cond.code ⟨"PageScribe$Stack", "realDown", "(I)D"⟩ prog_9_method_5_code 2 (some .double) ∈ gw := gw_of (tb_4 (List.mem_of_getElem? (i := 117) (by decide +kernel))) (by decide +kernel)
theorem k_4_114 : Cond.methodLink "PageScribe$Stack" 32 ⟨"PageScribe$Stack", "realDown", "(I)D"⟩ ∈ gw := gw_of (tb_4 (List.mem_of_getElem? (i := 114) (by decide +kernel))) (by decide +kernel)
theorem k_4_115 : Cond.instanceMethod ⟨"PageScribe$Stack", "realDown", "(I)D"⟩ ∈ gw := gw_of (tb_4 (List.mem_of_getElem? (i := 115) (by decide +kernel))) (by decide +kernel)
theorem k_4_116 : Cond.selects "PageScribe$Stack" ⟨"PageScribe$Stack", "realDown", "(I)D"⟩ ⟨"PageScribe$Stack", "realDown", "(I)D"⟩ ∈ gw := gw_of (tb_4 (List.mem_of_getElem? (i := 116) (by decide +kernel))) (by decide +kernel)
theorem d_Stack_doubleDown_22 : decode prog_9_method_6_code 22 = .ok (.dreturn, 1) := by decide +kernel
theorem d_Stack_doubleDown_8 : decode prog_9_method_6_code 8 = .ok (.aload_n 0, 1) := by decide +kernel
theorem d_Stack_doubleDown_9 : decode prog_9_method_6_code 9 = .ok (.iload_n 1, 1) := by decide +kernel
theorem d_Stack_doubleDown_10 : decode prog_9_method_6_code 10 = .ok (.invokevirtual 29, 3) := by decide +kernel
theorem k_2_130 : Cond.code ⟨"PageScribe$Stack", "numberDown", "(I)I"⟩ prog_9_method_4_code 2 (some .int) ∈ gw := gw_of (tb_2 (List.mem_of_getElem? (i := 130) (by decide +kernel))) (by decide +kernel)
theorem k_4_71 : Cond.methodLink "PageScribe$Stack" 29 ⟨"PageScribe$Stack", "numberDown", "(I)I"⟩ ∈ gw := gw_of (tb_4 (List.mem_of_getElem? (i := 71) (by decide +kernel))) (by decide +kernel)
theorem k_2_128 : Cond.instanceMethod ⟨"PageScribe$Stack", "numberDown", "(I)I"⟩ ∈ gw := gw_of (tb_2 (List.mem_of_getElem? (i := 128) (by decide +kernel))) (by decide +kernel)
theorem k_2_129 : Cond.selects "PageScribe$Stack" ⟨"PageScribe$Stack", "numberDown", "(I)I"⟩ ⟨"PageScribe$Stack", "numberDown", "(I)I"⟩ ∈ gw := gw_of (tb_2 (List.mem_of_getElem? (i := 129) (by decide +kernel))) (by decide +kernel)
theorem d_Stack_doubleDown_13 : decode prog_9_method_6_code 13 = .ok (.i2d, 1) := by decide +kernel
theorem d_Stack_doubleDown_14 : decode prog_9_method_6_code 14 = .ok (.goto 8, 3) := by decide +kernel
set_option maxHeartbeats 4000000 in
set_option maxRecDepth 100000 in
theorem c_Stack_doubleDown (l : Launch) (D : va_G) (T : Nat → ClassId) (ad : Nat → Nat) (S : CS) (p0 : Int32) (sz : Nat)  (hI : CIv S) : Met l ⟨"PageScribe$Stack", "doubleDown", "(I)D"⟩ (wy ⟨"PageScribe$Stack", "doubleDown", "(I)D"⟩ prog_9_method_6_code 2 (some .double)) ({ frames := 2, cells := 0, slots := 0, locals := 140 }) (va_Pc [.ref (ad 1), .int p0] (Pw D T (cW T ad S) sz E0)) (va_Qd (fun (r : UInt64) (u : Unit) => dB r) (fun u t => Bw D T (va_A (cW T ad S) sz) (cW T ad S) t) (va_A (cW T ad S) sz)) 0 0 (va_A (cW T ad S) sz) := by
  refine j_met (y := ⟨"PageScribe$Stack", "doubleDown", "(I)D"⟩) (b := prog_9_method_6_code) (n := 2) (ret := (some .double)) (av := [.ref (ad 1), .int p0]) (Qc := fun A => va_Qd (fun (r : UInt64) (u : Unit) => dB r) (fun u t => Bw D T A (cW T ad S) t) A) (by decide +kernel) (Nat.le_of_ble_eq_true rfl) (fun p e s m args below meth c A ls F hr hlocks hnm hK hP hD hS hA hN hE hl => ?_)
  obtain ⟨hx, hb, hml, hown, hts⟩ := id F
  have hl : lv_has ls 2 [(0, .ref (ad 1)), (1, .int p0)] := hl
  obtain ⟨i_vst, i_vc0, i_vc1, i_vc2, i_vc3, i_vv0, i_vv1, i_vv2, i_vv3, i_vg, i_wct, i_wln, i_sd0, i_sd1, i_sd2, i_sd3, i_rln, i_rtx, i_rpl, i_rtk, i_cnv, i_pts, i_cik, i_und⟩ := id hI
  have rp0 := zt_rng p0
  refine lv_aload_n hx hb d_Stack_doubleDown_0 rfl (lv_at hl 0 rfl) ?_
  refine lv_iload_n hx hb d_Stack_doubleDown_1 rfl (lv_at hl 1 rfl) ?_
  refine jc_ci (w := (fun _ => S)) hK hP hD hS hA (va_runV (As := [.int p0]) (rest := []) F (c_Stack_kindDown l D T ad S p0  s.heap.size) (j_cV (k := 1) (C := "PageScribe$Stack") hts k_2_120 k_1_3 k_4_25 k_2_118 k_2_119 (by decide +kernel) ⟨Nat.le_of_ble_eq_true rfl, Nat.le_of_ble_eq_true rfl⟩) (j_preV (q0 := 1) (ci := 0) hK hP hD csc csc_all csc_nd cl_0 (ce_1 _ _ _) (fun _ _ _ _ h => h) (fun _ _ _ => trivial)) rfl rfl hl.1 rfl (lv_room (Nat.le_of_ble_eq_true rfl)) d_Stack_doubleDown_2 ⟨Nat.le_of_ble_eq_true rfl, Nat.le_of_ble_eq_true rfl⟩) (fun rv1 u1 H locs hw1 hP hD hS => ?_)
  have hP : va_P D classes (cW T ad S) H := hP
  have hD : va_D A (cW T ad S) := hD
  have rrv1 := zt_rng rv1
  refine lv_if_ne (tgt := 17) hx hb d_Stack_doubleDown_5 (by decide) (fun c5_1 => ?_) (fun c5_1 => ?_)
  · first | have fc5_1 : rv1.toInt < 0 := (by have := zt_ne (show rv1.toInt = _ from rfl) tI_0 c5_1; omega) | have fc5_1 : 0 < rv1.toInt := (by have := zt_ne (show rv1.toInt = _ from rfl) tI_0 c5_1; omega) | skip
    refine lv_aload_n hx hb d_Stack_doubleDown_17 rfl (lv_at hl 0 rfl) ?_
    refine lv_iload_n hx hb d_Stack_doubleDown_18 rfl (lv_at hl 1 rfl) ?_
    refine jc_cd (w := (fun _ => S)) hK hP hD hS hA (va_runV (As := [.int p0]) (rest := []) F (c_Stack_realDown l D T ad S p0  H.size ⟨i_vst, i_vc0, i_vc1, i_vc2, i_vc3, i_vv0, i_vv1, i_vv2, i_vv3, i_vg, i_wct, i_wln, i_sd0, i_sd1, i_sd2, i_sd3, i_rln, i_rtx, i_rpl, i_rtk, i_cnv, i_pts, i_cik, i_und⟩) (j_cV (k := 1) (C := "PageScribe$Stack") hts k_4_117 k_1_3 k_4_114 k_4_115 k_4_116 (by decide +kernel) ⟨Nat.le_of_ble_eq_true rfl, Nat.le_of_ble_eq_true rfl⟩) (j_preV (q0 := 1) (ci := 0) hK hP hD csc csc_all csc_nd cl_0 (ce_1 _ _ _) (fun _ _ _ _ h => h) (fun _ _ _ => trivial)) rfl rfl hl.1 rfl (lv_room (Nat.le_of_ble_eq_true rfl)) d_Stack_doubleDown_19 ⟨Nat.le_of_ble_eq_true rfl, Nat.le_of_ble_eq_true rfl⟩) (fun rv2 u2 H locs hw2 hP hD hS => ?_)
    have hP : va_P D classes (cW T ad S) H := hP
    have hD : va_D A (cW T ad S) := hD
    have qhw2 : dB rv2 := hw2
    exact j_dret F hr hlocks hK hS () (show dB rv2 by omega) hP hD d_Stack_doubleDown_22
  · have fc5_1 : rv1.toInt = 0 := zt_eq (show rv1.toInt = _ from rfl) tI_0 c5_1
    refine lv_aload_n hx hb d_Stack_doubleDown_8 rfl (lv_at hl 0 rfl) ?_
    refine lv_iload_n hx hb d_Stack_doubleDown_9 rfl (lv_at hl 1 rfl) ?_
    refine jc_ci (w := (fun _ => S)) hK hP hD hS hA (va_runV (As := [.int p0]) (rest := []) F (c_Stack_numberDown l D T ad S p0  H.size) (j_cV (k := 1) (C := "PageScribe$Stack") hts k_2_130 k_1_3 k_4_71 k_2_128 k_2_129 (by decide +kernel) ⟨Nat.le_of_ble_eq_true rfl, Nat.le_of_ble_eq_true rfl⟩) (j_preV (q0 := 1) (ci := 0) hK hP hD csc csc_all csc_nd cl_0 (ce_1 _ _ _) (fun _ _ _ _ h => h) (fun _ _ _ => trivial)) rfl rfl hl.1 rfl (lv_room (Nat.le_of_ble_eq_true rfl)) d_Stack_doubleDown_10 ⟨Nat.le_of_ble_eq_true rfl, Nat.le_of_ble_eq_true rfl⟩) (fun rv3 u3 H locs hw3 hP hD hS => ?_)
    have hP : va_P D classes (cW T ad S) H := hP
    have hD : va_D A (cW T ad S) := hD
    have rrv3 := zt_rng rv3
    refine lv_i2d hx hb d_Stack_doubleDown_13 ?_
    refine lv_topd (fun x1 ex1 => ?_)
    have fx1 : dB x1 := by rw [ex1]; exact zd_i2d _
    have mx1 : dM 1056 x1 := by rw [ex1]; exact FP.Core.i2d_mag _
    refine lv_goto (tgt := 22) hx hb d_Stack_doubleDown_14 (by decide) ?_
    exact j_dret F hr hlocks hK hS () (show dB x1 by omega) hP hD d_Stack_doubleDown_22
theorem d_Stack_pushInt_0 : decode prog_9_method_7_code 0 = .ok (.aload_n 0, 1) := by decide +kernel
theorem d_Stack_pushInt_1 : decode prog_9_method_7_code 1 = .ok (.iconst 0, 1) := by decide +kernel
theorem d_Stack_pushInt_2 : decode prog_9_method_7_code 2 = .ok (.iload_n 1, 1) := by decide +kernel
theorem d_Stack_pushInt_3 : decode prog_9_method_7_code 3 = .ok (.dconst 0, 1) := by decide +kernel
theorem d_Stack_pushInt_4 : decode prog_9_method_7_code 4 = .ok (.invokevirtual 35, 3) := by decide +kernel
theorem k_4_91 : Cond.methodLink "PageScribe$Stack" 35 ⟨"PageScribe$Stack", "push", "(IID)I"⟩ ∈ gw := gw_of (tb_4 (List.mem_of_getElem? (i := 91) (by decide +kernel))) (by decide +kernel)
theorem k_2_100 : Cond.sameMethod "PageScribe$Stack" "PageScribe$Row" "push" "(IID)I" ∈ gw := gw_of (tb_2 (List.mem_of_getElem? (i := 100) (by decide +kernel))) (by decide +kernel)
theorem k_2_102 : Cond.selects "PageScribe$Stack" ⟨"PageScribe$Stack", "push", "(IID)I"⟩ ⟨"PageScribe$Row", "push", "(IID)I"⟩ ∈ gw := gw_of (tb_2 (List.mem_of_getElem? (i := 102) (by decide +kernel))) (by decide +kernel)
theorem d_Stack_pushInt_7 : decode prog_9_method_7_code 7 = .ok (.ireturn, 1) := by decide +kernel
set_option maxHeartbeats 4000000 in
set_option maxRecDepth 100000 in
theorem c_Stack_pushInt (l : Launch) (D : va_G) (T : Nat → ClassId) (ad : Nat → Nat) (S : CS) (p0 : Int32) (sz : Nat)  (hI : CIv S) : Met l ⟨"PageScribe$Stack", "pushInt", "(I)I"⟩ (wy ⟨"PageScribe$Stack", "pushInt", "(I)I"⟩ prog_9_method_7_code 2 (some .int)) ({ frames := 1, cells := 0, slots := 0, locals := 70 }) (va_Pc [.ref (ad 1), .int p0] (Pw D T (cW T ad S) sz E0)) (va_Qi (fun (r : Int32) (u : CS) => CIv u ∧ kcL S u ∧ kcP S u ∧ kcU S u ∧ kcW S u) (fun u t => Bw D T (va_A (cW T ad S) sz) (cW T ad u) t) (va_A (cW T ad S) sz)) 0 0 (va_A (cW T ad S) sz) := by
  refine j_met (y := ⟨"PageScribe$Stack", "pushInt", "(I)I"⟩) (b := prog_9_method_7_code) (n := 2) (ret := (some .int)) (av := [.ref (ad 1), .int p0]) (Qc := fun A => va_Qi (fun (r : Int32) (u : CS) => CIv u ∧ kcL S u ∧ kcP S u ∧ kcU S u ∧ kcW S u) (fun u t => Bw D T A (cW T ad u) t) A) (by decide +kernel) (Nat.le_of_ble_eq_true rfl) (fun p e s m args below meth c A ls F hr hlocks hnm hK hP hD hS hA hN hE hl => ?_)
  obtain ⟨hx, hb, hml, hown, hts⟩ := id F
  have hl : lv_has ls 2 [(0, .ref (ad 1)), (1, .int p0)] := hl
  obtain ⟨i_vst, i_vc0, i_vc1, i_vc2, i_vc3, i_vv0, i_vv1, i_vv2, i_vv3, i_vg, i_wct, i_wln, i_sd0, i_sd1, i_sd2, i_sd3, i_rln, i_rtx, i_rpl, i_rtk, i_cnv, i_pts, i_cik, i_und⟩ := id hI
  have rp0 := zt_rng p0
  refine lv_aload_n hx hb d_Stack_pushInt_0 rfl (lv_at hl 0 rfl) ?_
  refine lv_iconst (v := 0) hx hb d_Stack_pushInt_1 (by decide) ?_
  refine lv_iload_n hx hb d_Stack_pushInt_2 rfl (lv_at hl 1 rfl) ?_
  refine lv_dconst0 hx hb d_Stack_pushInt_3 ?_
  have := tD_0
  refine jc_ci (w := (fun u => u)) hK hP hD hS hA (va_runU (As := [.int 0, .int p0, .double 0]) (rest := []) F (c_Row_push l D T ad S (0 : Int32) p0 0  s.heap.size ⟨i_vst, i_vc0, i_vc1, i_vc2, i_vc3, i_vv0, i_vv1, i_vv2, i_vv3, i_vg, i_wct, i_wln, i_sd0, i_sd1, i_sd2, i_sd3, i_rln, i_rtx, i_rpl, i_rtk, i_cnv, i_pts, i_cik, i_und⟩ (show dB 0 by have := tI_0; omega)) (j_cU (k := 3) (C := "PageScribe$Stack") (owner := "PageScribe$Row") (x := ⟨"PageScribe$Stack", "push", "(IID)I"⟩) hts k_2_104 k_4_91 k_2_100 k_2_102 k_2_103 k_1_2 rfl (by decide +kernel) ⟨Nat.le_of_ble_eq_true rfl, Nat.le_of_ble_eq_true rfl⟩) (j_preV (q0 := 1) (ci := 0) hK hP hD csc csc_all csc_nd cl_0 (ce_1 _ _ _) (fun _ _ _ _ h => h) (fun _ _ _ => trivial)) rfl rfl hl.1 rfl (lv_room (Nat.le_of_ble_eq_true rfl)) d_Stack_pushInt_4 ⟨Nat.le_of_ble_eq_true rfl, Nat.le_of_ble_eq_true rfl⟩) (fun rv1 S1 H locs hw1 hP hD hS => ?_)
  have hP : va_P D classes (cW T ad S1) H := hP
  have hD : va_D A (cW T ad S1) := hD
  obtain ⟨⟨i_vst, i_vc0, i_vc1, i_vc2, i_vc3, i_vv0, i_vv1, i_vv2, i_vv3, i_vg, i_wct, i_wln, i_sd0, i_sd1, i_sd2, i_sd3, i_rln, i_rtx, i_rpl, i_rtk, i_cnv, i_pts, i_cik, i_und⟩, kpcL_S1, kpcP_S1, kpcU_S1, kpcW_S1⟩ := hw1
  have kScL_S1 : kcL S S1 := kcL_t (show kcL S S from (kcL_r S)) kpcL_S1
  have kScP_S1 : kcP S S1 := kcP_t (show kcP S S from (kcP_r S)) kpcP_S1
  have kScU_S1 : kcU S S1 := kcU_t (show kcU S S from (kcU_r S)) kpcU_S1
  have kScW_S1 : kcW S S1 := kcW_t (show kcW S S from (kcW_r S)) kpcW_S1
  have nxr_length_S1 : (f_xr_length S1).toInt = (f_xr_length S).toInt := congrArg Int32.toInt kpcL_S1
  have nxr_length_S1 : (f_xr_length S1).toInt = (f_xr_length S).toInt := congrArg Int32.toInt kpcP_S1.1
  have nxr_place_S1 : (f_xr_place S1).toInt = (f_xr_place S).toInt := congrArg Int32.toInt kpcP_S1.2.1
  have nxe_underWay_S1 : (f_xe_underWay S1).toInt = (f_xe_underWay S).toInt := congrArg Int32.toInt kpcU_S1
  have nxp_columns_S1 : (f_xp_columns S1).toInt = (f_xp_columns S).toInt := congrArg Int32.toInt kpcW_S1.1
  have nxp_rows_S1 : (f_xp_rows S1).toInt = (f_xp_rows S).toInt := congrArg Int32.toInt kpcW_S1.2
  have rrv1 := zt_rng rv1
  exact j_iret F hr hlocks hK hS S1 ⟨⟨i_vst, i_vc0, i_vc1, i_vc2, i_vc3, i_vv0, i_vv1, i_vv2, i_vv3, i_vg, i_wct, i_wln, i_sd0, i_sd1, i_sd2, i_sd3, i_rln, i_rtx, i_rpl, i_rtk, i_cnv, i_pts, i_cik, i_und⟩, kScL_S1, kScP_S1, kScU_S1, kScW_S1⟩ hP hD d_Stack_pushInt_7
theorem d_Stack_pushFlag_0 : decode prog_9_method_8_code 0 = .ok (.aload_n 0, 1) := by decide +kernel
theorem d_Stack_pushFlag_1 : decode prog_9_method_8_code 1 = .ok (.iconst 2, 1) := by decide +kernel
theorem d_Stack_pushFlag_11 : decode prog_9_method_8_code 11 = .ok (.dconst 0, 1) := by decide +kernel
theorem d_Stack_pushFlag_12 : decode prog_9_method_8_code 12 = .ok (.invokevirtual 35, 3) := by decide +kernel
theorem d_Stack_pushFlag_15 : decode prog_9_method_8_code 15 = .ok (.ireturn, 1) := by decide +kernel
theorem d_Stack_pushFlag_2 : decode prog_9_method_8_code 2 = .ok (.iload_n 1, 1) := by decide +kernel
theorem d_Stack_pushFlag_3 : decode prog_9_method_8_code 3 = .ok (.ifCond .eq 7, 3) := by decide +kernel
theorem d_Stack_pushFlag_10 : decode prog_9_method_8_code 10 = .ok (.iconst 0, 1) := by decide +kernel
theorem d_Stack_pushFlag_6 : decode prog_9_method_8_code 6 = .ok (.iconst 1, 1) := by decide +kernel
theorem d_Stack_pushFlag_7 : decode prog_9_method_8_code 7 = .ok (.goto 4, 3) := by decide +kernel
set_option maxHeartbeats 4000000 in
set_option maxRecDepth 100000 in
theorem c_Stack_pushFlag (l : Launch) (D : va_G) (T : Nat → ClassId) (ad : Nat → Nat) (S : CS) (p0 : Int32) (sz : Nat)  (hI : CIv S) : Met l ⟨"PageScribe$Stack", "pushFlag", "(Z)I"⟩ (wy ⟨"PageScribe$Stack", "pushFlag", "(Z)I"⟩ prog_9_method_8_code 2 (some .int)) ({ frames := 1, cells := 0, slots := 0, locals := 70 }) (va_Pc [.ref (ad 1), .int p0] (Pw D T (cW T ad S) sz E0)) (va_Qi (fun (r : Int32) (u : CS) => CIv u ∧ kcL S u ∧ kcP S u ∧ kcU S u ∧ kcW S u) (fun u t => Bw D T (va_A (cW T ad S) sz) (cW T ad u) t) (va_A (cW T ad S) sz)) 0 0 (va_A (cW T ad S) sz) := by
  refine j_met (y := ⟨"PageScribe$Stack", "pushFlag", "(Z)I"⟩) (b := prog_9_method_8_code) (n := 2) (ret := (some .int)) (av := [.ref (ad 1), .int p0]) (Qc := fun A => va_Qi (fun (r : Int32) (u : CS) => CIv u ∧ kcL S u ∧ kcP S u ∧ kcU S u ∧ kcW S u) (fun u t => Bw D T A (cW T ad u) t) A) (by decide +kernel) (Nat.le_of_ble_eq_true rfl) (fun p e s m args below meth c A ls F hr hlocks hnm hK hP hD hS hA hN hE hl => ?_)
  obtain ⟨hx, hb, hml, hown, hts⟩ := id F
  have hl : lv_has ls 2 [(0, .ref (ad 1)), (1, .int p0)] := hl
  obtain ⟨i_vst, i_vc0, i_vc1, i_vc2, i_vc3, i_vv0, i_vv1, i_vv2, i_vv3, i_vg, i_wct, i_wln, i_sd0, i_sd1, i_sd2, i_sd3, i_rln, i_rtx, i_rpl, i_rtk, i_cnv, i_pts, i_cik, i_und⟩ := id hI
  have rp0 := zt_rng p0
  refine lv_aload_n hx hb d_Stack_pushFlag_0 rfl (lv_at hl 0 rfl) ?_
  refine lv_iconst (v := 2) hx hb d_Stack_pushFlag_1 (by decide) ?_
  refine j_joinH (α := Int32) (fun x H locs ls => (True) ∧ va_P D classes (cW T ad S) H ∧ va_D A (cW T ad S) ∧ va_S A s.heap H locs ∧ lv_has ls 2 [(0, .ref (ad 1)), (1, .int p0)]) (fun x ls => F0 m 11 ls (.int x :: [.int 2, .ref (ad 1)])) (fun x H locs ls hI9 => ?_) (fun key1 => ?_)
  · obtain ⟨j1, rfl⟩ : ∃ z, z = x := ⟨_, rfl⟩
    obtain ⟨hj1, hP, hD, hS, hl⟩ := hI9
    have hP : va_P D classes (cW T ad S) H := hP
    have hD : va_D A (cW T ad S) := hD
    have hl : lv_has ls 2 [(0, .ref (ad 1)), (1, .int p0)] := hl
    refine lv_dconst0 hx hb d_Stack_pushFlag_11 ?_
    have := tD_0
    refine jc_ci (w := (fun u => u)) hK hP hD hS hA (va_runU (As := [.int 2, .int j1, .double 0]) (rest := []) F (c_Row_push l D T ad S (2 : Int32) j1 0  H.size ⟨i_vst, i_vc0, i_vc1, i_vc2, i_vc3, i_vv0, i_vv1, i_vv2, i_vv3, i_vg, i_wct, i_wln, i_sd0, i_sd1, i_sd2, i_sd3, i_rln, i_rtx, i_rpl, i_rtk, i_cnv, i_pts, i_cik, i_und⟩ (show dB 0 by have := tI_2; omega)) (j_cU (k := 3) (C := "PageScribe$Stack") (owner := "PageScribe$Row") (x := ⟨"PageScribe$Stack", "push", "(IID)I"⟩) hts k_2_104 k_4_91 k_2_100 k_2_102 k_2_103 k_1_2 rfl (by decide +kernel) ⟨Nat.le_of_ble_eq_true rfl, Nat.le_of_ble_eq_true rfl⟩) (j_preV (q0 := 1) (ci := 0) hK hP hD csc csc_all csc_nd cl_0 (ce_1 _ _ _) (fun _ _ _ _ h => h) (fun _ _ _ => trivial)) rfl rfl hl.1 rfl (lv_room (Nat.le_of_ble_eq_true rfl)) d_Stack_pushFlag_12 ⟨Nat.le_of_ble_eq_true rfl, Nat.le_of_ble_eq_true rfl⟩) (fun rv1 S1 H locs hw1 hP hD hS => ?_)
    have hP : va_P D classes (cW T ad S1) H := hP
    have hD : va_D A (cW T ad S1) := hD
    obtain ⟨⟨i_vst, i_vc0, i_vc1, i_vc2, i_vc3, i_vv0, i_vv1, i_vv2, i_vv3, i_vg, i_wct, i_wln, i_sd0, i_sd1, i_sd2, i_sd3, i_rln, i_rtx, i_rpl, i_rtk, i_cnv, i_pts, i_cik, i_und⟩, kpcL_S1, kpcP_S1, kpcU_S1, kpcW_S1⟩ := hw1
    have kScL_S1 : kcL S S1 := kcL_t (show kcL S S from (kcL_r S)) kpcL_S1
    have kScP_S1 : kcP S S1 := kcP_t (show kcP S S from (kcP_r S)) kpcP_S1
    have kScU_S1 : kcU S S1 := kcU_t (show kcU S S from (kcU_r S)) kpcU_S1
    have kScW_S1 : kcW S S1 := kcW_t (show kcW S S from (kcW_r S)) kpcW_S1
    have nxr_length_S1 : (f_xr_length S1).toInt = (f_xr_length S).toInt := congrArg Int32.toInt kpcL_S1
    have nxr_length_S1 : (f_xr_length S1).toInt = (f_xr_length S).toInt := congrArg Int32.toInt kpcP_S1.1
    have nxr_place_S1 : (f_xr_place S1).toInt = (f_xr_place S).toInt := congrArg Int32.toInt kpcP_S1.2.1
    have nxe_underWay_S1 : (f_xe_underWay S1).toInt = (f_xe_underWay S).toInt := congrArg Int32.toInt kpcU_S1
    have nxp_columns_S1 : (f_xp_columns S1).toInt = (f_xp_columns S).toInt := congrArg Int32.toInt kpcW_S1.1
    have nxp_rows_S1 : (f_xp_rows S1).toInt = (f_xp_rows S).toInt := congrArg Int32.toInt kpcW_S1.2
    have rrv1 := zt_rng rv1
    exact j_iret F hr hlocks hK hS S1 ⟨⟨i_vst, i_vc0, i_vc1, i_vc2, i_vc3, i_vv0, i_vv1, i_vv2, i_vv3, i_vg, i_wct, i_wln, i_sd0, i_sd1, i_sd2, i_sd3, i_rln, i_rtx, i_rpl, i_rtk, i_cnv, i_pts, i_cik, i_und⟩, kScL_S1, kScP_S1, kScU_S1, kScW_S1⟩ hP hD d_Stack_pushFlag_15
  · refine lv_iload_n hx hb d_Stack_pushFlag_2 rfl (lv_at hl 1 rfl) ?_
    refine lv_if_eq (tgt := 10) hx hb d_Stack_pushFlag_3 (by decide) (fun c3_1 => ?_) (fun c3_1 => ?_)
    · have fc3_1 : p0.toInt = 0 := zt_eq (show p0.toInt = _ from rfl) tI_0 c3_1
      refine lv_iconst (v := 0) hx hb d_Stack_pushFlag_10 (by decide) ?_
      exact key1 (0 : Int32) _ _ _ ⟨trivial, hP, hD, hS, lv_sub hl [0, 1] rfl⟩
    · first | have fc3_1 : p0.toInt < 0 := (by have := zt_ne (show p0.toInt = _ from rfl) tI_0 c3_1; omega) | have fc3_1 : 0 < p0.toInt := (by have := zt_ne (show p0.toInt = _ from rfl) tI_0 c3_1; omega) | skip
      refine lv_iconst (v := 1) hx hb d_Stack_pushFlag_6 (by decide) ?_
      refine lv_goto (tgt := 11) hx hb d_Stack_pushFlag_7 (by decide) ?_
      exact key1 (1 : Int32) _ _ _ ⟨trivial, hP, hD, hS, lv_sub hl [0, 1] rfl⟩
theorem d_Stack_giveInt_0 : decode prog_9_method_9_code 0 = .ok (.aload_n 0, 1) := by decide +kernel
theorem d_Stack_giveInt_1 : decode prog_9_method_9_code 1 = .ok (.iload_n 1, 1) := by decide +kernel
theorem d_Stack_giveInt_2 : decode prog_9_method_9_code 2 = .ok (.invokevirtual 39, 3) := by decide +kernel
theorem k_4_47 : Cond.code ⟨"PageScribe$Row", "drop", "(I)V"⟩ prog_8_method_8_code 2 none ∈ gw := gw_of (tb_4 (List.mem_of_getElem? (i := 47) (by decide +kernel))) (by decide +kernel)
theorem k_4_42 : Cond.methodLink "PageScribe$Stack" 39 ⟨"PageScribe$Stack", "drop", "(I)V"⟩ ∈ gw := gw_of (tb_4 (List.mem_of_getElem? (i := 42) (by decide +kernel))) (by decide +kernel)
theorem k_4_43 : Cond.sameMethod "PageScribe$Stack" "PageScribe$Row" "drop" "(I)V" ∈ gw := gw_of (tb_4 (List.mem_of_getElem? (i := 43) (by decide +kernel))) (by decide +kernel)
theorem k_4_45 : Cond.selects "PageScribe$Stack" ⟨"PageScribe$Stack", "drop", "(I)V"⟩ ⟨"PageScribe$Row", "drop", "(I)V"⟩ ∈ gw := gw_of (tb_4 (List.mem_of_getElem? (i := 45) (by decide +kernel))) (by decide +kernel)
theorem k_4_46 : Cond.instanceMethod ⟨"PageScribe$Row", "drop", "(I)V"⟩ ∈ gw := gw_of (tb_4 (List.mem_of_getElem? (i := 46) (by decide +kernel))) (by decide +kernel)
theorem d_Stack_giveInt_5 : decode prog_9_method_9_code 5 = .ok (.aload_n 0, 1) := by decide +kernel
theorem d_Stack_giveInt_6 : decode prog_9_method_9_code 6 = .ok (.iconst 0, 1) := by decide +kernel
theorem d_Stack_giveInt_7 : decode prog_9_method_9_code 7 = .ok (.iload_n 2, 1) := by decide +kernel
theorem d_Stack_giveInt_8 : decode prog_9_method_9_code 8 = .ok (.dconst 0, 1) := by decide +kernel
theorem d_Stack_giveInt_9 : decode prog_9_method_9_code 9 = .ok (.invokevirtual 35, 3) := by decide +kernel
theorem d_Stack_giveInt_12 : decode prog_9_method_9_code 12 = .ok (.ireturn, 1) := by decide +kernel
set_option maxHeartbeats 4000000 in
set_option maxRecDepth 100000 in
theorem c_Stack_giveInt (l : Launch) (D : va_G) (T : Nat → ClassId) (ad : Nat → Nat) (S : CS) (p0 : Int32) (p1 : Int32) (sz : Nat)  (hI : CIv S) : Met l ⟨"PageScribe$Stack", "giveInt", "(II)I"⟩ (wy ⟨"PageScribe$Stack", "giveInt", "(II)I"⟩ prog_9_method_9_code 3 (some .int)) ({ frames := 2, cells := 0, slots := 0, locals := 140 }) (va_Pc [.ref (ad 1), .int p0, .int p1] (Pw D T (cW T ad S) sz E0)) (va_Qi (fun (r : Int32) (u : CS) => CIv u ∧ kcL S u ∧ kcP S u ∧ kcU S u ∧ kcW S u) (fun u t => Bw D T (va_A (cW T ad S) sz) (cW T ad u) t) (va_A (cW T ad S) sz)) 0 0 (va_A (cW T ad S) sz) := by
  refine j_met (y := ⟨"PageScribe$Stack", "giveInt", "(II)I"⟩) (b := prog_9_method_9_code) (n := 3) (ret := (some .int)) (av := [.ref (ad 1), .int p0, .int p1]) (Qc := fun A => va_Qi (fun (r : Int32) (u : CS) => CIv u ∧ kcL S u ∧ kcP S u ∧ kcU S u ∧ kcW S u) (fun u t => Bw D T A (cW T ad u) t) A) (by decide +kernel) (Nat.le_of_ble_eq_true rfl) (fun p e s m args below meth c A ls F hr hlocks hnm hK hP hD hS hA hN hE hl => ?_)
  obtain ⟨hx, hb, hml, hown, hts⟩ := id F
  have hl : lv_has ls 3 [(0, .ref (ad 1)), (1, .int p0), (2, .int p1)] := hl
  obtain ⟨i_vst, i_vc0, i_vc1, i_vc2, i_vc3, i_vv0, i_vv1, i_vv2, i_vv3, i_vg, i_wct, i_wln, i_sd0, i_sd1, i_sd2, i_sd3, i_rln, i_rtx, i_rpl, i_rtk, i_cnv, i_pts, i_cik, i_und⟩ := id hI
  have rp0 := zt_rng p0
  have rp1 := zt_rng p1
  refine lv_aload_n hx hb d_Stack_giveInt_0 rfl (lv_at hl 0 rfl) ?_
  refine lv_iload_n hx hb d_Stack_giveInt_1 rfl (lv_at hl 1 rfl) ?_
  refine jc_cv (w := (fun u => u)) hK hP hD hS hA (va_runU (As := [.int p0]) (rest := []) F (c_Row_drop l D T ad S p0  s.heap.size ⟨i_vst, i_vc0, i_vc1, i_vc2, i_vc3, i_vv0, i_vv1, i_vv2, i_vv3, i_vg, i_wct, i_wln, i_sd0, i_sd1, i_sd2, i_sd3, i_rln, i_rtx, i_rpl, i_rtk, i_cnv, i_pts, i_cik, i_und⟩) (j_cU (k := 1) (C := "PageScribe$Stack") (owner := "PageScribe$Row") (x := ⟨"PageScribe$Stack", "drop", "(I)V"⟩) hts k_4_47 k_4_42 k_4_43 k_4_45 k_4_46 k_1_2 rfl (by decide +kernel) ⟨Nat.le_of_ble_eq_true rfl, Nat.le_of_ble_eq_true rfl⟩) (j_preV (q0 := 1) (ci := 0) hK hP hD csc csc_all csc_nd cl_0 (ce_1 _ _ _) (fun _ _ _ _ h => h) (fun _ _ _ => trivial)) rfl rfl hl.1 rfl (lv_room (Nat.le_of_ble_eq_true rfl)) d_Stack_giveInt_2 ⟨Nat.le_of_ble_eq_true rfl, Nat.le_of_ble_eq_true rfl⟩) (fun S1 H locs hw1 hP hD hS => ?_)
  have hP : va_P D classes (cW T ad S1) H := hP
  have hD : va_D A (cW T ad S1) := hD
  obtain ⟨⟨i_vst, i_vc0, i_vc1, i_vc2, i_vc3, i_vv0, i_vv1, i_vv2, i_vv3, i_vg, i_wct, i_wln, i_sd0, i_sd1, i_sd2, i_sd3, i_rln, i_rtx, i_rpl, i_rtk, i_cnv, i_pts, i_cik, i_und⟩, kpcL_S1, kpcP_S1, kpcU_S1, kpcW_S1⟩ := hw1
  have kScL_S1 : kcL S S1 := kcL_t (show kcL S S from (kcL_r S)) kpcL_S1
  have kScP_S1 : kcP S S1 := kcP_t (show kcP S S from (kcP_r S)) kpcP_S1
  have kScU_S1 : kcU S S1 := kcU_t (show kcU S S from (kcU_r S)) kpcU_S1
  have kScW_S1 : kcW S S1 := kcW_t (show kcW S S from (kcW_r S)) kpcW_S1
  have nxr_length_S1 : (f_xr_length S1).toInt = (f_xr_length S).toInt := congrArg Int32.toInt kpcL_S1
  have nxr_length_S1 : (f_xr_length S1).toInt = (f_xr_length S).toInt := congrArg Int32.toInt kpcP_S1.1
  have nxr_place_S1 : (f_xr_place S1).toInt = (f_xr_place S).toInt := congrArg Int32.toInt kpcP_S1.2.1
  have nxe_underWay_S1 : (f_xe_underWay S1).toInt = (f_xe_underWay S).toInt := congrArg Int32.toInt kpcU_S1
  have nxp_columns_S1 : (f_xp_columns S1).toInt = (f_xp_columns S).toInt := congrArg Int32.toInt kpcW_S1.1
  have nxp_rows_S1 : (f_xp_rows S1).toInt = (f_xp_rows S).toInt := congrArg Int32.toInt kpcW_S1.2
  refine lv_aload_n hx hb d_Stack_giveInt_5 rfl (lv_at hl 0 rfl) ?_
  refine lv_iconst (v := 0) hx hb d_Stack_giveInt_6 (by decide) ?_
  refine lv_iload_n hx hb d_Stack_giveInt_7 rfl (lv_at hl 2 rfl) ?_
  refine lv_dconst0 hx hb d_Stack_giveInt_8 ?_
  have := tD_0
  refine jc_ci (w := (fun u => u)) hK hP hD hS hA (va_runU (As := [.int 0, .int p1, .double 0]) (rest := []) F (c_Row_push l D T ad S1 (0 : Int32) p1 0  H.size ⟨i_vst, i_vc0, i_vc1, i_vc2, i_vc3, i_vv0, i_vv1, i_vv2, i_vv3, i_vg, i_wct, i_wln, i_sd0, i_sd1, i_sd2, i_sd3, i_rln, i_rtx, i_rpl, i_rtk, i_cnv, i_pts, i_cik, i_und⟩ (show dB 0 by have := tI_0; omega)) (j_cU (k := 3) (C := "PageScribe$Stack") (owner := "PageScribe$Row") (x := ⟨"PageScribe$Stack", "push", "(IID)I"⟩) hts k_2_104 k_4_91 k_2_100 k_2_102 k_2_103 k_1_2 rfl (by decide +kernel) ⟨Nat.le_of_ble_eq_true rfl, Nat.le_of_ble_eq_true rfl⟩) (j_preV (q0 := 1) (ci := 0) hK hP hD csc csc_all csc_nd cl_0 (ce_1 _ _ _) (fun _ _ _ _ h => h) (fun _ _ _ => trivial)) rfl rfl hl.1 rfl (lv_room (Nat.le_of_ble_eq_true rfl)) d_Stack_giveInt_9 ⟨Nat.le_of_ble_eq_true rfl, Nat.le_of_ble_eq_true rfl⟩) (fun rv2 S2 H locs hw2 hP hD hS => ?_)
  have hP : va_P D classes (cW T ad S2) H := hP
  have hD : va_D A (cW T ad S2) := hD
  obtain ⟨⟨i_vst, i_vc0, i_vc1, i_vc2, i_vc3, i_vv0, i_vv1, i_vv2, i_vv3, i_vg, i_wct, i_wln, i_sd0, i_sd1, i_sd2, i_sd3, i_rln, i_rtx, i_rpl, i_rtk, i_cnv, i_pts, i_cik, i_und⟩, kpcL_S2, kpcP_S2, kpcU_S2, kpcW_S2⟩ := hw2
  have kScL_S2 : kcL S S2 := kcL_t (show kcL S S1 from kScL_S1) kpcL_S2
  have kScP_S2 : kcP S S2 := kcP_t (show kcP S S1 from kScP_S1) kpcP_S2
  have kScU_S2 : kcU S S2 := kcU_t (show kcU S S1 from kScU_S1) kpcU_S2
  have kScW_S2 : kcW S S2 := kcW_t (show kcW S S1 from kScW_S1) kpcW_S2
  have nxr_length_S2 : (f_xr_length S2).toInt = (f_xr_length S1).toInt := congrArg Int32.toInt kpcL_S2
  have nxr_length_S2 : (f_xr_length S2).toInt = (f_xr_length S1).toInt := congrArg Int32.toInt kpcP_S2.1
  have nxr_place_S2 : (f_xr_place S2).toInt = (f_xr_place S1).toInt := congrArg Int32.toInt kpcP_S2.2.1
  have nxe_underWay_S2 : (f_xe_underWay S2).toInt = (f_xe_underWay S1).toInt := congrArg Int32.toInt kpcU_S2
  have nxp_columns_S2 : (f_xp_columns S2).toInt = (f_xp_columns S1).toInt := congrArg Int32.toInt kpcW_S2.1
  have nxp_rows_S2 : (f_xp_rows S2).toInt = (f_xp_rows S1).toInt := congrArg Int32.toInt kpcW_S2.2
  have rrv2 := zt_rng rv2
  exact j_iret F hr hlocks hK hS S2 ⟨⟨i_vst, i_vc0, i_vc1, i_vc2, i_vc3, i_vv0, i_vv1, i_vv2, i_vv3, i_vg, i_wct, i_wln, i_sd0, i_sd1, i_sd2, i_sd3, i_rln, i_rtx, i_rpl, i_rtk, i_cnv, i_pts, i_cik, i_und⟩, kScL_S2, kScP_S2, kScU_S2, kScW_S2⟩ hP hD d_Stack_giveInt_12
theorem d_Stack_giveFlag_0 : decode prog_9_method_10_code 0 = .ok (.aload_n 0, 1) := by decide +kernel
theorem d_Stack_giveFlag_1 : decode prog_9_method_10_code 1 = .ok (.iload_n 1, 1) := by decide +kernel
theorem d_Stack_giveFlag_2 : decode prog_9_method_10_code 2 = .ok (.invokevirtual 39, 3) := by decide +kernel
theorem d_Stack_giveFlag_5 : decode prog_9_method_10_code 5 = .ok (.aload_n 0, 1) := by decide +kernel
theorem d_Stack_giveFlag_6 : decode prog_9_method_10_code 6 = .ok (.iconst 2, 1) := by decide +kernel
theorem d_Stack_giveFlag_16 : decode prog_9_method_10_code 16 = .ok (.dconst 0, 1) := by decide +kernel
theorem d_Stack_giveFlag_17 : decode prog_9_method_10_code 17 = .ok (.invokevirtual 35, 3) := by decide +kernel
theorem d_Stack_giveFlag_20 : decode prog_9_method_10_code 20 = .ok (.ireturn, 1) := by decide +kernel
theorem d_Stack_giveFlag_7 : decode prog_9_method_10_code 7 = .ok (.iload_n 2, 1) := by decide +kernel
theorem d_Stack_giveFlag_8 : decode prog_9_method_10_code 8 = .ok (.ifCond .eq 7, 3) := by decide +kernel
theorem d_Stack_giveFlag_15 : decode prog_9_method_10_code 15 = .ok (.iconst 0, 1) := by decide +kernel
theorem d_Stack_giveFlag_11 : decode prog_9_method_10_code 11 = .ok (.iconst 1, 1) := by decide +kernel
theorem d_Stack_giveFlag_12 : decode prog_9_method_10_code 12 = .ok (.goto 4, 3) := by decide +kernel
set_option maxHeartbeats 4000000 in
set_option maxRecDepth 100000 in
theorem c_Stack_giveFlag (l : Launch) (D : va_G) (T : Nat → ClassId) (ad : Nat → Nat) (S : CS) (p0 : Int32) (p1 : Int32) (sz : Nat)  (hI : CIv S) : Met l ⟨"PageScribe$Stack", "giveFlag", "(IZ)I"⟩ (wy ⟨"PageScribe$Stack", "giveFlag", "(IZ)I"⟩ prog_9_method_10_code 3 (some .int)) ({ frames := 2, cells := 0, slots := 0, locals := 140 }) (va_Pc [.ref (ad 1), .int p0, .int p1] (Pw D T (cW T ad S) sz E0)) (va_Qi (fun (r : Int32) (u : CS) => CIv u ∧ kcL S u ∧ kcP S u ∧ kcU S u ∧ kcW S u) (fun u t => Bw D T (va_A (cW T ad S) sz) (cW T ad u) t) (va_A (cW T ad S) sz)) 0 0 (va_A (cW T ad S) sz) := by
  refine j_met (y := ⟨"PageScribe$Stack", "giveFlag", "(IZ)I"⟩) (b := prog_9_method_10_code) (n := 3) (ret := (some .int)) (av := [.ref (ad 1), .int p0, .int p1]) (Qc := fun A => va_Qi (fun (r : Int32) (u : CS) => CIv u ∧ kcL S u ∧ kcP S u ∧ kcU S u ∧ kcW S u) (fun u t => Bw D T A (cW T ad u) t) A) (by decide +kernel) (Nat.le_of_ble_eq_true rfl) (fun p e s m args below meth c A ls F hr hlocks hnm hK hP hD hS hA hN hE hl => ?_)
  obtain ⟨hx, hb, hml, hown, hts⟩ := id F
  have hl : lv_has ls 3 [(0, .ref (ad 1)), (1, .int p0), (2, .int p1)] := hl
  obtain ⟨i_vst, i_vc0, i_vc1, i_vc2, i_vc3, i_vv0, i_vv1, i_vv2, i_vv3, i_vg, i_wct, i_wln, i_sd0, i_sd1, i_sd2, i_sd3, i_rln, i_rtx, i_rpl, i_rtk, i_cnv, i_pts, i_cik, i_und⟩ := id hI
  have rp0 := zt_rng p0
  have rp1 := zt_rng p1
  refine lv_aload_n hx hb d_Stack_giveFlag_0 rfl (lv_at hl 0 rfl) ?_
  refine lv_iload_n hx hb d_Stack_giveFlag_1 rfl (lv_at hl 1 rfl) ?_
  refine jc_cv (w := (fun u => u)) hK hP hD hS hA (va_runU (As := [.int p0]) (rest := []) F (c_Row_drop l D T ad S p0  s.heap.size ⟨i_vst, i_vc0, i_vc1, i_vc2, i_vc3, i_vv0, i_vv1, i_vv2, i_vv3, i_vg, i_wct, i_wln, i_sd0, i_sd1, i_sd2, i_sd3, i_rln, i_rtx, i_rpl, i_rtk, i_cnv, i_pts, i_cik, i_und⟩) (j_cU (k := 1) (C := "PageScribe$Stack") (owner := "PageScribe$Row") (x := ⟨"PageScribe$Stack", "drop", "(I)V"⟩) hts k_4_47 k_4_42 k_4_43 k_4_45 k_4_46 k_1_2 rfl (by decide +kernel) ⟨Nat.le_of_ble_eq_true rfl, Nat.le_of_ble_eq_true rfl⟩) (j_preV (q0 := 1) (ci := 0) hK hP hD csc csc_all csc_nd cl_0 (ce_1 _ _ _) (fun _ _ _ _ h => h) (fun _ _ _ => trivial)) rfl rfl hl.1 rfl (lv_room (Nat.le_of_ble_eq_true rfl)) d_Stack_giveFlag_2 ⟨Nat.le_of_ble_eq_true rfl, Nat.le_of_ble_eq_true rfl⟩) (fun S1 H locs hw1 hP hD hS => ?_)
  have hP : va_P D classes (cW T ad S1) H := hP
  have hD : va_D A (cW T ad S1) := hD
  obtain ⟨⟨i_vst, i_vc0, i_vc1, i_vc2, i_vc3, i_vv0, i_vv1, i_vv2, i_vv3, i_vg, i_wct, i_wln, i_sd0, i_sd1, i_sd2, i_sd3, i_rln, i_rtx, i_rpl, i_rtk, i_cnv, i_pts, i_cik, i_und⟩, kpcL_S1, kpcP_S1, kpcU_S1, kpcW_S1⟩ := hw1
  have kScL_S1 : kcL S S1 := kcL_t (show kcL S S from (kcL_r S)) kpcL_S1
  have kScP_S1 : kcP S S1 := kcP_t (show kcP S S from (kcP_r S)) kpcP_S1
  have kScU_S1 : kcU S S1 := kcU_t (show kcU S S from (kcU_r S)) kpcU_S1
  have kScW_S1 : kcW S S1 := kcW_t (show kcW S S from (kcW_r S)) kpcW_S1
  have nxr_length_S1 : (f_xr_length S1).toInt = (f_xr_length S).toInt := congrArg Int32.toInt kpcL_S1
  have nxr_length_S1 : (f_xr_length S1).toInt = (f_xr_length S).toInt := congrArg Int32.toInt kpcP_S1.1
  have nxr_place_S1 : (f_xr_place S1).toInt = (f_xr_place S).toInt := congrArg Int32.toInt kpcP_S1.2.1
  have nxe_underWay_S1 : (f_xe_underWay S1).toInt = (f_xe_underWay S).toInt := congrArg Int32.toInt kpcU_S1
  have nxp_columns_S1 : (f_xp_columns S1).toInt = (f_xp_columns S).toInt := congrArg Int32.toInt kpcW_S1.1
  have nxp_rows_S1 : (f_xp_rows S1).toInt = (f_xp_rows S).toInt := congrArg Int32.toInt kpcW_S1.2
  refine lv_aload_n hx hb d_Stack_giveFlag_5 rfl (lv_at hl 0 rfl) ?_
  refine lv_iconst (v := 2) hx hb d_Stack_giveFlag_6 (by decide) ?_
  refine j_joinH (α := Int32) (fun x H locs ls => (True) ∧ va_P D classes (cW T ad S1) H ∧ va_D A (cW T ad S1) ∧ va_S A s.heap H locs ∧ lv_has ls 3 [(0, .ref (ad 1)), (1, .int p0), (2, .int p1)]) (fun x ls => F0 m 16 ls (.int x :: [.int 2, .ref (ad 1)])) (fun x H locs ls hI9 => ?_) (fun key1 => ?_)
  · obtain ⟨j1, rfl⟩ : ∃ z, z = x := ⟨_, rfl⟩
    obtain ⟨hj1, hP, hD, hS, hl⟩ := hI9
    have hP : va_P D classes (cW T ad S1) H := hP
    have hD : va_D A (cW T ad S1) := hD
    have hl : lv_has ls 3 [(0, .ref (ad 1)), (1, .int p0), (2, .int p1)] := hl
    refine lv_dconst0 hx hb d_Stack_giveFlag_16 ?_
    have := tD_0
    refine jc_ci (w := (fun u => u)) hK hP hD hS hA (va_runU (As := [.int 2, .int j1, .double 0]) (rest := []) F (c_Row_push l D T ad S1 (2 : Int32) j1 0  H.size ⟨i_vst, i_vc0, i_vc1, i_vc2, i_vc3, i_vv0, i_vv1, i_vv2, i_vv3, i_vg, i_wct, i_wln, i_sd0, i_sd1, i_sd2, i_sd3, i_rln, i_rtx, i_rpl, i_rtk, i_cnv, i_pts, i_cik, i_und⟩ (show dB 0 by have := tI_2; omega)) (j_cU (k := 3) (C := "PageScribe$Stack") (owner := "PageScribe$Row") (x := ⟨"PageScribe$Stack", "push", "(IID)I"⟩) hts k_2_104 k_4_91 k_2_100 k_2_102 k_2_103 k_1_2 rfl (by decide +kernel) ⟨Nat.le_of_ble_eq_true rfl, Nat.le_of_ble_eq_true rfl⟩) (j_preV (q0 := 1) (ci := 0) hK hP hD csc csc_all csc_nd cl_0 (ce_1 _ _ _) (fun _ _ _ _ h => h) (fun _ _ _ => trivial)) rfl rfl hl.1 rfl (lv_room (Nat.le_of_ble_eq_true rfl)) d_Stack_giveFlag_17 ⟨Nat.le_of_ble_eq_true rfl, Nat.le_of_ble_eq_true rfl⟩) (fun rv2 S2 H locs hw2 hP hD hS => ?_)
    have hP : va_P D classes (cW T ad S2) H := hP
    have hD : va_D A (cW T ad S2) := hD
    obtain ⟨⟨i_vst, i_vc0, i_vc1, i_vc2, i_vc3, i_vv0, i_vv1, i_vv2, i_vv3, i_vg, i_wct, i_wln, i_sd0, i_sd1, i_sd2, i_sd3, i_rln, i_rtx, i_rpl, i_rtk, i_cnv, i_pts, i_cik, i_und⟩, kpcL_S2, kpcP_S2, kpcU_S2, kpcW_S2⟩ := hw2
    have kScL_S2 : kcL S S2 := kcL_t (show kcL S S1 from kScL_S1) kpcL_S2
    have kScP_S2 : kcP S S2 := kcP_t (show kcP S S1 from kScP_S1) kpcP_S2
    have kScU_S2 : kcU S S2 := kcU_t (show kcU S S1 from kScU_S1) kpcU_S2
    have kScW_S2 : kcW S S2 := kcW_t (show kcW S S1 from kScW_S1) kpcW_S2
    have nxr_length_S2 : (f_xr_length S2).toInt = (f_xr_length S1).toInt := congrArg Int32.toInt kpcL_S2
    have nxr_length_S2 : (f_xr_length S2).toInt = (f_xr_length S1).toInt := congrArg Int32.toInt kpcP_S2.1
    have nxr_place_S2 : (f_xr_place S2).toInt = (f_xr_place S1).toInt := congrArg Int32.toInt kpcP_S2.2.1
    have nxe_underWay_S2 : (f_xe_underWay S2).toInt = (f_xe_underWay S1).toInt := congrArg Int32.toInt kpcU_S2
    have nxp_columns_S2 : (f_xp_columns S2).toInt = (f_xp_columns S1).toInt := congrArg Int32.toInt kpcW_S2.1
    have nxp_rows_S2 : (f_xp_rows S2).toInt = (f_xp_rows S1).toInt := congrArg Int32.toInt kpcW_S2.2
    have rrv2 := zt_rng rv2
    exact j_iret F hr hlocks hK hS S2 ⟨⟨i_vst, i_vc0, i_vc1, i_vc2, i_vc3, i_vv0, i_vv1, i_vv2, i_vv3, i_vg, i_wct, i_wln, i_sd0, i_sd1, i_sd2, i_sd3, i_rln, i_rtx, i_rpl, i_rtk, i_cnv, i_pts, i_cik, i_und⟩, kScL_S2, kScP_S2, kScU_S2, kScW_S2⟩ hP hD d_Stack_giveFlag_20
  · refine lv_iload_n hx hb d_Stack_giveFlag_7 rfl (lv_at hl 2 rfl) ?_
    refine lv_if_eq (tgt := 15) hx hb d_Stack_giveFlag_8 (by decide) (fun c8_1 => ?_) (fun c8_1 => ?_)
    · have fc8_1 : p1.toInt = 0 := zt_eq (show p1.toInt = _ from rfl) tI_0 c8_1
      refine lv_iconst (v := 0) hx hb d_Stack_giveFlag_15 (by decide) ?_
      exact key1 (0 : Int32) _ _ _ ⟨trivial, hP, hD, hS, lv_sub hl [0, 1, 2] rfl⟩
    · first | have fc8_1 : p1.toInt < 0 := (by have := zt_ne (show p1.toInt = _ from rfl) tI_0 c8_1; omega) | have fc8_1 : 0 < p1.toInt := (by have := zt_ne (show p1.toInt = _ from rfl) tI_0 c8_1; omega) | skip
      refine lv_iconst (v := 1) hx hb d_Stack_giveFlag_11 (by decide) ?_
      refine lv_goto (tgt := 16) hx hb d_Stack_giveFlag_12 (by decide) ?_
      exact key1 (1 : Int32) _ _ _ ⟨trivial, hP, hD, hS, lv_sub hl [0, 1, 2] rfl⟩
theorem d_Stack_isOne_0 : decode prog_9_method_13_code 0 = .ok (.iload_n 1, 1) := by decide +kernel
theorem d_Stack_isOne_1 : decode prog_9_method_13_code 1 = .ok (.tableswitch 207 97 119 #[157, 132, 207, 183, 207, 207, 207, 207, 107, 207, 207, 207, 207, 117, 207, 171, 207, 207, 195, 207, 207, 207, 143], 107) := by decide +kernel
theorem d_Stack_isOne_158 : decode prog_9_method_13_code 158 = .ok (.iload_n 0, 1) := by decide +kernel
theorem d_Stack_isOne_159 : decode prog_9_method_13_code 159 = .ok (.bipush 7, 2) := by decide +kernel
theorem d_Stack_isOne_161 : decode prog_9_method_13_code 161 = .ok (.iand, 1) := by decide +kernel
theorem d_Stack_isOne_162 : decode prog_9_method_13_code 162 = .ok (.iconst 5, 1) := by decide +kernel
theorem d_Stack_isOne_163 : decode prog_9_method_13_code 163 = .ok (.if_icmp .ne 7, 3) := by decide +kernel
theorem d_Stack_isOne_170 : decode prog_9_method_13_code 170 = .ok (.iconst 0, 1) := by decide +kernel
theorem d_Stack_isOne_171 : decode prog_9_method_13_code 171 = .ok (.ireturn, 1) := by decide +kernel
theorem d_Stack_isOne_166 : decode prog_9_method_13_code 166 = .ok (.iconst 1, 1) := by decide +kernel
theorem d_Stack_isOne_167 : decode prog_9_method_13_code 167 = .ok (.goto 4, 3) := by decide +kernel
theorem d_Stack_isOne_133 : decode prog_9_method_13_code 133 = .ok (.iload_n 0, 1) := by decide +kernel
theorem d_Stack_isOne_134 : decode prog_9_method_13_code 134 = .ok (.iconst 2, 1) := by decide +kernel
theorem d_Stack_isOne_135 : decode prog_9_method_13_code 135 = .ok (.if_icmp .ne 7, 3) := by decide +kernel
theorem d_Stack_isOne_142 : decode prog_9_method_13_code 142 = .ok (.iconst 0, 1) := by decide +kernel
theorem d_Stack_isOne_143 : decode prog_9_method_13_code 143 = .ok (.ireturn, 1) := by decide +kernel
theorem d_Stack_isOne_138 : decode prog_9_method_13_code 138 = .ok (.iconst 1, 1) := by decide +kernel
theorem d_Stack_isOne_139 : decode prog_9_method_13_code 139 = .ok (.goto 4, 3) := by decide +kernel
theorem d_Stack_isOne_208 : decode prog_9_method_13_code 208 = .ok (.iconst 1, 1) := by decide +kernel
theorem d_Stack_isOne_209 : decode prog_9_method_13_code 209 = .ok (.ireturn, 1) := by decide +kernel
theorem d_Stack_isOne_184 : decode prog_9_method_13_code 184 = .ok (.iload_n 0, 1) := by decide +kernel
theorem d_Stack_isOne_185 : decode prog_9_method_13_code 185 = .ok (.bipush 6, 2) := by decide +kernel
theorem d_Stack_isOne_187 : decode prog_9_method_13_code 187 = .ok (.if_icmp .ne 7, 3) := by decide +kernel
theorem d_Stack_isOne_194 : decode prog_9_method_13_code 194 = .ok (.iconst 0, 1) := by decide +kernel
theorem d_Stack_isOne_195 : decode prog_9_method_13_code 195 = .ok (.ireturn, 1) := by decide +kernel
theorem d_Stack_isOne_190 : decode prog_9_method_13_code 190 = .ok (.iconst 1, 1) := by decide +kernel
theorem d_Stack_isOne_191 : decode prog_9_method_13_code 191 = .ok (.goto 4, 3) := by decide +kernel
theorem d_Stack_isOne_108 : decode prog_9_method_13_code 108 = .ok (.iload_n 0, 1) := by decide +kernel
theorem d_Stack_isOne_109 : decode prog_9_method_13_code 109 = .ok (.ifCond .ne 7, 3) := by decide +kernel
theorem d_Stack_isOne_116 : decode prog_9_method_13_code 116 = .ok (.iconst 0, 1) := by decide +kernel
theorem d_Stack_isOne_117 : decode prog_9_method_13_code 117 = .ok (.ireturn, 1) := by decide +kernel
theorem d_Stack_isOne_112 : decode prog_9_method_13_code 112 = .ok (.iconst 1, 1) := by decide +kernel
theorem d_Stack_isOne_113 : decode prog_9_method_13_code 113 = .ok (.goto 4, 3) := by decide +kernel
theorem d_Stack_isOne_118 : decode prog_9_method_13_code 118 = .ok (.iload_n 0, 1) := by decide +kernel
theorem d_Stack_isOne_119 : decode prog_9_method_13_code 119 = .ok (.ifCond .eq 8, 3) := by decide +kernel
theorem d_Stack_isOne_127 : decode prog_9_method_13_code 127 = .ok (.iconst 1, 1) := by decide +kernel
theorem d_Stack_isOne_128 : decode prog_9_method_13_code 128 = .ok (.goto 4, 3) := by decide +kernel
theorem d_Stack_isOne_132 : decode prog_9_method_13_code 132 = .ok (.ireturn, 1) := by decide +kernel
theorem d_Stack_isOne_122 : decode prog_9_method_13_code 122 = .ok (.iload_n 0, 1) := by decide +kernel
theorem d_Stack_isOne_123 : decode prog_9_method_13_code 123 = .ok (.iconst 1, 1) := by decide +kernel
theorem d_Stack_isOne_124 : decode prog_9_method_13_code 124 = .ok (.if_icmp .ne 7, 3) := by decide +kernel
theorem d_Stack_isOne_131 : decode prog_9_method_13_code 131 = .ok (.iconst 0, 1) := by decide +kernel
theorem d_Stack_isOne_172 : decode prog_9_method_13_code 172 = .ok (.iload_n 0, 1) := by decide +kernel
theorem d_Stack_isOne_173 : decode prog_9_method_13_code 173 = .ok (.bipush 13, 2) := by decide +kernel
theorem d_Stack_isOne_175 : decode prog_9_method_13_code 175 = .ok (.if_icmp .ne 7, 3) := by decide +kernel
theorem d_Stack_isOne_182 : decode prog_9_method_13_code 182 = .ok (.iconst 0, 1) := by decide +kernel
theorem d_Stack_isOne_183 : decode prog_9_method_13_code 183 = .ok (.ireturn, 1) := by decide +kernel
theorem d_Stack_isOne_178 : decode prog_9_method_13_code 178 = .ok (.iconst 1, 1) := by decide +kernel
theorem d_Stack_isOne_179 : decode prog_9_method_13_code 179 = .ok (.goto 4, 3) := by decide +kernel
theorem d_Stack_isOne_196 : decode prog_9_method_13_code 196 = .ok (.iload_n 0, 1) := by decide +kernel
theorem d_Stack_isOne_197 : decode prog_9_method_13_code 197 = .ok (.bipush 7, 2) := by decide +kernel
theorem d_Stack_isOne_199 : decode prog_9_method_13_code 199 = .ok (.if_icmp .ne 7, 3) := by decide +kernel
theorem d_Stack_isOne_206 : decode prog_9_method_13_code 206 = .ok (.iconst 0, 1) := by decide +kernel
theorem d_Stack_isOne_207 : decode prog_9_method_13_code 207 = .ok (.ireturn, 1) := by decide +kernel
theorem d_Stack_isOne_202 : decode prog_9_method_13_code 202 = .ok (.iconst 1, 1) := by decide +kernel
theorem d_Stack_isOne_203 : decode prog_9_method_13_code 203 = .ok (.goto 4, 3) := by decide +kernel
theorem d_Stack_isOne_144 : decode prog_9_method_13_code 144 = .ok (.iload_n 0, 1) := by decide +kernel
theorem d_Stack_isOne_145 : decode prog_9_method_13_code 145 = .ok (.bipush 7, 2) := by decide +kernel
theorem d_Stack_isOne_147 : decode prog_9_method_13_code 147 = .ok (.iand, 1) := by decide +kernel
theorem d_Stack_isOne_148 : decode prog_9_method_13_code 148 = .ok (.iconst 3, 1) := by decide +kernel
theorem d_Stack_isOne_149 : decode prog_9_method_13_code 149 = .ok (.if_icmp .ne 7, 3) := by decide +kernel
theorem d_Stack_isOne_156 : decode prog_9_method_13_code 156 = .ok (.iconst 0, 1) := by decide +kernel
theorem d_Stack_isOne_157 : decode prog_9_method_13_code 157 = .ok (.ireturn, 1) := by decide +kernel
theorem d_Stack_isOne_152 : decode prog_9_method_13_code 152 = .ok (.iconst 1, 1) := by decide +kernel
theorem d_Stack_isOne_153 : decode prog_9_method_13_code 153 = .ok (.goto 4, 3) := by decide +kernel
set_option maxHeartbeats 4000000 in
set_option maxRecDepth 100000 in
theorem c_Stack_isOne (l : Launch) (D : va_G) (T : Nat → ClassId) (p0 : Int32) (p1 : Int32) (sz : Nat)  : Met l ⟨"PageScribe$Stack", "isOne", "(IC)Z"⟩ (wy ⟨"PageScribe$Stack", "isOne", "(IC)Z"⟩ prog_9_method_13_code 2 (some .boolean)) ({ frames := 0, cells := 0, slots := 0, locals := 0 }) (va_Pc [.int p0, .int p1] (Pw D T [] sz E0)) (va_Qi (fun (r : Int32) (u : Unit) => r.toInt = 0 ∨ r.toInt = 1) (fun u t => Bw D T (va_A [] sz) [] t) (va_A [] sz)) 0 0 (va_A [] sz) := by
  refine j_met (y := ⟨"PageScribe$Stack", "isOne", "(IC)Z"⟩) (b := prog_9_method_13_code) (n := 2) (ret := (some .boolean)) (av := [.int p0, .int p1]) (Qc := fun A => va_Qi (fun (r : Int32) (u : Unit) => r.toInt = 0 ∨ r.toInt = 1) (fun u t => Bw D T A [] t) A) (by decide +kernel) (Nat.le_of_ble_eq_true rfl) (fun p e s m args below meth c A ls F hr hlocks hnm hK hP hD hS hA hN hE hl => ?_)
  obtain ⟨hx, hb, hml, hown, hts⟩ := id F
  have hl : lv_has ls 2 [(0, .int p0), (1, .int p1)] := hl
  have rp0 := zt_rng p0
  have rp1 := zt_rng p1
  refine lv_iload_n hx hb d_Stack_isOne_0 rfl (lv_at hl 1 rfl) ?_
  by_cases h_97_1 : p1.toInt = 97
  · refine lv_tableIn (off := 157) (tgt := 158) hx hb d_Stack_isOne_1 (by omega) (by omega) (by rw [show p1.toInt = 97 from h_97_1]; decide +kernel) (by decide) ?_
    refine lv_iload_n hx hb d_Stack_isOne_158 rfl (lv_at hl 0 rfl) ?_
    refine lv_bipush (v := 7) hx hb d_Stack_isOne_159 (by decide) ?_
    refine lv_iand hx hb d_Stack_isOne_161 ?_
    refine lv_topi (fun x1 ex1 => ?_)
    have rx1 := zt_rng x1
    refine lv_iconst (v := 5) hx hb d_Stack_isOne_162 (by decide) ?_
    refine lv_icmp_ne (tgt := 170) hx hb d_Stack_isOne_163 (by decide) (fun c163_1 => ?_) (fun c163_1 => ?_)
    · first | have fc163_1 : x1.toInt < 5 := (by have := zt_ne (show x1.toInt = _ from rfl) tI_5 c163_1; omega) | have fc163_1 : 5 < x1.toInt := (by have := zt_ne (show x1.toInt = _ from rfl) tI_5 c163_1; omega) | skip
      refine lv_iconst (v := 0) hx hb d_Stack_isOne_170 (by decide) ?_
      exact j_zret F hr (by decide +kernel) hlocks hK hS () (show (0 : Int32).toInt = 0 ∨ (0 : Int32).toInt = 1 by have := tI_0; omega) hP hD d_Stack_isOne_171
    · have fc163_1 : x1.toInt = 5 := zt_eq (show x1.toInt = _ from rfl) tI_5 c163_1
      refine lv_iconst (v := 1) hx hb d_Stack_isOne_166 (by decide) ?_
      refine lv_goto (tgt := 171) hx hb d_Stack_isOne_167 (by decide) ?_
      exact j_zret F hr (by decide +kernel) hlocks hK hS () (show (1 : Int32).toInt = 0 ∨ (1 : Int32).toInt = 1 by have := tI_1; omega) hP hD d_Stack_isOne_171
  by_cases h_98_1 : p1.toInt = 98
  · refine lv_tableIn (off := 132) (tgt := 133) hx hb d_Stack_isOne_1 (by omega) (by omega) (by rw [show p1.toInt = 98 from h_98_1]; decide +kernel) (by decide) ?_
    refine lv_iload_n hx hb d_Stack_isOne_133 rfl (lv_at hl 0 rfl) ?_
    refine lv_iconst (v := 2) hx hb d_Stack_isOne_134 (by decide) ?_
    refine lv_icmp_ne (tgt := 142) hx hb d_Stack_isOne_135 (by decide) (fun c135_1 => ?_) (fun c135_1 => ?_)
    · first | have fc135_1 : p0.toInt < 2 := (by have := zt_ne (show p0.toInt = _ from rfl) tI_2 c135_1; omega) | have fc135_1 : 2 < p0.toInt := (by have := zt_ne (show p0.toInt = _ from rfl) tI_2 c135_1; omega) | skip
      refine lv_iconst (v := 0) hx hb d_Stack_isOne_142 (by decide) ?_
      exact j_zret F hr (by decide +kernel) hlocks hK hS () (show (0 : Int32).toInt = 0 ∨ (0 : Int32).toInt = 1 by have := tI_0; omega) hP hD d_Stack_isOne_143
    · have fc135_1 : p0.toInt = 2 := zt_eq (show p0.toInt = _ from rfl) tI_2 c135_1
      refine lv_iconst (v := 1) hx hb d_Stack_isOne_138 (by decide) ?_
      refine lv_goto (tgt := 143) hx hb d_Stack_isOne_139 (by decide) ?_
      exact j_zret F hr (by decide +kernel) hlocks hK hS () (show (1 : Int32).toInt = 0 ∨ (1 : Int32).toInt = 1 by have := tI_1; omega) hP hD d_Stack_isOne_143
  by_cases h_99_1 : p1.toInt = 99
  · refine lv_tableIn (off := 207) (tgt := 208) hx hb d_Stack_isOne_1 (by omega) (by omega) (by rw [show p1.toInt = 99 from h_99_1]; decide +kernel) (by decide) ?_
    refine lv_iconst (v := 1) hx hb d_Stack_isOne_208 (by decide) ?_
    exact j_zret F hr (by decide +kernel) hlocks hK hS () (show (1 : Int32).toInt = 0 ∨ (1 : Int32).toInt = 1 by have := tI_1; omega) hP hD d_Stack_isOne_209
  by_cases h_100_1 : p1.toInt = 100
  · refine lv_tableIn (off := 183) (tgt := 184) hx hb d_Stack_isOne_1 (by omega) (by omega) (by rw [show p1.toInt = 100 from h_100_1]; decide +kernel) (by decide) ?_
    refine lv_iload_n hx hb d_Stack_isOne_184 rfl (lv_at hl 0 rfl) ?_
    refine lv_bipush (v := 6) hx hb d_Stack_isOne_185 (by decide) ?_
    refine lv_icmp_ne (tgt := 194) hx hb d_Stack_isOne_187 (by decide) (fun c187_1 => ?_) (fun c187_1 => ?_)
    · first | have fc187_1 : p0.toInt < 6 := (by have := zt_ne (show p0.toInt = _ from rfl) tI_6 c187_1; omega) | have fc187_1 : 6 < p0.toInt := (by have := zt_ne (show p0.toInt = _ from rfl) tI_6 c187_1; omega) | skip
      refine lv_iconst (v := 0) hx hb d_Stack_isOne_194 (by decide) ?_
      exact j_zret F hr (by decide +kernel) hlocks hK hS () (show (0 : Int32).toInt = 0 ∨ (0 : Int32).toInt = 1 by have := tI_0; omega) hP hD d_Stack_isOne_195
    · have fc187_1 : p0.toInt = 6 := zt_eq (show p0.toInt = _ from rfl) tI_6 c187_1
      refine lv_iconst (v := 1) hx hb d_Stack_isOne_190 (by decide) ?_
      refine lv_goto (tgt := 195) hx hb d_Stack_isOne_191 (by decide) ?_
      exact j_zret F hr (by decide +kernel) hlocks hK hS () (show (1 : Int32).toInt = 0 ∨ (1 : Int32).toInt = 1 by have := tI_1; omega) hP hD d_Stack_isOne_195
  by_cases h_101_1 : p1.toInt = 101
  · refine lv_tableIn (off := 207) (tgt := 208) hx hb d_Stack_isOne_1 (by omega) (by omega) (by rw [show p1.toInt = 101 from h_101_1]; decide +kernel) (by decide) ?_
    refine lv_iconst (v := 1) hx hb d_Stack_isOne_208 (by decide) ?_
    exact j_zret F hr (by decide +kernel) hlocks hK hS () (show (1 : Int32).toInt = 0 ∨ (1 : Int32).toInt = 1 by have := tI_1; omega) hP hD d_Stack_isOne_209
  by_cases h_102_1 : p1.toInt = 102
  · refine lv_tableIn (off := 207) (tgt := 208) hx hb d_Stack_isOne_1 (by omega) (by omega) (by rw [show p1.toInt = 102 from h_102_1]; decide +kernel) (by decide) ?_
    refine lv_iconst (v := 1) hx hb d_Stack_isOne_208 (by decide) ?_
    exact j_zret F hr (by decide +kernel) hlocks hK hS () (show (1 : Int32).toInt = 0 ∨ (1 : Int32).toInt = 1 by have := tI_1; omega) hP hD d_Stack_isOne_209
  by_cases h_103_1 : p1.toInt = 103
  · refine lv_tableIn (off := 207) (tgt := 208) hx hb d_Stack_isOne_1 (by omega) (by omega) (by rw [show p1.toInt = 103 from h_103_1]; decide +kernel) (by decide) ?_
    refine lv_iconst (v := 1) hx hb d_Stack_isOne_208 (by decide) ?_
    exact j_zret F hr (by decide +kernel) hlocks hK hS () (show (1 : Int32).toInt = 0 ∨ (1 : Int32).toInt = 1 by have := tI_1; omega) hP hD d_Stack_isOne_209
  by_cases h_104_1 : p1.toInt = 104
  · refine lv_tableIn (off := 207) (tgt := 208) hx hb d_Stack_isOne_1 (by omega) (by omega) (by rw [show p1.toInt = 104 from h_104_1]; decide +kernel) (by decide) ?_
    refine lv_iconst (v := 1) hx hb d_Stack_isOne_208 (by decide) ?_
    exact j_zret F hr (by decide +kernel) hlocks hK hS () (show (1 : Int32).toInt = 0 ∨ (1 : Int32).toInt = 1 by have := tI_1; omega) hP hD d_Stack_isOne_209
  by_cases h_105_1 : p1.toInt = 105
  · refine lv_tableIn (off := 107) (tgt := 108) hx hb d_Stack_isOne_1 (by omega) (by omega) (by rw [show p1.toInt = 105 from h_105_1]; decide +kernel) (by decide) ?_
    refine lv_iload_n hx hb d_Stack_isOne_108 rfl (lv_at hl 0 rfl) ?_
    refine lv_if_ne (tgt := 116) hx hb d_Stack_isOne_109 (by decide) (fun c109_1 => ?_) (fun c109_1 => ?_)
    · first | have fc109_1 : p0.toInt < 0 := (by have := zt_ne (show p0.toInt = _ from rfl) tI_0 c109_1; omega) | have fc109_1 : 0 < p0.toInt := (by have := zt_ne (show p0.toInt = _ from rfl) tI_0 c109_1; omega) | skip
      refine lv_iconst (v := 0) hx hb d_Stack_isOne_116 (by decide) ?_
      exact j_zret F hr (by decide +kernel) hlocks hK hS () (show (0 : Int32).toInt = 0 ∨ (0 : Int32).toInt = 1 by have := tI_0; omega) hP hD d_Stack_isOne_117
    · have fc109_1 : p0.toInt = 0 := zt_eq (show p0.toInt = _ from rfl) tI_0 c109_1
      refine lv_iconst (v := 1) hx hb d_Stack_isOne_112 (by decide) ?_
      refine lv_goto (tgt := 117) hx hb d_Stack_isOne_113 (by decide) ?_
      exact j_zret F hr (by decide +kernel) hlocks hK hS () (show (1 : Int32).toInt = 0 ∨ (1 : Int32).toInt = 1 by have := tI_1; omega) hP hD d_Stack_isOne_117
  by_cases h_106_1 : p1.toInt = 106
  · refine lv_tableIn (off := 207) (tgt := 208) hx hb d_Stack_isOne_1 (by omega) (by omega) (by rw [show p1.toInt = 106 from h_106_1]; decide +kernel) (by decide) ?_
    refine lv_iconst (v := 1) hx hb d_Stack_isOne_208 (by decide) ?_
    exact j_zret F hr (by decide +kernel) hlocks hK hS () (show (1 : Int32).toInt = 0 ∨ (1 : Int32).toInt = 1 by have := tI_1; omega) hP hD d_Stack_isOne_209
  by_cases h_107_1 : p1.toInt = 107
  · refine lv_tableIn (off := 207) (tgt := 208) hx hb d_Stack_isOne_1 (by omega) (by omega) (by rw [show p1.toInt = 107 from h_107_1]; decide +kernel) (by decide) ?_
    refine lv_iconst (v := 1) hx hb d_Stack_isOne_208 (by decide) ?_
    exact j_zret F hr (by decide +kernel) hlocks hK hS () (show (1 : Int32).toInt = 0 ∨ (1 : Int32).toInt = 1 by have := tI_1; omega) hP hD d_Stack_isOne_209
  by_cases h_108_1 : p1.toInt = 108
  · refine lv_tableIn (off := 207) (tgt := 208) hx hb d_Stack_isOne_1 (by omega) (by omega) (by rw [show p1.toInt = 108 from h_108_1]; decide +kernel) (by decide) ?_
    refine lv_iconst (v := 1) hx hb d_Stack_isOne_208 (by decide) ?_
    exact j_zret F hr (by decide +kernel) hlocks hK hS () (show (1 : Int32).toInt = 0 ∨ (1 : Int32).toInt = 1 by have := tI_1; omega) hP hD d_Stack_isOne_209
  by_cases h_109_1 : p1.toInt = 109
  · refine lv_tableIn (off := 207) (tgt := 208) hx hb d_Stack_isOne_1 (by omega) (by omega) (by rw [show p1.toInt = 109 from h_109_1]; decide +kernel) (by decide) ?_
    refine lv_iconst (v := 1) hx hb d_Stack_isOne_208 (by decide) ?_
    exact j_zret F hr (by decide +kernel) hlocks hK hS () (show (1 : Int32).toInt = 0 ∨ (1 : Int32).toInt = 1 by have := tI_1; omega) hP hD d_Stack_isOne_209
  by_cases h_110_1 : p1.toInt = 110
  · refine lv_tableIn (off := 117) (tgt := 118) hx hb d_Stack_isOne_1 (by omega) (by omega) (by rw [show p1.toInt = 110 from h_110_1]; decide +kernel) (by decide) ?_
    refine lv_iload_n hx hb d_Stack_isOne_118 rfl (lv_at hl 0 rfl) ?_
    refine lv_if_eq (tgt := 127) hx hb d_Stack_isOne_119 (by decide) (fun c119_1 => ?_) (fun c119_1 => ?_)
    · have fc119_1 : p0.toInt = 0 := zt_eq (show p0.toInt = _ from rfl) tI_0 c119_1
      refine lv_iconst (v := 1) hx hb d_Stack_isOne_127 (by decide) ?_
      refine lv_goto (tgt := 132) hx hb d_Stack_isOne_128 (by decide) ?_
      exact j_zret F hr (by decide +kernel) hlocks hK hS () (show (1 : Int32).toInt = 0 ∨ (1 : Int32).toInt = 1 by have := tI_1; omega) hP hD d_Stack_isOne_132
    · first | have fc119_1 : p0.toInt < 0 := (by have := zt_ne (show p0.toInt = _ from rfl) tI_0 c119_1; omega) | have fc119_1 : 0 < p0.toInt := (by have := zt_ne (show p0.toInt = _ from rfl) tI_0 c119_1; omega) | skip
      refine lv_iload_n hx hb d_Stack_isOne_122 rfl (lv_at hl 0 rfl) ?_
      refine lv_iconst (v := 1) hx hb d_Stack_isOne_123 (by decide) ?_
      refine lv_icmp_ne (tgt := 131) hx hb d_Stack_isOne_124 (by decide) (fun c124_1 => ?_) (fun c124_1 => ?_)
      · first | have fc124_1 : p0.toInt < 1 := (by have := zt_ne (show p0.toInt = _ from rfl) tI_1 c124_1; omega) | have fc124_1 : 1 < p0.toInt := (by have := zt_ne (show p0.toInt = _ from rfl) tI_1 c124_1; omega) | skip
        refine lv_iconst (v := 0) hx hb d_Stack_isOne_131 (by decide) ?_
        exact j_zret F hr (by decide +kernel) hlocks hK hS () (show (0 : Int32).toInt = 0 ∨ (0 : Int32).toInt = 1 by have := tI_0; omega) hP hD d_Stack_isOne_132
      · have fc124_1 : p0.toInt = 1 := zt_eq (show p0.toInt = _ from rfl) tI_1 c124_1
        refine lv_iconst (v := 1) hx hb d_Stack_isOne_127 (by decide) ?_
        refine lv_goto (tgt := 132) hx hb d_Stack_isOne_128 (by decide) ?_
        exact j_zret F hr (by decide +kernel) hlocks hK hS () (show (1 : Int32).toInt = 0 ∨ (1 : Int32).toInt = 1 by have := tI_1; omega) hP hD d_Stack_isOne_132
  by_cases h_111_1 : p1.toInt = 111
  · refine lv_tableIn (off := 207) (tgt := 208) hx hb d_Stack_isOne_1 (by omega) (by omega) (by rw [show p1.toInt = 111 from h_111_1]; decide +kernel) (by decide) ?_
    refine lv_iconst (v := 1) hx hb d_Stack_isOne_208 (by decide) ?_
    exact j_zret F hr (by decide +kernel) hlocks hK hS () (show (1 : Int32).toInt = 0 ∨ (1 : Int32).toInt = 1 by have := tI_1; omega) hP hD d_Stack_isOne_209
  by_cases h_112_1 : p1.toInt = 112
  · refine lv_tableIn (off := 171) (tgt := 172) hx hb d_Stack_isOne_1 (by omega) (by omega) (by rw [show p1.toInt = 112 from h_112_1]; decide +kernel) (by decide) ?_
    refine lv_iload_n hx hb d_Stack_isOne_172 rfl (lv_at hl 0 rfl) ?_
    refine lv_bipush (v := 13) hx hb d_Stack_isOne_173 (by decide) ?_
    refine lv_icmp_ne (tgt := 182) hx hb d_Stack_isOne_175 (by decide) (fun c175_1 => ?_) (fun c175_1 => ?_)
    · first | have fc175_1 : p0.toInt < 13 := (by have := zt_ne (show p0.toInt = _ from rfl) tI_13 c175_1; omega) | have fc175_1 : 13 < p0.toInt := (by have := zt_ne (show p0.toInt = _ from rfl) tI_13 c175_1; omega) | skip
      refine lv_iconst (v := 0) hx hb d_Stack_isOne_182 (by decide) ?_
      exact j_zret F hr (by decide +kernel) hlocks hK hS () (show (0 : Int32).toInt = 0 ∨ (0 : Int32).toInt = 1 by have := tI_0; omega) hP hD d_Stack_isOne_183
    · have fc175_1 : p0.toInt = 13 := zt_eq (show p0.toInt = _ from rfl) tI_13 c175_1
      refine lv_iconst (v := 1) hx hb d_Stack_isOne_178 (by decide) ?_
      refine lv_goto (tgt := 183) hx hb d_Stack_isOne_179 (by decide) ?_
      exact j_zret F hr (by decide +kernel) hlocks hK hS () (show (1 : Int32).toInt = 0 ∨ (1 : Int32).toInt = 1 by have := tI_1; omega) hP hD d_Stack_isOne_183
  by_cases h_113_1 : p1.toInt = 113
  · refine lv_tableIn (off := 207) (tgt := 208) hx hb d_Stack_isOne_1 (by omega) (by omega) (by rw [show p1.toInt = 113 from h_113_1]; decide +kernel) (by decide) ?_
    refine lv_iconst (v := 1) hx hb d_Stack_isOne_208 (by decide) ?_
    exact j_zret F hr (by decide +kernel) hlocks hK hS () (show (1 : Int32).toInt = 0 ∨ (1 : Int32).toInt = 1 by have := tI_1; omega) hP hD d_Stack_isOne_209
  by_cases h_114_1 : p1.toInt = 114
  · refine lv_tableIn (off := 207) (tgt := 208) hx hb d_Stack_isOne_1 (by omega) (by omega) (by rw [show p1.toInt = 114 from h_114_1]; decide +kernel) (by decide) ?_
    refine lv_iconst (v := 1) hx hb d_Stack_isOne_208 (by decide) ?_
    exact j_zret F hr (by decide +kernel) hlocks hK hS () (show (1 : Int32).toInt = 0 ∨ (1 : Int32).toInt = 1 by have := tI_1; omega) hP hD d_Stack_isOne_209
  by_cases h_115_1 : p1.toInt = 115
  · refine lv_tableIn (off := 195) (tgt := 196) hx hb d_Stack_isOne_1 (by omega) (by omega) (by rw [show p1.toInt = 115 from h_115_1]; decide +kernel) (by decide) ?_
    refine lv_iload_n hx hb d_Stack_isOne_196 rfl (lv_at hl 0 rfl) ?_
    refine lv_bipush (v := 7) hx hb d_Stack_isOne_197 (by decide) ?_
    refine lv_icmp_ne (tgt := 206) hx hb d_Stack_isOne_199 (by decide) (fun c199_1 => ?_) (fun c199_1 => ?_)
    · first | have fc199_1 : p0.toInt < 7 := (by have := zt_ne (show p0.toInt = _ from rfl) tI_7 c199_1; omega) | have fc199_1 : 7 < p0.toInt := (by have := zt_ne (show p0.toInt = _ from rfl) tI_7 c199_1; omega) | skip
      refine lv_iconst (v := 0) hx hb d_Stack_isOne_206 (by decide) ?_
      exact j_zret F hr (by decide +kernel) hlocks hK hS () (show (0 : Int32).toInt = 0 ∨ (0 : Int32).toInt = 1 by have := tI_0; omega) hP hD d_Stack_isOne_207
    · have fc199_1 : p0.toInt = 7 := zt_eq (show p0.toInt = _ from rfl) tI_7 c199_1
      refine lv_iconst (v := 1) hx hb d_Stack_isOne_202 (by decide) ?_
      refine lv_goto (tgt := 207) hx hb d_Stack_isOne_203 (by decide) ?_
      exact j_zret F hr (by decide +kernel) hlocks hK hS () (show (1 : Int32).toInt = 0 ∨ (1 : Int32).toInt = 1 by have := tI_1; omega) hP hD d_Stack_isOne_207
  by_cases h_116_1 : p1.toInt = 116
  · refine lv_tableIn (off := 207) (tgt := 208) hx hb d_Stack_isOne_1 (by omega) (by omega) (by rw [show p1.toInt = 116 from h_116_1]; decide +kernel) (by decide) ?_
    refine lv_iconst (v := 1) hx hb d_Stack_isOne_208 (by decide) ?_
    exact j_zret F hr (by decide +kernel) hlocks hK hS () (show (1 : Int32).toInt = 0 ∨ (1 : Int32).toInt = 1 by have := tI_1; omega) hP hD d_Stack_isOne_209
  by_cases h_117_1 : p1.toInt = 117
  · refine lv_tableIn (off := 207) (tgt := 208) hx hb d_Stack_isOne_1 (by omega) (by omega) (by rw [show p1.toInt = 117 from h_117_1]; decide +kernel) (by decide) ?_
    refine lv_iconst (v := 1) hx hb d_Stack_isOne_208 (by decide) ?_
    exact j_zret F hr (by decide +kernel) hlocks hK hS () (show (1 : Int32).toInt = 0 ∨ (1 : Int32).toInt = 1 by have := tI_1; omega) hP hD d_Stack_isOne_209
  by_cases h_118_1 : p1.toInt = 118
  · refine lv_tableIn (off := 207) (tgt := 208) hx hb d_Stack_isOne_1 (by omega) (by omega) (by rw [show p1.toInt = 118 from h_118_1]; decide +kernel) (by decide) ?_
    refine lv_iconst (v := 1) hx hb d_Stack_isOne_208 (by decide) ?_
    exact j_zret F hr (by decide +kernel) hlocks hK hS () (show (1 : Int32).toInt = 0 ∨ (1 : Int32).toInt = 1 by have := tI_1; omega) hP hD d_Stack_isOne_209
  by_cases h_119_1 : p1.toInt = 119
  · refine lv_tableIn (off := 143) (tgt := 144) hx hb d_Stack_isOne_1 (by omega) (by omega) (by rw [show p1.toInt = 119 from h_119_1]; decide +kernel) (by decide) ?_
    refine lv_iload_n hx hb d_Stack_isOne_144 rfl (lv_at hl 0 rfl) ?_
    refine lv_bipush (v := 7) hx hb d_Stack_isOne_145 (by decide) ?_
    refine lv_iand hx hb d_Stack_isOne_147 ?_
    refine lv_topi (fun x2 ex2 => ?_)
    have rx2 := zt_rng x2
    refine lv_iconst (v := 3) hx hb d_Stack_isOne_148 (by decide) ?_
    refine lv_icmp_ne (tgt := 156) hx hb d_Stack_isOne_149 (by decide) (fun c149_1 => ?_) (fun c149_1 => ?_)
    · first | have fc149_1 : x2.toInt < 3 := (by have := zt_ne (show x2.toInt = _ from rfl) tI_3 c149_1; omega) | have fc149_1 : 3 < x2.toInt := (by have := zt_ne (show x2.toInt = _ from rfl) tI_3 c149_1; omega) | skip
      refine lv_iconst (v := 0) hx hb d_Stack_isOne_156 (by decide) ?_
      exact j_zret F hr (by decide +kernel) hlocks hK hS () (show (0 : Int32).toInt = 0 ∨ (0 : Int32).toInt = 1 by have := tI_0; omega) hP hD d_Stack_isOne_157
    · have fc149_1 : x2.toInt = 3 := zt_eq (show x2.toInt = _ from rfl) tI_3 c149_1
      refine lv_iconst (v := 1) hx hb d_Stack_isOne_152 (by decide) ?_
      refine lv_goto (tgt := 157) hx hb d_Stack_isOne_153 (by decide) ?_
      exact j_zret F hr (by decide +kernel) hlocks hK hS () (show (1 : Int32).toInt = 0 ∨ (1 : Int32).toInt = 1 by have := tI_1; omega) hP hD d_Stack_isOne_157
  refine lv_tableOut (tgt := 208) hx hb d_Stack_isOne_1 (by omega) (by decide) ?_
  refine lv_iconst (v := 1) hx hb d_Stack_isOne_208 (by decide) ?_
  exact j_zret F hr (by decide +kernel) hlocks hK hS () (show (1 : Int32).toInt = 0 ∨ (1 : Int32).toInt = 1 by have := tI_1; omega) hP hD d_Stack_isOne_209
