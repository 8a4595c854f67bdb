theorem d_Ps_kind_21 : decode prog_1_method_8_code 21 = .ok (.aload_n 0, 1) := by decide +kernel
theorem d_Ps_kind_22 : decode prog_1_method_8_code 22 = .ok (.getfield 12, 3) := by decide +kernel
theorem d_Ps_kind_25 : decode prog_1_method_8_code 25 = .ok (.iload_n 1, 1) := by decide +kernel
theorem d_Ps_kind_26 : decode prog_1_method_8_code 26 = .ok (.invokevirtual 132, 3) := by decide +kernel
theorem d_Ps_kind_29 : decode prog_1_method_8_code 29 = .ok (.ireturn, 1) := by decide +kernel
set_option maxHeartbeats 4000000 in
set_option maxRecDepth 100000 in
theorem n_Ps_kind (l : Launch) (D : va_G) (T : Nat → ClassId) (ad : Nat → Nat) (S : CS) (p0 : Int32) (sz : Nat)  (hv : 0 ≤ p0.toInt ∧ p0.toInt < (f_xst_z S).toInt) : Met l ⟨"PageScribe", "kind", "(I)I"⟩ (wy ⟨"PageScribe", "kind", "(I)I"⟩ prog_1_method_8_code 2 (some .int)) ({ frames := 2, cells := 0, slots := 0, locals := 140 }) (va_Pc [.ref (ad 0), .int p0] (Pw D T (cW T ad S) sz E0)) (va_Qi (fun (r : Int32) (u : Unit) => True) (fun u t => Bw D T (va_A (cW T ad S) sz) (cW T ad S) t) (va_A (cW T ad S) sz)) 0 0 (va_A (cW T ad S) sz) := by
  refine j_met (y := ⟨"PageScribe", "kind", "(I)I"⟩) (b := prog_1_method_8_code) (n := 2) (ret := (some .int)) (av := [.ref (ad 0), .int p0]) (Qc := fun A => va_Qi (fun (r : Int32) (u : Unit) => True) (fun u t => Bw D T A (cW T ad S) t) A) (by decide +kernel) (Nat.le_of_ble_eq_true rfl) (fun p e s m args below meth c A ls F hr hlocks hnm hK hP hD hS hA hN hE hl => ?_)
  obtain ⟨hx, hb, hml, hown, hts⟩ := id F
  have hl : lv_has ls 2 [(0, .ref (ad 0)), (1, .int p0)] := hl
  have rp0 := zt_rng p0
  refine lv_aload_n hx hb d_Ps_kind_0 rfl (lv_at hl 0 rfl) ?_
  refine va_get (D := D) (ci := 10) (v := .ref (ad 1)) (C := "PageScribe") (T := F_Ps) (N := 6) hx hb hts i_Ps hown hK hP 0 (ce_0 _ _ _) cl_10 0 (by decide) (hts _ k_2_58) (fun _ h9 => h9) rfl d_Ps_kind_1 ?_
  refine lv_iload_n hx hb d_Ps_kind_4 rfl (lv_at hl 1 rfl) ?_
  refine j_ciR hK hP hD hS hA hA (va_runV (As := [.int p0]) (rest := []) F (r_Stack_hasDown l D T ad S p0  s.heap.size) (j_cV (k := 1) (C := "PageScribe$Stack") hts k_2_116 k_1_3 k_2_113 k_2_114 k_2_115 (by decide +kernel) ⟨Nat.le_of_ble_eq_true rfl, Nat.le_of_ble_eq_true rfl⟩) (j_preV (q0 := 1) (ci := 0) hK hP hD csc csc_all csc_nd cl_0 (ce_1 _ _ _) (fun _ _ _ _ h => h) (fun _ _ _ => trivial)) rfl rfl hl.1 rfl (lv_room (Nat.le_of_ble_eq_true rfl)) d_Ps_kind_5 ⟨Nat.le_of_ble_eq_true rfl, Nat.le_of_ble_eq_true rfl⟩) (fun rv1 u1 H locs hw1 hP hD hS => ?_)
  have hP : va_P D classes (cW T ad S) H := hP
  have hD : va_D A (cW T ad S) := hD
  have qhw1 : (rv1.toInt = 1 ∧ 0 ≤ p0.toInt ∧ p0.toInt < (f_xst_z S).toInt) ∨ (rv1.toInt = 0 ∧ ¬ (0 ≤ p0.toInt ∧ p0.toInt < (f_xst_z S).toInt)) := hw1
  have rrv1 := zt_rng rv1
  refine lv_if_ne (tgt := 21) hx hb d_Ps_kind_8 (by decide) (fun c8_1 => ?_) (fun c8_1 => ?_)
  · first | have fc8_1 : rv1.toInt < 0 := (by have := zt_ne (show rv1.toInt = _ from rfl) tI_0 c8_1; omega) | have fc8_1 : 0 < rv1.toInt := (by have := zt_ne (show rv1.toInt = _ from rfl) tI_0 c8_1; omega) | skip
    refine lv_aload_n hx hb d_Ps_kind_21 rfl (lv_at hl 0 rfl) ?_
    refine va_get (D := D) (ci := 10) (v := .ref (ad 1)) (C := "PageScribe") (T := F_Ps) (N := 6) hx hb hts i_Ps hown hK hP 0 (ce_0 _ _ _) cl_10 0 (by decide) (hts _ k_2_58) (fun _ h9 => h9) rfl d_Ps_kind_22 ?_
    refine lv_iload_n hx hb d_Ps_kind_25 rfl (lv_at hl 1 rfl) ?_
    refine j_ciR hK hP hD hS hA hA (va_runV (As := [.int p0]) (rest := []) F (r_Stack_kindDown l D T ad S p0  H.size) (j_cV (k := 1) (C := "PageScribe$Stack") hts k_2_120 k_1_3 k_2_117 k_2_118 k_2_119 (by decide +kernel) ⟨Nat.le_of_ble_eq_true rfl, Nat.le_of_ble_eq_true rfl⟩) (j_preV (q0 := 1) (ci := 0) hK hP hD csc csc_all csc_nd cl_0 (ce_1 _ _ _) (fun _ _ _ _ h => h) (fun _ _ _ => trivial)) rfl rfl hl.1 rfl (lv_room (Nat.le_of_ble_eq_true rfl)) d_Ps_kind_26 ⟨Nat.le_of_ble_eq_true rfl, Nat.le_of_ble_eq_true rfl⟩) (fun rv2 u2 H locs hw2 hP hD hS => ?_)
    have hP : va_P D classes (cW T ad S) H := hP
    have hD : va_D A (cW T ad S) := hD
    have qhw2 : rv2 = kAt (a_xst_k S) ((f_xst_z S) - 1 - p0) := hw2
    have rrv2 := zt_rng rv2
    exact j_iret F hr hlocks hK hS () trivial hP hD d_Ps_kind_29
  · have fc8_1 : rv1.toInt = 0 := zt_eq (show rv1.toInt = _ from rfl) tI_0 c8_1
    exfalso; omega
theorem d_Ps_number_100 : decode prog_1_method_9_code 100 = .ok (.iload_n 2, 1) := by decide +kernel
theorem d_Ps_number_101 : decode prog_1_method_9_code 101 = .ok (.ireturn, 1) := by decide +kernel
theorem d_Ps_number_86 : decode prog_1_method_9_code 86 = .ok (.aload_n 0, 1) := by decide +kernel
theorem d_Ps_number_87 : decode prog_1_method_9_code 87 = .ok (.getfield 19, 3) := by decide +kernel
theorem d_Ps_number_90 : decode prog_1_method_9_code 90 = .ok (.iload_n 2, 1) := by decide +kernel
theorem d_Ps_number_91 : decode prog_1_method_9_code 91 = .ok (.invokevirtual 144, 3) := by decide +kernel
theorem k_6_73 : Cond.methodLink "PageScribe" 144 ⟨"PageScribe$Words", "lengthOf", "(I)I"⟩ ∈ gw := gw_of (tb_6 (List.mem_of_getElem? (i := 73) (by decide +kernel))) (by decide +kernel)
theorem d_Ps_number_94 : decode prog_1_method_9_code 94 = .ok (.ireturn, 1) := by decide +kernel
theorem d_Ps_number_95 : decode prog_1_method_9_code 95 = .ok (.iload_n 2, 1) := by decide +kernel
theorem d_Ps_number_96 : decode prog_1_method_9_code 96 = .ok (.invokestatic 147, 3) := by decide +kernel
theorem k_6_74 : Cond.methodLink "PageScribe" 147 ⟨"PageScribe", "lengthOf", "(I)I"⟩ ∈ gw := gw_of (tb_6 (List.mem_of_getElem? (i := 74) (by decide +kernel))) (by decide +kernel)
theorem d_Ps_number_99 : decode prog_1_method_9_code 99 = .ok (.ireturn, 1) := by decide +kernel
set_option maxHeartbeats 4000000 in
set_option maxRecDepth 100000 in
theorem n_Ps_number (l : Launch) (D : va_G) (T : Nat → ClassId) (ad : Nat → Nat) (g : GE) (Bq : Nat → Prop) (S : CS) (p0 : Int32) (sz : Nat)  (hI : CIv S) (hv : 0 ≤ p0.toInt ∧ p0.toInt < (f_xst_z S).toInt) (hk : ¬ (kDn S p0 &&& 7).toInt = 1) : Met l ⟨"PageScribe", "number", "(I)I"⟩ (wy ⟨"PageScribe", "number", "(I)I"⟩ prog_1_method_9_code 3 (some .int)) ({ frames := 3, cells := 0, slots := 0, locals := 210 }) (va_Pc [.ref (ad 0), .int p0] (Pw D T (cW T ad S) sz (EC g Bq ad))) (va_Qi (fun (r : Int32) (u : Unit) => True) (fun u t => Bw D T (va_A (cW T ad S) sz) (cW T ad S) t) (va_A (cW T ad S) sz)) 0 0 (va_A (cW T ad S) sz) := by
  refine j_met (y := ⟨"PageScribe", "number", "(I)I"⟩) (b := prog_1_method_9_code) (n := 3) (ret := (some .int)) (av := [.ref (ad 0), .int p0]) (Qc := fun A => va_Qi (fun (r : Int32) (u : Unit) => True) (fun u t => Bw D T A (cW T ad S) t) A) (by decide +kernel) (Nat.le_of_ble_eq_true rfl) (fun p e s m args below meth c A ls F hr hlocks hnm hK hP hD hS hA hN hE hl => ?_)
  obtain ⟨hx, hb, hml, hown, hts⟩ := id F
  have hl : lv_has ls 3 [(0, .ref (ad 0)), (1, .int p0)] := hl
  obtain ⟨i_vst, i_vc0, i_vc1, i_vc2, i_vc3, i_vv0, i_vv1, i_vv2, i_vv3, i_vg, i_wct, i_wln, i_sd0, i_sd1, i_sd2, i_sd3, i_rln, i_rtx, i_rpl, i_rtk, i_cnv, i_pts, i_cik, i_und⟩ := id hI
  have hAB : ∀ q, A q → Bq q := EC.ab hE hN
  have hEV := hE.1.narrow hAB
  have rp0 := zt_rng p0
  refine lv_aload_n hx hb d_Ps_number_0 rfl (lv_at hl 0 rfl) ?_
  refine va_get (D := D) (ci := 10) (v := .ref (ad 1)) (C := "PageScribe") (T := F_Ps) (N := 6) hx hb hts i_Ps hown hK hP 0 (ce_0 _ _ _) cl_10 0 (by decide) (hts _ k_2_58) (fun _ h9 => h9) rfl d_Ps_number_1 ?_
  refine lv_iload_n hx hb d_Ps_number_4 rfl (lv_at hl 1 rfl) ?_
  refine j_ciR hK hP hD hS hA hA (va_runV (As := [.int p0]) (rest := []) F (r_Stack_hasDown l D T ad S p0  s.heap.size) (j_cV (k := 1) (C := "PageScribe$Stack") hts k_2_116 k_1_3 k_2_113 k_2_114 k_2_115 (by decide +kernel) ⟨Nat.le_of_ble_eq_true rfl, Nat.le_of_ble_eq_true rfl⟩) (j_preV (q0 := 1) (ci := 0) hK hP hD csc csc_all csc_nd cl_0 (ce_1 _ _ _) (fun _ _ _ _ h => h) (fun _ _ _ => trivial)) rfl rfl hl.1 rfl (lv_room (Nat.le_of_ble_eq_true rfl)) d_Ps_number_5 ⟨Nat.le_of_ble_eq_true rfl, Nat.le_of_ble_eq_true rfl⟩) (fun rv1 u1 H locs hw1 hP hD hS => ?_)
  have hP : va_P D classes (cW T ad S) H := hP
  have hD : va_D A (cW T ad S) := hD
  have qhw1 : (rv1.toInt = 1 ∧ 0 ≤ p0.toInt ∧ p0.toInt < (f_xst_z S).toInt) ∨ (rv1.toInt = 0 ∧ ¬ (0 ≤ p0.toInt ∧ p0.toInt < (f_xst_z S).toInt)) := hw1
  have rrv1 := zt_rng rv1
  refine lv_if_ne (tgt := 21) hx hb d_Ps_number_8 (by decide) (fun c8_1 => ?_) (fun c8_1 => ?_)
  · first | have fc8_1 : rv1.toInt < 0 := (by have := zt_ne (show rv1.toInt = _ from rfl) tI_0 c8_1; omega) | have fc8_1 : 0 < rv1.toInt := (by have := zt_ne (show rv1.toInt = _ from rfl) tI_0 c8_1; omega) | skip
    refine lv_aload_n hx hb d_Ps_number_21 rfl (lv_at hl 0 rfl) ?_
    refine va_get (D := D) (ci := 10) (v := .ref (ad 1)) (C := "PageScribe") (T := F_Ps) (N := 6) hx hb hts i_Ps hown hK hP 0 (ce_0 _ _ _) cl_10 0 (by decide) (hts _ k_2_58) (fun _ h9 => h9) rfl d_Ps_number_22 ?_
    refine lv_iload_n hx hb d_Ps_number_25 rfl (lv_at hl 1 rfl) ?_
    refine j_ciR hK hP hD hS hA hA (va_runV (As := [.int p0]) (rest := []) F (r_Stack_numberDown l D T ad S p0  H.size) (j_cV (k := 1) (C := "PageScribe$Stack") hts k_2_130 k_1_3 k_2_127 k_2_128 k_2_129 (by decide +kernel) ⟨Nat.le_of_ble_eq_true rfl, Nat.le_of_ble_eq_true rfl⟩) (j_preV (q0 := 1) (ci := 0) hK hP hD csc csc_all csc_nd cl_0 (ce_1 _ _ _) (fun _ _ _ _ h => h) (fun _ _ _ => trivial)) rfl rfl hl.1 rfl (lv_room (Nat.le_of_ble_eq_true rfl)) d_Ps_number_26 ⟨Nat.le_of_ble_eq_true rfl, Nat.le_of_ble_eq_true rfl⟩) (fun rv2 u2 H locs hw2 hP hD hS => ?_)
    have hP : va_P D classes (cW T ad S) H := hP
    have hD : va_D A (cW T ad S) := hD
    have qhw2 : rv2 = kAt (a_xst_n S) ((f_xst_z S) - 1 - p0) := hw2
    have rrv2 := zt_rng rv2
    refine lv_istore_n (lv' := [(2, .int rv2), (0, .ref (ad 0)), (1, .int p0)]) hx hb d_Ps_number_29 rfl hl (by decide) rfl (fun ls hl => ?_)
    refine lv_aload_n hx hb d_Ps_number_30 rfl (lv_at hl 1 rfl) ?_
    refine va_get (D := D) (ci := 10) (v := .ref (ad 1)) (C := "PageScribe") (T := F_Ps) (N := 6) hx hb hts i_Ps hown hK hP 0 (ce_0 _ _ _) cl_10 0 (by decide) (hts _ k_2_58) (fun _ h9 => h9) rfl d_Ps_number_31 ?_
    refine lv_iload_n hx hb d_Ps_number_34 rfl (lv_at hl 2 rfl) ?_
    refine j_ciR hK hP hD hS hA hA (va_runV (As := [.int p0]) (rest := []) F (r_Stack_kindDown l D T ad S p0  H.size) (j_cV (k := 1) (C := "PageScribe$Stack") hts k_2_120 k_1_3 k_2_117 k_2_118 k_2_119 (by decide +kernel) ⟨Nat.le_of_ble_eq_true rfl, Nat.le_of_ble_eq_true rfl⟩) (j_preV (q0 := 1) (ci := 0) hK hP hD csc csc_all csc_nd cl_0 (ce_1 _ _ _) (fun _ _ _ _ h => h) (fun _ _ _ => trivial)) rfl rfl hl.1 rfl (lv_room (Nat.le_of_ble_eq_true rfl)) d_Ps_number_35 ⟨Nat.le_of_ble_eq_true rfl, Nat.le_of_ble_eq_true rfl⟩) (fun rv3 u3 H locs hw3 hP hD hS => ?_)
    have hP : va_P D classes (cW T ad S) H := hP
    have hD : va_D A (cW T ad S) := hD
    have qhw3 : rv3 = kAt (a_xst_k S) ((f_xst_z S) - 1 - p0) := hw3
    have rrv3 := zt_rng rv3
    refine lv_bipush (v := 7) hx hb d_Ps_number_38 (by decide) ?_
    refine lv_iand hx hb d_Ps_number_40 ?_
    refine lv_topi (fun x1 ex1 => ?_)
    have rx1 := zt_rng x1
    have fkx1 : x1 = kDn S p0 &&& 7 := by rw [ex1, qhw3]
    by_cases h_1_1 : x1.toInt = 1
    · refine lv_tableIn (off := 35) (tgt := 76) hx hb d_Ps_number_41 (by omega) (by omega) (by rw [show x1.toInt = 1 from h_1_1]; decide +kernel) (by decide) ?_
      exfalso; rw [← fkx1] at hk; omega
    by_cases h_2_1 : x1.toInt = 2
    · refine lv_tableIn (off := 59) (tgt := 100) hx hb d_Ps_number_41 (by omega) (by omega) (by rw [show x1.toInt = 2 from h_2_1]; decide +kernel) (by decide) ?_
      refine lv_iload_n hx hb d_Ps_number_100 rfl (lv_at hl 0 rfl) ?_
      exact j_iret F hr hlocks hK hS () trivial hP hD d_Ps_number_101
    by_cases h_3_1 : x1.toInt = 3
    · refine lv_tableIn (off := 45) (tgt := 86) hx hb d_Ps_number_41 (by omega) (by omega) (by rw [show x1.toInt = 3 from h_3_1]; decide +kernel) (by decide) ?_
      refine lv_aload_n hx hb d_Ps_number_86 rfl (lv_at hl 1 rfl) ?_
      refine va_get (D := D) (ci := 10) (v := .ref (ad 5)) (C := "PageScribe") (T := F_Ps) (N := 6) hx hb hts i_Ps hown hK hP 0 (ce_0 _ _ _) cl_10 1 (by decide) (hts _ k_2_59) (fun _ h9 => h9) rfl d_Ps_number_87 ?_
      refine lv_iload_n hx hb d_Ps_number_90 rfl (lv_at hl 0 rfl) ?_
      refine jc_ci (w := (fun _ => S)) hK hP hD hS hA (va_runV (As := [.int rv2]) (rest := []) F (c_Words_lengthOf l D T ad g Bq S rv2  H.size ⟨i_vst, i_vc0, i_vc1, i_vc2, i_vc3, i_vv0, i_vv1, i_vv2, i_vv3, i_vg, i_wct, i_wln, i_sd0, i_sd1, i_sd2, i_sd3, i_rln, i_rtx, i_rpl, i_rtk, i_cnv, i_pts, i_cik, i_und⟩) (j_cV (k := 1) (C := "PageScribe$Words") hts k_2_144 k_1_4 k_6_73 k_2_142 k_2_143 (by decide +kernel) ⟨Nat.le_of_ble_eq_true rfl, Nat.le_of_ble_eq_true rfl⟩) (j_preV (q0 := 5) (ci := 1) hK hP hD csc csc_all csc_nd cl_1 (ce_5 _ _ _) (fun _ _ _ _ h => EC.calling h) (fun U hU hW => EC.at hS hAB hU hW hE)) rfl rfl hl.1 rfl (lv_room (Nat.le_of_ble_eq_true rfl)) d_Ps_number_91 ⟨Nat.le_of_ble_eq_true rfl, Nat.le_of_ble_eq_true rfl⟩) (fun rv4 u4 H locs hw4 hP hD hS => ?_)
      have hP : va_P D classes (cW T ad S) H := hP
      have hD : va_D A (cW T ad S) := hD
      have qhw4 : rv4.toInt ≤ 0 ∨ (0 ≤ rv2.toInt ∧ rv2.toInt < 72 ∧ rv4.toInt = ((txL.getD rv2.toInt.toNat 0 : Nat) : Int)) ∨ (72 ≤ rv2.toInt ∧ rv2.toInt < 72 + (f_xw_count S).toInt ∧ rv4.toInt ≤ 8) := hw4
      have rrv4 := zt_rng rv4
      exact j_iret F hr hlocks hK hS () trivial hP hD d_Ps_number_94
    by_cases h_4_1 : x1.toInt = 4
    · refine lv_tableIn (off := 59) (tgt := 100) hx hb d_Ps_number_41 (by omega) (by omega) (by rw [show x1.toInt = 4 from h_4_1]; decide +kernel) (by decide) ?_
      refine lv_iload_n hx hb d_Ps_number_100 rfl (lv_at hl 0 rfl) ?_
      exact j_iret F hr hlocks hK hS () trivial hP hD d_Ps_number_101
    by_cases h_5_1 : x1.toInt = 5
    · refine lv_tableIn (off := 54) (tgt := 95) hx hb d_Ps_number_41 (by omega) (by omega) (by rw [show x1.toInt = 5 from h_5_1]; decide +kernel) (by decide) ?_
      refine lv_iload_n hx hb d_Ps_number_95 rfl (lv_at hl 0 rfl) ?_
      refine j_ci (wc := []) (wr := (cW T ad S)) hK hP hD hS hA [] csc rfl csc_all csc_nd (fun _ _ => List.not_mem_nil) (va_runS (As := [.int rv2]) (rest := []) F (c_Ps_lengthOf2 l D T rv2  H.size) (j_cS (k := 1) hts k_4_189 k_1_1 k_6_74 k_4_188 (by decide +kernel) ⟨Nat.le_of_ble_eq_true rfl, Nat.le_of_ble_eq_true rfl⟩) (j_preS hK hP hD [] rfl (by decide) (fun _ _ _ _ h => h) (fun _ _ _ => trivial)) rfl rfl hl.1 rfl (lv_room (Nat.le_of_ble_eq_true rfl)) d_Ps_number_96 ⟨Nat.le_of_ble_eq_true rfl, Nat.le_of_ble_eq_true rfl⟩) (fun rv5 u5 H locs hw5 hP hD hS => ?_)
      have hP : va_P D classes (cW T ad S) H := hP
      have hD : va_D A (cW T ad S) := hD
      have qhw5 : rv5.toInt < 256 := hw5
      have rrv5 := zt_rng rv5
      exact j_iret F hr hlocks hK hS () trivial hP hD d_Ps_number_99
    refine lv_tableOut (tgt := 100) hx hb d_Ps_number_41 (by omega) (by decide) ?_
    refine lv_iload_n hx hb d_Ps_number_100 rfl (lv_at hl 0 rfl) ?_
    exact j_iret F hr hlocks hK hS () trivial hP hD d_Ps_number_101
  · have fc8_1 : rv1.toInt = 0 := zt_eq (show rv1.toInt = _ from rfl) tI_0 c8_1
    exfalso; omega
theorem d_Ps_real_43 : decode prog_1_method_10_code 43 = .ok (.aload_n 0, 1) := by decide +kernel
theorem d_Ps_real_44 : decode prog_1_method_10_code 44 = .ok (.getfield 12, 3) := by decide +kernel
theorem d_Ps_real_47 : decode prog_1_method_10_code 47 = .ok (.iload_n 1, 1) := by decide +kernel
theorem d_Ps_real_48 : decode prog_1_method_10_code 48 = .ok (.invokevirtual 150, 3) := by decide +kernel
theorem k_6_83 : Cond.methodLink "PageScribe" 150 ⟨"PageScribe$Stack", "doubleDown", "(I)D"⟩ ∈ gw := gw_of (tb_6 (List.mem_of_getElem? (i := 83) (by decide +kernel))) (by decide +kernel)
theorem d_Ps_real_51 : decode prog_1_method_10_code 51 = .ok (.dreturn, 1) := by decide +kernel
set_option maxHeartbeats 4000000 in
set_option maxRecDepth 100000 in
theorem n_Ps_real (l : Launch) (D : va_G) (T : Nat → ClassId) (ad : Nat → Nat) (S : CS) (p0 : Int32) (sz : Nat)  (hI : CIv S) (hv : 0 ≤ p0.toInt ∧ p0.toInt < (f_xst_z S).toInt) (hk : ¬ 1 < (kDn S p0).toInt) : Met l ⟨"PageScribe", "real", "(I)D"⟩ (wy ⟨"PageScribe", "real", "(I)D"⟩ prog_1_method_10_code 2 (some .double)) ({ frames := 3, cells := 0, slots := 0, locals := 210 }) (va_Pc [.ref (ad 0), .int p0] (Pw D T (cW T ad S) sz E0)) (va_Qd (fun (r : UInt64) (u : Unit) => True) (fun u t => Bw D T (va_A (cW T ad S) sz) (cW T ad S) t) (va_A (cW T ad S) sz)) 0 0 (va_A (cW T ad S) sz) := by
  refine j_met (y := ⟨"PageScribe", "real", "(I)D"⟩) (b := prog_1_method_10_code) (n := 2) (ret := (some .double)) (av := [.ref (ad 0), .int p0]) (Qc := fun A => va_Qd (fun (r : UInt64) (u : Unit) => True) (fun u t => Bw D T A (cW T ad S) t) A) (by decide +kernel) (Nat.le_of_ble_eq_true rfl) (fun p e s m args below meth c A ls F hr hlocks hnm hK hP hD hS hA hN hE hl => ?_)
  obtain ⟨hx, hb, hml, hown, hts⟩ := id F
  have hl : lv_has ls 2 [(0, .ref (ad 0)), (1, .int p0)] := hl
  obtain ⟨i_vst, i_vc0, i_vc1, i_vc2, i_vc3, i_vv0, i_vv1, i_vv2, i_vv3, i_vg, i_wct, i_wln, i_sd0, i_sd1, i_sd2, i_sd3, i_rln, i_rtx, i_rpl, i_rtk, i_cnv, i_pts, i_cik, i_und⟩ := id hI
  have rp0 := zt_rng p0
  refine lv_aload_n hx hb d_Ps_real_0 rfl (lv_at hl 0 rfl) ?_
  refine va_get (D := D) (ci := 10) (v := .ref (ad 1)) (C := "PageScribe") (T := F_Ps) (N := 6) hx hb hts i_Ps hown hK hP 0 (ce_0 _ _ _) cl_10 0 (by decide) (hts _ k_2_58) (fun _ h9 => h9) rfl d_Ps_real_1 ?_
  refine lv_iload_n hx hb d_Ps_real_4 rfl (lv_at hl 1 rfl) ?_
  refine j_ciR hK hP hD hS hA hA (va_runV (As := [.int p0]) (rest := []) F (r_Stack_hasDown l D T ad S p0  s.heap.size) (j_cV (k := 1) (C := "PageScribe$Stack") hts k_2_116 k_1_3 k_2_113 k_2_114 k_2_115 (by decide +kernel) ⟨Nat.le_of_ble_eq_true rfl, Nat.le_of_ble_eq_true rfl⟩) (j_preV (q0 := 1) (ci := 0) hK hP hD csc csc_all csc_nd cl_0 (ce_1 _ _ _) (fun _ _ _ _ h => h) (fun _ _ _ => trivial)) rfl rfl hl.1 rfl (lv_room (Nat.le_of_ble_eq_true rfl)) d_Ps_real_5 ⟨Nat.le_of_ble_eq_true rfl, Nat.le_of_ble_eq_true rfl⟩) (fun rv1 u1 H locs hw1 hP hD hS => ?_)
  have hP : va_P D classes (cW T ad S) H := hP
  have hD : va_D A (cW T ad S) := hD
  have qhw1 : (rv1.toInt = 1 ∧ 0 ≤ p0.toInt ∧ p0.toInt < (f_xst_z S).toInt) ∨ (rv1.toInt = 0 ∧ ¬ (0 ≤ p0.toInt ∧ p0.toInt < (f_xst_z S).toInt)) := hw1
  have rrv1 := zt_rng rv1
  refine lv_if_ne (tgt := 21) hx hb d_Ps_real_8 (by decide) (fun c8_1 => ?_) (fun c8_1 => ?_)
  · first | have fc8_1 : rv1.toInt < 0 := (by have := zt_ne (show rv1.toInt = _ from rfl) tI_0 c8_1; omega) | have fc8_1 : 0 < rv1.toInt := (by have := zt_ne (show rv1.toInt = _ from rfl) tI_0 c8_1; omega) | skip
    refine lv_aload_n hx hb d_Ps_real_21 rfl (lv_at hl 0 rfl) ?_
    refine va_get (D := D) (ci := 10) (v := .ref (ad 1)) (C := "PageScribe") (T := F_Ps) (N := 6) hx hb hts i_Ps hown hK hP 0 (ce_0 _ _ _) cl_10 0 (by decide) (hts _ k_2_58) (fun _ h9 => h9) rfl d_Ps_real_22 ?_
    refine lv_iload_n hx hb d_Ps_real_25 rfl (lv_at hl 1 rfl) ?_
    refine j_ciR hK hP hD hS hA hA (va_runV (As := [.int p0]) (rest := []) F (r_Stack_kindDown l D T ad S p0  H.size) (j_cV (k := 1) (C := "PageScribe$Stack") hts k_2_120 k_1_3 k_2_117 k_2_118 k_2_119 (by decide +kernel) ⟨Nat.le_of_ble_eq_true rfl, Nat.le_of_ble_eq_true rfl⟩) (j_preV (q0 := 1) (ci := 0) hK hP hD csc csc_all csc_nd cl_0 (ce_1 _ _ _) (fun _ _ _ _ h => h) (fun _ _ _ => trivial)) rfl rfl hl.1 rfl (lv_room (Nat.le_of_ble_eq_true rfl)) d_Ps_real_26 ⟨Nat.le_of_ble_eq_true rfl, Nat.le_of_ble_eq_true rfl⟩) (fun rv2 u2 H locs hw2 hP hD hS => ?_)
    have hP : va_P D classes (cW T ad S) H := hP
    have hD : va_D A (cW T ad S) := hD
    have qhw2 : rv2 = kAt (a_xst_k S) ((f_xst_z S) - 1 - p0) := hw2
    have rrv2 := zt_rng rv2
    have fqrv2 : rv2.toInt = (kDn S p0).toInt := congrArg Int32.toInt qhw2
    refine lv_iconst (v := 1) hx hb d_Ps_real_29 (by decide) ?_
    refine lv_icmp_le (tgt := 43) hx hb d_Ps_real_30 (by decide) (fun c30_1 => ?_) (fun c30_1 => ?_)
    · have fc30_1 : rv2.toInt ≤ 1 := zt_le (show rv2.toInt = _ from rfl) tI_1 c30_1
      refine lv_aload_n hx hb d_Ps_real_43 rfl (lv_at hl 0 rfl) ?_
      refine va_get (D := D) (ci := 10) (v := .ref (ad 1)) (C := "PageScribe") (T := F_Ps) (N := 6) hx hb hts i_Ps hown hK hP 0 (ce_0 _ _ _) cl_10 0 (by decide) (hts _ k_2_58) (fun _ h9 => h9) rfl d_Ps_real_44 ?_
      refine lv_iload_n hx hb d_Ps_real_47 rfl (lv_at hl 1 rfl) ?_
      refine jc_cd (w := (fun _ => S)) hK hP hD hS hA (va_runV (As := [.int p0]) (rest := []) F (c_Stack_doubleDown l D T ad S p0  H.size ⟨i_vst, i_vc0, i_vc1, i_vc2, i_vc3, i_vv0, i_vv1, i_vv2, i_vv3, i_vg, i_wct, i_wln, i_sd0, i_sd1, i_sd2, i_sd3, i_rln, i_rtx, i_rpl, i_rtk, i_cnv, i_pts, i_cik, i_und⟩) (j_cV (k := 1) (C := "PageScribe$Stack") hts k_4_113 k_1_3 k_6_83 k_4_111 k_4_112 (by decide +kernel) ⟨Nat.le_of_ble_eq_true rfl, Nat.le_of_ble_eq_true rfl⟩) (j_preV (q0 := 1) (ci := 0) hK hP hD csc csc_all csc_nd cl_0 (ce_1 _ _ _) (fun _ _ _ _ h => h) (fun _ _ _ => trivial)) rfl rfl hl.1 rfl (lv_room (Nat.le_of_ble_eq_true rfl)) d_Ps_real_48 ⟨Nat.le_of_ble_eq_true rfl, Nat.le_of_ble_eq_true rfl⟩) (fun rv3 u3 H locs hw3 hP hD hS => ?_)
      have hP : va_P D classes (cW T ad S) H := hP
      have hD : va_D A (cW T ad S) := hD
      have qhw3 : dB rv3 := hw3
      exact j_dret F hr hlocks hK hS () trivial hP hD d_Ps_real_51
    · have fc30_1 : 1 < rv2.toInt := Int.not_le.mp (zt_nle (show rv2.toInt = _ from rfl) tI_1 c30_1)
      exfalso; omega
  · have fc8_1 : rv1.toInt = 0 := zt_eq (show rv1.toInt = _ from rfl) tI_0 c8_1
    exfalso; omega
