theorem d_Lw_number_0 : decode method_5_code 0 = .ok (.aload_n 2, 1) := by decide +kernel
theorem d_Lw_number_1 : decode method_5_code 1 = .ok (.iconst 0, 1) := by decide +kernel
theorem d_Lw_number_2 : decode method_5_code 2 = .ok (.aload_n 0, 1) := by decide +kernel
theorem d_Lw_number_3 : decode method_5_code 3 = .ok (.iload_n 1, 1) := by decide +kernel
theorem k_6_56 : Cond.code ⟨"PageScribe", "number", "(I)I"⟩ prog_1_method_9_code 3 (some .int) ∈ gw := gw_of (tb_6 (List.mem_of_getElem? (i := 56) (by decide +kernel))) (by decide +kernel)
theorem k_6_53 : Cond.methodLink "PageScribeLaw" 20 ⟨"PageScribe", "number", "(I)I"⟩ ∈ gw := gw_of (tb_6 (List.mem_of_getElem? (i := 53) (by decide +kernel))) (by decide +kernel)
theorem k_6_54 : Cond.instanceMethod ⟨"PageScribe", "number", "(I)I"⟩ ∈ gw := gw_of (tb_6 (List.mem_of_getElem? (i := 54) (by decide +kernel))) (by decide +kernel)
theorem k_6_55 : Cond.selects "PageScribe" ⟨"PageScribe", "number", "(I)I"⟩ ⟨"PageScribe", "number", "(I)I"⟩ ∈ gw := gw_of (tb_6 (List.mem_of_getElem? (i := 55) (by decide +kernel))) (by decide +kernel)
theorem d_Lw_number_4 : decode method_5_code 4 = .ok (.invokevirtual 20, 3) := by decide +kernel
theorem d_Lw_number_12 : decode method_5_code 12 = .ok (.astore_n 3, 1) := by decide +kernel
theorem d_Lw_number_13 : decode method_5_code 13 = .ok (.iconst 1, 1) := by decide +kernel
theorem d_Lw_number_14 : decode method_5_code 14 = .ok (.ireturn, 1) := by decide +kernel
theorem k_6_52 : Cond.classLink "PageScribeLaw" 23 "java/lang/IllegalStateException" ∈ gw := gw_of (tb_6 (List.mem_of_getElem? (i := 52) (by decide +kernel))) (by decide +kernel)
theorem d_Lw_number_15 : decode method_5_code 15 = .ok (.astore_n 3, 1) := by decide +kernel
theorem d_Lw_number_16 : decode method_5_code 16 = .ok (.iconst 2, 1) := by decide +kernel
theorem d_Lw_number_17 : decode method_5_code 17 = .ok (.ireturn, 1) := by decide +kernel
theorem d_Lw_number_7 : decode method_5_code 7 = .ok (.i2l, 1) := by decide +kernel
theorem d_Lw_number_8 : decode method_5_code 8 = .ok (.lastore, 1) := by decide +kernel
theorem d_Lw_number_9 : decode method_5_code 9 = .ok (.goto 9, 3) := by decide +kernel
theorem d_Lw_number_18 : decode method_5_code 18 = .ok (.iconst 0, 1) := by decide +kernel
theorem d_Lw_number_19 : decode method_5_code 19 = .ok (.ireturn, 1) := by decide +kernel
set_option maxHeartbeats 4000000 in
set_option maxRecDepth 100000 in
theorem h_number (l : Launch) (hfl : l.flags = flags0) (D : va_G) (T : Nat → ClassId) (ad : Nat → Nat) (g : GE) (Bq : Nat → Prop) (S : CS) (ou : Nat) (f : Nat → Int64) (p0 : Int32) (q1 q2 : Nat) (sz : Nat) (hI : CIv S) (hou : Bq ou) : Met l ⟨"PageScribeLaw", "number", "(LPageScribe;I[J)I"⟩ (wyH ⟨"PageScribeLaw", "number", "(LPageScribe;I[J)I"⟩ method_5_code 4 (some .int) [(0, 9, 12, 18), (0, 9, 15, 23)]) ({ frames := 7, cells := 1, slots := 6, locals := 490 }) (va_Pc [.ref (ad 0), .int p0, .ref ou] (Pw D T (xW T ad S (oJ T ou f)) sz (fun U => EC g Bq ad U ∧ EY 129 "there is no such VALUE" q1 U ∧ EY 141 "a REAL has no number" q2 U ∧ NCi U))) (va_Qi (fun (_ : Int32) (u : CS × (Nat → Int64)) => CIv u.1 ∧ f_xr_length u.1 = f_xr_length S) (fun u t => Bw D T (va_A (xW T ad S (oJ T ou f)) sz) (xW T ad u.1 (oJ T ou u.2)) t) (va_A (xW T ad S (oJ T ou f)) sz)) 1 6 (va_A (xW T ad S (oJ T ou f)) sz) := by
  refine j_metW2 (y := ⟨"PageScribeLaw", "number", "(LPageScribe;I[J)I"⟩) (b := method_5_code) (n := 4) (ret := (some .int)) (hh := [(0, 9, 12, 18), (0, 9, 15, 23)]) (av := [.ref (ad 0), .int p0, .ref ou]) (Qc := fun A => va_Qi (fun (_ : Int32) (u : CS × (Nat → Int64)) => CIv u.1 ∧ f_xr_length u.1 = f_xr_length S) (fun u t => Bw D T A (xW T ad u.1 (oJ T ou u.2)) t) A) (by decide +kernel) (Nat.le_of_ble_eq_true rfl) (fun p e s m args below meth c A ls F hr hlocks htab hK hP hD hS hA hA2 hSt hE hl => ?_)
  obtain ⟨hx, hb, hml, hown, hts⟩ := id F
  have hl : lv_has ls 4 [(0, .ref (ad 0)), (1, .int p0), (2, .ref ou)] := hl
  have hAB : ∀ q, A q → Bq q := fun q h => xW_ab hE.1 hou (hA2 q h)
  refine lv_aload_n hx hb d_Lw_number_0 rfl (lv_at hl 2 rfl) ?_
  refine lv_iconst (v := 0) hx hb d_Lw_number_1 (by decide) ?_
  refine lv_aload_n hx hb d_Lw_number_2 rfl (lv_at hl 0 rfl) ?_
  refine lv_iload_n hx hb d_Lw_number_3 rfl (lv_at hl 1 rfl) ?_
  by_cases hv : ¬ (0 ≤ p0.toInt ∧ p0.toInt < (f_xst_z S).toInt)
  · refine j_catch (wc := []) (wr := xW T ad S (oJ T ou f)) (hpc := 12) (rest := [.int 0, .ref ou]) (As := [.int p0]) F hP hD hS hA [] csx rfl csx_all csx_nd (fun _ _ => List.not_mem_nil) (t_Ps_number l D T ad S p0 q1 s.heap.size hv hfl).wk (j_cV (k := 1) (C := "PageScribe") hts k_6_56 k_1_1 k_6_53 k_6_54 k_6_55 (by decide +kernel) ⟨Nat.le_of_ble_eq_true rfl, Nat.le_of_ble_eq_true rfl⟩) (j_preV (q0 := 1) (ci := 10) hK hP hD csd csd_all csd_nd rfl (cx_0.trans (ce_0 _ _ _)) (fun _ _ _ _ h => EY.calling h) (fun U hU hW => EY.at hS hSt hU hW hE.2.1)) rfl hl.1 (Nat.le_of_ble_eq_true rfl) d_Lw_number_4 ⟨Nat.le_of_ble_eq_true rfl, Nat.le_of_ble_eq_true rfl⟩ ⟨0, 9, 12, 18⟩ [⟨0, 9, 15, 23⟩] htab (by decide) (by decide) k_6_28 rfl (fun x H locs hP hD hS => ?_)
    refine lv_astore_n (lv' := [(3, .ref x), (0, .ref (ad 0)), (1, .int p0), (2, .ref ou)]) hx hb d_Lw_number_12 rfl hl (by decide) rfl (fun ls hl => ?_)
    refine lv_iconst (v := 1) hx hb d_Lw_number_13 (by decide) ?_
    refine W.widen (k := 1) (n := 6) (Nat.le_of_ble_eq_true rfl) (Nat.le_of_ble_eq_true rfl) ?_
    exact j_iret (w1 := fun (u : CS × (Nat → Int64)) => xW T ad u.1 (oJ T ou u.2)) F hr hlocks hK hS (S, f) ⟨hI, rfl⟩ hP hD d_Lw_number_14
  by_cases hk : (kDn S p0 &&& 7).toInt = 1
  · refine j_catch2 (wc := []) (wr := xW T ad S (oJ T ou f)) (hpc := 15) (rest := [.int 0, .ref ou]) (As := [.int p0]) F hP hD hS hA [] csx rfl csx_all csx_nd (fun _ _ => List.not_mem_nil) (t_Ps_number2 l D T ad S p0 q2 s.heap.size (Classical.not_not.mp hv) hk hfl).wk (j_cV (k := 1) (C := "PageScribe") hts k_6_56 k_1_1 k_6_53 k_6_54 k_6_55 (by decide +kernel) ⟨Nat.le_of_ble_eq_true rfl, Nat.le_of_ble_eq_true rfl⟩) (j_preV (q0 := 1) (ci := 10) hK hP hD csd csd_all csd_nd rfl (cx_0.trans (ce_0 _ _ _)) (fun _ _ _ _ h => EY.calling h) (fun U hU hW => EY.at hS hSt hU hW hE.2.2.1)) rfl hl.1 (Nat.le_of_ble_eq_true rfl) d_Lw_number_4 ⟨Nat.le_of_ble_eq_true rfl, Nat.le_of_ble_eq_true rfl⟩ ⟨0, 9, 12, 18⟩ ⟨0, 9, 15, 23⟩ [] htab (by decide) (by decide) k_6_28 hE.2.2.2 (by decide) (by decide) k_6_52 rfl (fun x H locs hP hD hS => ?_)
    refine lv_astore_n (lv' := [(3, .ref x), (0, .ref (ad 0)), (1, .int p0), (2, .ref ou)]) hx hb d_Lw_number_15 rfl hl (by decide) rfl (fun ls hl => ?_)
    refine lv_iconst (v := 2) hx hb d_Lw_number_16 (by decide) ?_
    refine W.widen (k := 1) (n := 6) (Nat.le_of_ble_eq_true rfl) (Nat.le_of_ble_eq_true rfl) ?_
    exact j_iret (w1 := fun (u : CS × (Nat → Int64)) => xW T ad u.1 (oJ T ou u.2)) F hr hlocks hK hS (S, f) ⟨hI, rfl⟩ hP hD d_Lw_number_17
  refine jx_ci (w := (fun _ => S)) hK hP hD hS hA (va_runV (As := [.int p0]) (rest := [.int 0, .ref ou]) F (n_Ps_number l D T ad g Bq S p0 s.heap.size hI (Classical.not_not.mp hv) hk) (j_cV (k := 1) (C := "PageScribe") hts k_6_56 k_1_1 k_6_53 k_6_54 k_6_55 (by decide +kernel) ⟨Nat.le_of_ble_eq_true rfl, Nat.le_of_ble_eq_true rfl⟩) (j_preV (q0 := 1) (ci := 10) hK hP hD csd csd_all csd_nd rfl (cx_0.trans (ce_0 _ _ _)) (fun _ _ _ _ h => EC.calling h) (fun U hU hW => EC.at hS hAB hU hW hE.1)) rfl rfl hl.1 rfl (lv_room (Nat.le_of_ble_eq_true rfl)) d_Lw_number_4 ⟨Nat.le_of_ble_eq_true rfl, Nat.le_of_ble_eq_true rfl⟩) (fun r u H locs hw hP hD hS => ?_)
  refine lv_i2l (v := r.toInt64) hx hb d_Lw_number_7 rfl ?_
  refine va_last hx hb hK hP hD hS 0 1 rfl rfl (by unfold vp_in; decide +kernel) d_Lw_number_8 (fun H locs hP hD hS => ?_)
  have hP : va_P D classes (xW T ad S (oJ T ou (vp_updL f (0 : Int32).toNatClampNeg (r.toInt64)))) H := hP
  have hD : va_D A (xW T ad S (oJ T ou (vp_updL f (0 : Int32).toNatClampNeg (r.toInt64)))) := hD
  refine lv_goto (tgt := 18) hx hb d_Lw_number_9 (by decide) ?_
  refine lv_iconst (v := 0) hx hb d_Lw_number_18 (by decide) ?_
  refine W.widen (k := 1) (n := 6) (Nat.le_of_ble_eq_true rfl) (Nat.le_of_ble_eq_true rfl) ?_
  exact j_iret (w1 := fun (u : CS × (Nat → Int64)) => xW T ad u.1 (oJ T ou u.2)) F hr hlocks hK hS (S, vp_updL f (0 : Int32).toNatClampNeg (r.toInt64)) ⟨hI, rfl⟩ hP hD d_Lw_number_19
theorem d_Lw_real_0 : decode method_6_code 0 = .ok (.aload_n 2, 1) := by decide +kernel
theorem d_Lw_real_1 : decode method_6_code 1 = .ok (.iconst 0, 1) := by decide +kernel
theorem d_Lw_real_2 : decode method_6_code 2 = .ok (.aload_n 0, 1) := by decide +kernel
theorem d_Lw_real_3 : decode method_6_code 3 = .ok (.iload_n 1, 1) := by decide +kernel
theorem k_6_81 : Cond.code ⟨"PageScribe", "real", "(I)D"⟩ prog_1_method_10_code 2 (some .double) ∈ gw := gw_of (tb_6 (List.mem_of_getElem? (i := 81) (by decide +kernel))) (by decide +kernel)
theorem k_6_78 : Cond.methodLink "PageScribeLaw" 25 ⟨"PageScribe", "real", "(I)D"⟩ ∈ gw := gw_of (tb_6 (List.mem_of_getElem? (i := 78) (by decide +kernel))) (by decide +kernel)
theorem k_6_79 : Cond.instanceMethod ⟨"PageScribe", "real", "(I)D"⟩ ∈ gw := gw_of (tb_6 (List.mem_of_getElem? (i := 79) (by decide +kernel))) (by decide +kernel)
theorem k_6_80 : Cond.selects "PageScribe" ⟨"PageScribe", "real", "(I)D"⟩ ⟨"PageScribe", "real", "(I)D"⟩ ∈ gw := gw_of (tb_6 (List.mem_of_getElem? (i := 80) (by decide +kernel))) (by decide +kernel)
theorem d_Lw_real_4 : decode method_6_code 4 = .ok (.invokevirtual 25, 3) := by decide +kernel
theorem d_Lw_real_11 : decode method_6_code 11 = .ok (.astore_n 3, 1) := by decide +kernel
theorem d_Lw_real_12 : decode method_6_code 12 = .ok (.iconst 1, 1) := by decide +kernel
theorem d_Lw_real_13 : decode method_6_code 13 = .ok (.ireturn, 1) := by decide +kernel
theorem d_Lw_real_14 : decode method_6_code 14 = .ok (.astore_n 3, 1) := by decide +kernel
theorem d_Lw_real_15 : decode method_6_code 15 = .ok (.iconst 2, 1) := by decide +kernel
theorem d_Lw_real_16 : decode method_6_code 16 = .ok (.ireturn, 1) := by decide +kernel
theorem d_Lw_real_7 : decode method_6_code 7 = .ok (.dastore, 1) := by decide +kernel
theorem d_Lw_real_8 : decode method_6_code 8 = .ok (.goto 9, 3) := by decide +kernel
theorem d_Lw_real_17 : decode method_6_code 17 = .ok (.iconst 0, 1) := by decide +kernel
theorem d_Lw_real_18 : decode method_6_code 18 = .ok (.ireturn, 1) := by decide +kernel
set_option maxHeartbeats 4000000 in
set_option maxRecDepth 100000 in
theorem h_real (l : Launch) (hfl : l.flags = flags0) (D : va_G) (T : Nat → ClassId) (ad : Nat → Nat) (g : GE) (Bq : Nat → Prop) (S : CS) (ou : Nat) (f : Nat → UInt64) (p0 : Int32) (q1 q2 : Nat) (sz : Nat) (hI : CIv S) (hou : Bq ou) : Met l ⟨"PageScribeLaw", "real", "(LPageScribe;I[D)I"⟩ (wyH ⟨"PageScribeLaw", "real", "(LPageScribe;I[D)I"⟩ method_6_code 4 (some .int) [(0, 8, 11, 18), (0, 8, 14, 23)]) ({ frames := 7, cells := 1, slots := 6, locals := 490 }) (va_Pc [.ref (ad 0), .int p0, .ref ou] (Pw D T (xW T ad S (oD T ou f)) sz (fun U => EC g Bq ad U ∧ EY 129 "there is no such VALUE" q1 U ∧ EY 148 "no number" q2 U ∧ NCi U))) (va_Qi (fun (_ : Int32) (u : CS × (Nat → UInt64)) => CIv u.1 ∧ f_xr_length u.1 = f_xr_length S) (fun u t => Bw D T (va_A (xW T ad S (oD T ou f)) sz) (xW T ad u.1 (oD T ou u.2)) t) (va_A (xW T ad S (oD T ou f)) sz)) 1 6 (va_A (xW T ad S (oD T ou f)) sz) := by
  refine j_metW2 (y := ⟨"PageScribeLaw", "real", "(LPageScribe;I[D)I"⟩) (b := method_6_code) (n := 4) (ret := (some .int)) (hh := [(0, 8, 11, 18), (0, 8, 14, 23)]) (av := [.ref (ad 0), .int p0, .ref ou]) (Qc := fun A => va_Qi (fun (_ : Int32) (u : CS × (Nat → UInt64)) => CIv u.1 ∧ f_xr_length u.1 = f_xr_length S) (fun u t => Bw D T A (xW T ad u.1 (oD T ou u.2)) t) A) (by decide +kernel) (Nat.le_of_ble_eq_true rfl) (fun p e s m args below meth c A ls F hr hlocks htab hK hP hD hS hA hA2 hSt hE hl => ?_)
  obtain ⟨hx, hb, hml, hown, hts⟩ := id F
  have hl : lv_has ls 4 [(0, .ref (ad 0)), (1, .int p0), (2, .ref ou)] := hl
  have hAB : ∀ q, A q → Bq q := fun q h => xW_ab hE.1 hou (hA2 q h)
  refine lv_aload_n hx hb d_Lw_real_0 rfl (lv_at hl 2 rfl) ?_
  refine lv_iconst (v := 0) hx hb d_Lw_real_1 (by decide) ?_
  refine lv_aload_n hx hb d_Lw_real_2 rfl (lv_at hl 0 rfl) ?_
  refine lv_iload_n hx hb d_Lw_real_3 rfl (lv_at hl 1 rfl) ?_
  by_cases hv : ¬ (0 ≤ p0.toInt ∧ p0.toInt < (f_xst_z S).toInt)
  · refine j_catch (wc := []) (wr := xW T ad S (oD T ou f)) (hpc := 11) (rest := [.int 0, .ref ou]) (As := [.int p0]) F hP hD hS hA [] csx rfl csx_all csx_nd (fun _ _ => List.not_mem_nil) (t_Ps_real l D T ad S p0 q1 s.heap.size hv hfl).wk (j_cV (k := 1) (C := "PageScribe") hts k_6_81 k_1_1 k_6_78 k_6_79 k_6_80 (by decide +kernel) ⟨Nat.le_of_ble_eq_true rfl, Nat.le_of_ble_eq_true rfl⟩) (j_preV (q0 := 1) (ci := 10) hK hP hD csd csd_all csd_nd rfl (cx_0.trans (ce_0 _ _ _)) (fun _ _ _ _ h => EY.calling h) (fun U hU hW => EY.at hS hSt hU hW hE.2.1)) rfl hl.1 (Nat.le_of_ble_eq_true rfl) d_Lw_real_4 ⟨Nat.le_of_ble_eq_true rfl, Nat.le_of_ble_eq_true rfl⟩ ⟨0, 8, 11, 18⟩ [⟨0, 8, 14, 23⟩] htab (by decide) (by decide) k_6_28 rfl (fun x H locs hP hD hS => ?_)
    refine lv_astore_n (lv' := [(3, .ref x), (0, .ref (ad 0)), (1, .int p0), (2, .ref ou)]) hx hb d_Lw_real_11 rfl hl (by decide) rfl (fun ls hl => ?_)
    refine lv_iconst (v := 1) hx hb d_Lw_real_12 (by decide) ?_
    refine W.widen (k := 1) (n := 6) (Nat.le_of_ble_eq_true rfl) (Nat.le_of_ble_eq_true rfl) ?_
    exact j_iret (w1 := fun (u : CS × (Nat → UInt64)) => xW T ad u.1 (oD T ou u.2)) F hr hlocks hK hS (S, f) ⟨hI, rfl⟩ hP hD d_Lw_real_13
  by_cases hk : 1 < (kDn S p0).toInt
  · refine j_catch2 (wc := []) (wr := xW T ad S (oD T ou f)) (hpc := 14) (rest := [.int 0, .ref ou]) (As := [.int p0]) F hP hD hS hA [] csx rfl csx_all csx_nd (fun _ _ => List.not_mem_nil) (t_Ps_real2 l D T ad S p0 q2 s.heap.size (Classical.not_not.mp hv) hk hfl).wk (j_cV (k := 1) (C := "PageScribe") hts k_6_81 k_1_1 k_6_78 k_6_79 k_6_80 (by decide +kernel) ⟨Nat.le_of_ble_eq_true rfl, Nat.le_of_ble_eq_true rfl⟩) (j_preV (q0 := 1) (ci := 10) hK hP hD csd csd_all csd_nd rfl (cx_0.trans (ce_0 _ _ _)) (fun _ _ _ _ h => EY.calling h) (fun U hU hW => EY.at hS hSt hU hW hE.2.2.1)) rfl hl.1 (Nat.le_of_ble_eq_true rfl) d_Lw_real_4 ⟨Nat.le_of_ble_eq_true rfl, Nat.le_of_ble_eq_true rfl⟩ ⟨0, 8, 11, 18⟩ ⟨0, 8, 14, 23⟩ [] htab (by decide) (by decide) k_6_28 hE.2.2.2 (by decide) (by decide) k_6_52 rfl (fun x H locs hP hD hS => ?_)
    refine lv_astore_n (lv' := [(3, .ref x), (0, .ref (ad 0)), (1, .int p0), (2, .ref ou)]) hx hb d_Lw_real_14 rfl hl (by decide) rfl (fun ls hl => ?_)
    refine lv_iconst (v := 2) hx hb d_Lw_real_15 (by decide) ?_
    refine W.widen (k := 1) (n := 6) (Nat.le_of_ble_eq_true rfl) (Nat.le_of_ble_eq_true rfl) ?_
    exact j_iret (w1 := fun (u : CS × (Nat → UInt64)) => xW T ad u.1 (oD T ou u.2)) F hr hlocks hK hS (S, f) ⟨hI, rfl⟩ hP hD d_Lw_real_16
  refine jx_cd (w := (fun _ => S)) hK hP hD hS hA (va_runV (As := [.int p0]) (rest := [.int 0, .ref ou]) F (n_Ps_real l D T ad S p0 s.heap.size hI (Classical.not_not.mp hv) hk) (j_cV (k := 1) (C := "PageScribe") hts k_6_81 k_1_1 k_6_78 k_6_79 k_6_80 (by decide +kernel) ⟨Nat.le_of_ble_eq_true rfl, Nat.le_of_ble_eq_true rfl⟩) (j_preV (q0 := 1) (ci := 10) hK hP hD csd csd_all csd_nd rfl (cx_0.trans (ce_0 _ _ _)) (fun _ _ _ _ h => h) (fun _ _ _ => trivial)) rfl rfl hl.1 rfl (lv_room (Nat.le_of_ble_eq_true rfl)) d_Lw_real_4 ⟨Nat.le_of_ble_eq_true rfl, Nat.le_of_ble_eq_true rfl⟩) (fun r u H locs hw hP hD hS => ?_)
  refine va_dast hx hb hK hP hD hS 0 3 rfl rfl (by unfold vp_in; decide +kernel) d_Lw_real_7 (fun H locs hP hD hS => ?_)
  have hP : va_P D classes (xW T ad S (oD T ou (vf_upd f (0 : Int32).toNatClampNeg r))) H := hP
  have hD : va_D A (xW T ad S (oD T ou (vf_upd f (0 : Int32).toNatClampNeg r))) := hD
  refine lv_goto (tgt := 17) hx hb d_Lw_real_8 (by decide) ?_
  refine lv_iconst (v := 0) hx hb d_Lw_real_17 (by decide) ?_
  refine W.widen (k := 1) (n := 6) (Nat.le_of_ble_eq_true rfl) (Nat.le_of_ble_eq_true rfl) ?_
  exact j_iret (w1 := fun (u : CS × (Nat → UInt64)) => xW T ad u.1 (oD T ou u.2)) F hr hlocks hK hS (S, vf_upd f (0 : Int32).toNatClampNeg r) ⟨hI, rfl⟩ hP hD d_Lw_real_18
