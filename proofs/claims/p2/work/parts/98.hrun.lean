theorem d_Lw_run_0 : decode method_3_code 0 = .ok (.aload_n 2, 1) := by decide +kernel
theorem d_Lw_run_1 : decode method_3_code 1 = .ok (.iconst 0, 1) := by decide +kernel
theorem d_Lw_run_2 : decode method_3_code 2 = .ok (.aload_n 0, 1) := by decide +kernel
theorem d_Lw_run_3 : decode method_3_code 3 = .ok (.iload_n 1, 1) := by decide +kernel
theorem k_2_229 : Cond.code ⟨"PageScribe", "run", "(I)I"⟩ prog_1_method_3_code 4 (some .int) ∈ gw := gw_of (tb_2 (List.mem_of_getElem? (i := 229) (by decide +kernel))) (by decide +kernel)
theorem k_2_226 : Cond.methodLink "PageScribeLaw" 7 ⟨"PageScribe", "run", "(I)I"⟩ ∈ gw := gw_of (tb_2 (List.mem_of_getElem? (i := 226) (by decide +kernel))) (by decide +kernel)
theorem k_2_227 : Cond.instanceMethod ⟨"PageScribe", "run", "(I)I"⟩ ∈ gw := gw_of (tb_2 (List.mem_of_getElem? (i := 227) (by decide +kernel))) (by decide +kernel)
theorem k_2_228 : Cond.selects "PageScribe" ⟨"PageScribe", "run", "(I)I"⟩ ⟨"PageScribe", "run", "(I)I"⟩ ∈ gw := gw_of (tb_2 (List.mem_of_getElem? (i := 228) (by decide +kernel))) (by decide +kernel)
theorem d_Lw_run_4 : decode method_3_code 4 = .ok (.invokevirtual 7, 3) := by decide +kernel
theorem k_2_225 : Cond.classLink "PageScribeLaw" 13 "java/lang/IllegalArgumentException" ∈ gw := gw_of (tb_2 (List.mem_of_getElem? (i := 225) (by decide +kernel))) (by decide +kernel)
theorem d_Lw_run_12 : decode method_3_code 12 = .ok (.astore_n 3, 1) := by decide +kernel
theorem d_Lw_run_13 : decode method_3_code 13 = .ok (.iconst 1, 1) := by decide +kernel
theorem d_Lw_run_14 : decode method_3_code 14 = .ok (.ireturn, 1) := by decide +kernel
theorem d_Lw_run_7 : decode method_3_code 7 = .ok (.i2l, 1) := by decide +kernel
theorem d_Lw_run_8 : decode method_3_code 8 = .ok (.lastore, 1) := by decide +kernel
theorem d_Lw_run_9 : decode method_3_code 9 = .ok (.goto 6, 3) := by decide +kernel
theorem d_Lw_run_15 : decode method_3_code 15 = .ok (.iconst 0, 1) := by decide +kernel
theorem d_Lw_run_16 : decode method_3_code 16 = .ok (.ireturn, 1) := by decide +kernel
set_option maxHeartbeats 4000000 in
set_option maxRecDepth 100000 in
theorem h_run (l : Launch) (hfl : l.flags = flags0) (D : va_G) (T : Nat → ClassId) (ad : Nat → Nat) (g : GE) (Bq : Nat → Prop) (S : CS) (ou : Nat) (f : Nat → Int64) (p0 : Int32) (q1 : Nat) (sz : Nat) (hI : CIv S) (hou : Bq ou) : Met l ⟨"PageScribeLaw", "run", "(LPageScribe;I[J)I"⟩ (wyH ⟨"PageScribeLaw", "run", "(LPageScribe;I[J)I"⟩ method_3_code 4 (some .int) [(0, 9, 12, 13)]) ({ frames := 93, cells := 1, slots := 6, locals := 6510 }) (va_Pc [.ref (ad 0), .int p0, .ref ou] (Pw D T (xW T ad S (oJ T ou f)) sz (fun U => EC g Bq ad U ∧ EY 69 "the fuel is not 1 to 500" q1 U))) (va_Qi (fun (_ : Int32) (u : CS × (Nat → Int64)) => CIv u.1 ∧ (1 ≤ p0.toInt ∧ p0.toInt ≤ 500 → (f_xr_length u.1).toInt = 0) ∧ (p0.toInt < 1 ∨ 500 < p0.toInt → f_xr_length u.1 = f_xr_length S)) (fun u t => Bw D T (va_A (xW T ad S (oJ T ou f)) sz) (xW T ad u.1 (oJ T ou u.2)) t) (va_A (xW T ad S (oJ T ou f)) sz)) 1 6 (va_A (xW T ad S (oJ T ou f)) sz) := by
  refine j_metW2 (y := ⟨"PageScribeLaw", "run", "(LPageScribe;I[J)I"⟩) (b := method_3_code) (n := 4) (ret := (some .int)) (hh := [(0, 9, 12, 13)]) (av := [.ref (ad 0), .int p0, .ref ou]) (Qc := fun A => va_Qi (fun (_ : Int32) (u : CS × (Nat → Int64)) => CIv u.1 ∧ (1 ≤ p0.toInt ∧ p0.toInt ≤ 500 → (f_xr_length u.1).toInt = 0) ∧ (p0.toInt < 1 ∨ 500 < p0.toInt → f_xr_length u.1 = f_xr_length S)) (fun u t => Bw D T A (xW T ad u.1 (oJ T ou u.2)) t) A) (by decide +kernel) (Nat.le_of_ble_eq_true rfl) (fun p e s m args below meth c A ls F hr hlocks htab hK hP hD hS hA hA2 hSt hE hl => ?_)
  obtain ⟨hx, hb, hml, hown, hts⟩ := id F
  have hl : lv_has ls 4 [(0, .ref (ad 0)), (1, .int p0), (2, .ref ou)] := hl
  have hAB : ∀ q, A q → Bq q := fun q h => xW_ab hE.1 hou (hA2 q h)
  refine lv_aload_n hx hb d_Lw_run_0 rfl (lv_at hl 2 rfl) ?_
  refine lv_iconst (v := 0) hx hb d_Lw_run_1 (by decide) ?_
  refine lv_aload_n hx hb d_Lw_run_2 rfl (lv_at hl 0 rfl) ?_
  refine lv_iload_n hx hb d_Lw_run_3 rfl (lv_at hl 1 rfl) ?_
  by_cases hv : p0.toInt < 1 ∨ 500 < p0.toInt
  · refine j_catch (wc := []) (wr := xW T ad S (oJ T ou f)) (hpc := 12) (rest := [.int 0, .ref ou]) (As := [.int p0]) F hP hD hS hA [] csx rfl csx_all csx_nd (fun _ _ => List.not_mem_nil) (t_Ps_run l D T ad S p0 q1 s.heap.size hv hfl).wk (j_cV (k := 1) (C := "PageScribe") hts k_2_229 k_1_1 k_2_226 k_2_227 k_2_228 (by decide +kernel) ⟨Nat.le_of_ble_eq_true rfl, Nat.le_of_ble_eq_true rfl⟩) (j_preV (q0 := 1) (ci := 10) hK hP hD csd csd_all csd_nd rfl (cx_0.trans (ce_0 _ _ _)) (fun _ _ _ _ h => EY.calling h) (fun U hU hW => EY.at hS hSt hU hW hE.2)) rfl hl.1 (Nat.le_of_ble_eq_true rfl) d_Lw_run_4 ⟨Nat.le_of_ble_eq_true rfl, Nat.le_of_ble_eq_true rfl⟩ ⟨0, 9, 12, 13⟩ [] htab (by decide) (by decide) k_2_225 rfl (fun x H locs hP hD hS => ?_)
    refine lv_astore_n (lv' := [(3, .ref x), (0, .ref (ad 0)), (1, .int p0), (2, .ref ou)]) hx hb d_Lw_run_12 rfl hl (by decide) rfl (fun ls hl => ?_)
    refine lv_iconst (v := 1) hx hb d_Lw_run_13 (by decide) ?_
    refine W.widen (k := 1) (n := 6) (Nat.le_of_ble_eq_true rfl) (Nat.le_of_ble_eq_true rfl) ?_
    exact j_iret (w1 := fun (u : CS × (Nat → Int64)) => xW T ad u.1 (oJ T ou u.2)) F hr hlocks hK hS (S, f) ⟨hI, fun q => by omega, fun _ => rfl⟩ hP hD d_Lw_run_14
  refine jx_ci (w := (fun u => u)) hK hP hD hS hA (va_runV (As := [.int p0]) (rest := [.int 0, .ref ou]) F (c_Ps_run l D T ad g Bq S p0 s.heap.size hI (by omega)) (j_cV (k := 1) (C := "PageScribe") hts k_2_229 k_1_1 k_2_226 k_2_227 k_2_228 (by decide +kernel) ⟨Nat.le_of_ble_eq_true rfl, Nat.le_of_ble_eq_true rfl⟩) (j_preV (q0 := 1) (ci := 10) hK hP hD csd csd_all csd_nd rfl (cx_0.trans (ce_0 _ _ _)) (fun _ _ _ _ h => EC.calling h) (fun U hU hW => EC.at hS hAB hU hW hE.1)) rfl rfl hl.1 rfl (lv_room (Nat.le_of_ble_eq_true rfl)) d_Lw_run_4 ⟨Nat.le_of_ble_eq_true rfl, Nat.le_of_ble_eq_true rfl⟩) (fun r u H locs hw hP hD hS => ?_)
  refine lv_i2l (v := r.toInt64) hx hb d_Lw_run_7 rfl ?_
  refine va_last hx hb hK hP hD hS 0 1 rfl rfl (by unfold vp_in; decide +kernel) d_Lw_run_8 (fun H locs hP hD hS => ?_)
  have hP : va_P D classes (xW T ad u (oJ T ou (vp_updL f (0 : Int32).toNatClampNeg (r.toInt64)))) H := hP
  have hD : va_D A (xW T ad u (oJ T ou (vp_updL f (0 : Int32).toNatClampNeg (r.toInt64)))) := hD
  refine lv_goto (tgt := 15) hx hb d_Lw_run_9 (by decide) ?_
  refine lv_iconst (v := 0) hx hb d_Lw_run_15 (by decide) ?_
  refine W.widen (k := 1) (n := 6) (Nat.le_of_ble_eq_true rfl) (Nat.le_of_ble_eq_true rfl) ?_
  exact j_iret (w1 := fun (u : CS × (Nat → Int64)) => xW T ad u.1 (oJ T ou u.2)) F hr hlocks hK hS (u, vp_updL f (0 : Int32).toNatClampNeg (r.toInt64)) ⟨hw.1, fun _ => hw.2, fun q => by omega⟩ hP hD d_Lw_run_16
theorem d_Lw_kind_0 : decode method_4_code 0 = .ok (.aload_n 2, 1) := by decide +kernel
theorem d_Lw_kind_1 : decode method_4_code 1 = .ok (.iconst 0, 1) := by decide +kernel
theorem d_Lw_kind_2 : decode method_4_code 2 = .ok (.aload_n 0, 1) := by decide +kernel
theorem d_Lw_kind_3 : decode method_4_code 3 = .ok (.iload_n 1, 1) := by decide +kernel
theorem k_6_32 : Cond.code ⟨"PageScribe", "kind", "(I)I"⟩ prog_1_method_8_code 2 (some .int) ∈ gw := gw_of (tb_6 (List.mem_of_getElem? (i := 32) (by decide +kernel))) (by decide +kernel)
theorem k_6_29 : Cond.methodLink "PageScribeLaw" 15 ⟨"PageScribe", "kind", "(I)I"⟩ ∈ gw := gw_of (tb_6 (List.mem_of_getElem? (i := 29) (by decide +kernel))) (by decide +kernel)
theorem k_6_30 : Cond.instanceMethod ⟨"PageScribe", "kind", "(I)I"⟩ ∈ gw := gw_of (tb_6 (List.mem_of_getElem? (i := 30) (by decide +kernel))) (by decide +kernel)
theorem k_6_31 : Cond.selects "PageScribe" ⟨"PageScribe", "kind", "(I)I"⟩ ⟨"PageScribe", "kind", "(I)I"⟩ ∈ gw := gw_of (tb_6 (List.mem_of_getElem? (i := 31) (by decide +kernel))) (by decide +kernel)
theorem d_Lw_kind_4 : decode method_4_code 4 = .ok (.invokevirtual 15, 3) := by decide +kernel
theorem k_6_28 : Cond.classLink "PageScribeLaw" 18 "java/lang/IndexOutOfBoundsException" ∈ gw := gw_of (tb_6 (List.mem_of_getElem? (i := 28) (by decide +kernel))) (by decide +kernel)
theorem d_Lw_kind_12 : decode method_4_code 12 = .ok (.astore_n 3, 1) := by decide +kernel
theorem d_Lw_kind_13 : decode method_4_code 13 = .ok (.iconst 1, 1) := by decide +kernel
theorem d_Lw_kind_14 : decode method_4_code 14 = .ok (.ireturn, 1) := by decide +kernel
theorem d_Lw_kind_7 : decode method_4_code 7 = .ok (.i2l, 1) := by decide +kernel
theorem d_Lw_kind_8 : decode method_4_code 8 = .ok (.lastore, 1) := by decide +kernel
theorem d_Lw_kind_9 : decode method_4_code 9 = .ok (.goto 6, 3) := by decide +kernel
theorem d_Lw_kind_15 : decode method_4_code 15 = .ok (.iconst 0, 1) := by decide +kernel
theorem d_Lw_kind_16 : decode method_4_code 16 = .ok (.ireturn, 1) := by decide +kernel
set_option maxHeartbeats 4000000 in
set_option maxRecDepth 100000 in
theorem h_kind (l : Launch) (hfl : l.flags = flags0) (D : va_G) (T : Nat → ClassId) (ad : Nat → Nat) (g : GE) (Bq : Nat → Prop) (S : CS) (ou : Nat) (f : Nat → Int64) (p0 : Int32) (q1 : Nat) (sz : Nat) (hI : CIv S) (hou : Bq ou) : Met l ⟨"PageScribeLaw", "kind", "(LPageScribe;I[J)I"⟩ (wyH ⟨"PageScribeLaw", "kind", "(LPageScribe;I[J)I"⟩ method_4_code 4 (some .int) [(0, 9, 12, 18)]) ({ frames := 7, cells := 1, slots := 6, locals := 490 }) (va_Pc [.ref (ad 0), .int p0, .ref ou] (Pw D T (xW T ad S (oJ T ou f)) sz (fun U => EC g Bq ad U ∧ EY 129 "there is no such VALUE" q1 U))) (va_Qi (fun (_ : Int32) (u : CS × (Nat → Int64)) => CIv u.1 ∧ f_xr_length u.1 = f_xr_length S) (fun u t => Bw D T (va_A (xW T ad S (oJ T ou f)) sz) (xW T ad u.1 (oJ T ou u.2)) t) (va_A (xW T ad S (oJ T ou f)) sz)) 1 6 (va_A (xW T ad S (oJ T ou f)) sz) := by
  refine j_metW2 (y := ⟨"PageScribeLaw", "kind", "(LPageScribe;I[J)I"⟩) (b := method_4_code) (n := 4) (ret := (some .int)) (hh := [(0, 9, 12, 18)]) (av := [.ref (ad 0), .int p0, .ref ou]) (Qc := fun A => va_Qi (fun (_ : Int32) (u : CS × (Nat → Int64)) => CIv u.1 ∧ f_xr_length u.1 = f_xr_length S) (fun u t => Bw D T A (xW T ad u.1 (oJ T ou u.2)) t) A) (by decide +kernel) (Nat.le_of_ble_eq_true rfl) (fun p e s m args below meth c A ls F hr hlocks htab hK hP hD hS hA hA2 hSt hE hl => ?_)
  obtain ⟨hx, hb, hml, hown, hts⟩ := id F
  have hl : lv_has ls 4 [(0, .ref (ad 0)), (1, .int p0), (2, .ref ou)] := hl
  have hAB : ∀ q, A q → Bq q := fun q h => xW_ab hE.1 hou (hA2 q h)
  refine lv_aload_n hx hb d_Lw_kind_0 rfl (lv_at hl 2 rfl) ?_
  refine lv_iconst (v := 0) hx hb d_Lw_kind_1 (by decide) ?_
  refine lv_aload_n hx hb d_Lw_kind_2 rfl (lv_at hl 0 rfl) ?_
  refine lv_iload_n hx hb d_Lw_kind_3 rfl (lv_at hl 1 rfl) ?_
  by_cases hv : ¬ (0 ≤ p0.toInt ∧ p0.toInt < (f_xst_z S).toInt)
  · refine j_catch (wc := []) (wr := xW T ad S (oJ T ou f)) (hpc := 12) (rest := [.int 0, .ref ou]) (As := [.int p0]) F hP hD hS hA [] csx rfl csx_all csx_nd (fun _ _ => List.not_mem_nil) (t_Ps_kind l D T ad S p0 q1 s.heap.size hv hfl).wk (j_cV (k := 1) (C := "PageScribe") hts k_6_32 k_1_1 k_6_29 k_6_30 k_6_31 (by decide +kernel) ⟨Nat.le_of_ble_eq_true rfl, Nat.le_of_ble_eq_true rfl⟩) (j_preV (q0 := 1) (ci := 10) hK hP hD csd csd_all csd_nd rfl (cx_0.trans (ce_0 _ _ _)) (fun _ _ _ _ h => EY.calling h) (fun U hU hW => EY.at hS hSt hU hW hE.2)) rfl hl.1 (Nat.le_of_ble_eq_true rfl) d_Lw_kind_4 ⟨Nat.le_of_ble_eq_true rfl, Nat.le_of_ble_eq_true rfl⟩ ⟨0, 9, 12, 18⟩ [] htab (by decide) (by decide) k_6_28 rfl (fun x H locs hP hD hS => ?_)
    refine lv_astore_n (lv' := [(3, .ref x), (0, .ref (ad 0)), (1, .int p0), (2, .ref ou)]) hx hb d_Lw_kind_12 rfl hl (by decide) rfl (fun ls hl => ?_)
    refine lv_iconst (v := 1) hx hb d_Lw_kind_13 (by decide) ?_
    refine W.widen (k := 1) (n := 6) (Nat.le_of_ble_eq_true rfl) (Nat.le_of_ble_eq_true rfl) ?_
    exact j_iret (w1 := fun (u : CS × (Nat → Int64)) => xW T ad u.1 (oJ T ou u.2)) F hr hlocks hK hS (S, f) ⟨hI, rfl⟩ hP hD d_Lw_kind_14
  refine jx_ci (w := (fun _ => S)) hK hP hD hS hA (va_runV (As := [.int p0]) (rest := [.int 0, .ref ou]) F (n_Ps_kind l D T ad S p0 s.heap.size (Classical.not_not.mp hv)) (j_cV (k := 1) (C := "PageScribe") hts k_6_32 k_1_1 k_6_29 k_6_30 k_6_31 (by decide +kernel) ⟨Nat.le_of_ble_eq_true rfl, Nat.le_of_ble_eq_true rfl⟩) (j_preV (q0 := 1) (ci := 10) hK hP hD csd csd_all csd_nd rfl (cx_0.trans (ce_0 _ _ _)) (fun _ _ _ _ h => h) (fun _ _ _ => trivial)) rfl rfl hl.1 rfl (lv_room (Nat.le_of_ble_eq_true rfl)) d_Lw_kind_4 ⟨Nat.le_of_ble_eq_true rfl, Nat.le_of_ble_eq_true rfl⟩) (fun r u H locs hw hP hD hS => ?_)
  refine lv_i2l (v := r.toInt64) hx hb d_Lw_kind_7 rfl ?_
  refine va_last hx hb hK hP hD hS 0 1 rfl rfl (by unfold vp_in; decide +kernel) d_Lw_kind_8 (fun H locs hP hD hS => ?_)
  have hP : va_P D classes (xW T ad S (oJ T ou (vp_updL f (0 : Int32).toNatClampNeg (r.toInt64)))) H := hP
  have hD : va_D A (xW T ad S (oJ T ou (vp_updL f (0 : Int32).toNatClampNeg (r.toInt64)))) := hD
  refine lv_goto (tgt := 15) hx hb d_Lw_kind_9 (by decide) ?_
  refine lv_iconst (v := 0) hx hb d_Lw_kind_15 (by decide) ?_
  refine W.widen (k := 1) (n := 6) (Nat.le_of_ble_eq_true rfl) (Nat.le_of_ble_eq_true rfl) ?_
  exact j_iret (w1 := fun (u : CS × (Nat → Int64)) => xW T ad u.1 (oJ T ou u.2)) F hr hlocks hK hS (S, vp_updL f (0 : Int32).toNatClampNeg (r.toInt64)) ⟨hI, rfl⟩ hP hD d_Lw_kind_16
