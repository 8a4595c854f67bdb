theorem zt_remB {x y : Int32} {b : Int} (hy : y.toInt = b) (h1 : 1 ≤ b) : (x - x / y * y).toInt < b := by
  have hb := x.toInt_lt
  have hb2 := x.le_toInt
  have hd : (x / y).toInt = x.toInt.tdiv b := by
    rw [Int32.toInt_div_of_ne_right _ _ (fun q => by rw [q] at hy; have : (-1 : Int32).toInt = -1 := by decide +kernel
                                                     omega), hy]
  by_cases h0 : 0 ≤ x.toInt
  · obtain ⟨m1, m2, m3, m4, m5⟩ := tdm h0 h1
    have hm := zt_mul hd hy rfl (by omega) (by omega)
    have hs := zt_sub (x := x) (a := x.toInt) rfl hm (by omega) (by omega)
    rw [hs]; omega
  · have e : x.toInt.tdiv b = -((-x.toInt).tdiv b) := by rw [Int.neg_tdiv, Int.neg_neg]
    obtain ⟨m1, m2, m3, m4, m5⟩ := tdm (a := -x.toInt) (b := b) (by omega) h1
    have e2 : x.toInt.tdiv b * b = -((-x.toInt).tdiv b * b) := by rw [e, Int.neg_mul]
    have hm := zt_mul hd hy rfl (by omega) (by omega)
    have hs := zt_sub (x := x) (a := x.toInt) rfl hm (by omega) (by omega)
    rw [hs, e2]; omega
theorem and7_11 {k x : Int32} (e : x = k &&& 7) (q : k.toInt = 11) : x.toInt = 3 := by
  have h : k = 11 := Int32.toInt_inj.mp (by rw [q]; decide +kernel)
  rw [e, h]
  decide +kernel
set_option maxHeartbeats 4000000 in
set_option maxRecDepth 100000 in
theorem c_Ps_lengthOf2 (l : Launch) (D : va_G) (T : Nat → ClassId) (p0 : Int32) (sz : Nat)  : Met l ⟨"PageScribe", "lengthOf", "(I)I"⟩ (wy ⟨"PageScribe", "lengthOf", "(I)I"⟩ prog_1_method_17_code 1 (some .int)) ({ frames := 0, cells := 0, slots := 0, locals := 0 }) (va_Pc [.int p0] (Pw D T [] sz E0)) (va_Qi (fun (r : Int32) (u : Unit) => r.toInt < 256) (fun u t => Bw D T (va_A [] sz) [] t) (va_A [] sz)) 0 0 (va_A [] sz) := by
  refine j_met (y := ⟨"PageScribe", "lengthOf", "(I)I"⟩) (b := prog_1_method_17_code) (n := 1) (ret := (some .int)) (av := [.int p0]) (Qc := fun A => va_Qi (fun (r : Int32) (u : Unit) => r.toInt < 256) (fun u t => Bw D T A [] t) A) (by decide +kernel) (Nat.le_of_ble_eq_true rfl) (fun p e s m args below meth c A ls F hr hlocks hnm hK hP hD hS hA hN hE hl => ?_)
  obtain ⟨hx, hb, hml, hown, hts⟩ := id F
  have hl : lv_has ls 1 [(0, .int p0)] := hl
  have rp0 := zt_rng p0
  refine lv_iload_n hx hb d_Ps_lengthOf_0 rfl (lv_at hl 0 rfl) ?_
  refine lv_sipush (v := 256) hx hb d_Ps_lengthOf_1 (by decide) ?_
  refine lv_irem hx hb d_Ps_lengthOf_4 (zt_n0 tI_256 (by omega)) ?_
  refine lv_topi (fun x1 ex1 => ?_)
  have rx1 := zt_rng x1
  have hlt := zt_remB (x := p0) tI_256 (by omega); rw [← ex1] at hlt
  exact j_iret F hr hlocks hK hS () (show x1.toInt < 256 by omega) hP hD d_Ps_lengthOf_5
theorem d_Engine_begin_0 : decode prog_4_method_2_code 0 = .ok (.aload_n 0, 1) := by decide +kernel
theorem d_Engine_begin_1 : decode prog_4_method_2_code 1 = .ok (.iload_n 1, 1) := by decide +kernel
theorem d_Engine_begin_2 : decode prog_4_method_2_code 2 = .ok (.putfield 9, 3) := by decide +kernel
theorem k_2_27 : Cond.fieldLink "PageScribe$Engine" 9 "PageScribe$Engine" "fuelGiven" "I" ∈ gw := gw_of (tb_2 (List.mem_of_getElem? (i := 27) (by decide +kernel))) (by decide +kernel)
theorem d_Engine_begin_5 : decode prog_4_method_2_code 5 = .ok (.aload_n 0, 1) := by decide +kernel
theorem d_Engine_begin_6 : decode prog_4_method_2_code 6 = .ok (.iconst 0, 1) := by decide +kernel
theorem d_Engine_begin_7 : decode prog_4_method_2_code 7 = .ok (.putfield 15, 3) := by decide +kernel
theorem k_2_28 : Cond.fieldLink "PageScribe$Engine" 15 "PageScribe$Engine" "stepsDone" "I" ∈ gw := gw_of (tb_2 (List.mem_of_getElem? (i := 28) (by decide +kernel))) (by decide +kernel)
theorem d_Engine_begin_10 : decode prog_4_method_2_code 10 = .ok (.return_, 1) := by decide +kernel
set_option maxHeartbeats 4000000 in
set_option maxRecDepth 100000 in
theorem c_Engine_begin (l : Launch) (D : va_G) (T : Nat → ClassId) (ad : Nat → Nat) (S : CS) (p0 : Int32) (sz : Nat)  (hI : CIv S) : Met l ⟨"PageScribe$Engine", "begin", "(I)V"⟩ (wy ⟨"PageScribe$Engine", "begin", "(I)V"⟩ prog_4_method_2_code 2 none) ({ frames := 0, cells := 0, slots := 0, locals := 0 }) (va_Pc [.ref (ad 72), .int p0] (Pw D T (cW T ad S) sz E0)) (va_Qv (fun (u : CS) => CIv u ∧ kcL S u ∧ kcP S u ∧ kcU S u ∧ kcW S u) (fun u t => Bw D T (va_A (cW T ad S) sz) (cW T ad u) t) (va_A (cW T ad S) sz)) 0 0 (va_A (cW T ad S) sz) := by
  refine j_met (y := ⟨"PageScribe$Engine", "begin", "(I)V"⟩) (b := prog_4_method_2_code) (n := 2) (ret := none) (av := [.ref (ad 72), .int p0]) (Qc := fun A => va_Qv (fun (u : CS) => CIv u ∧ kcL S u ∧ kcP S u ∧ kcU S u ∧ kcW S u) (fun u t => Bw D T A (cW T ad u) t) A) (by decide +kernel) (Nat.le_of_ble_eq_true rfl) (fun p e s m args below meth c A ls F hr hlocks hnm hK hP hD hS hA hN hE hl => ?_)
  obtain ⟨hx, hb, hml, hown, hts⟩ := id F
  have hl : lv_has ls 2 [(0, .ref (ad 72)), (1, .int p0)] := hl
  obtain ⟨i_vst, i_vc0, i_vc1, i_vc2, i_vc3, i_vv0, i_vv1, i_vv2, i_vv3, i_vg, i_wct, i_wln, i_sd0, i_sd1, i_sd2, i_sd3, i_rln, i_rtx, i_rpl, i_rtk, i_cnv, i_pts, i_cik, i_und⟩ := id hI
  have rp0 := zt_rng p0
  refine lv_aload_n hx hb d_Engine_begin_0 rfl (lv_at hl 0 rfl) ?_
  refine lv_iload_n hx hb d_Engine_begin_1 rfl (lv_at hl 1 rfl) ?_
  refine va_put (D := D) (ci := 7) (v := .int p0) (ty := .int) (C := "PageScribe$Engine") (T := F_Engine) (N := 11) hx hb hts i_Engine t_Engine t_Engine_ok n_Engine hown hK hP hD hS 72 (ce_72 _ _ _) cl_7 5 (by decide) (hts _ k_2_27) (fun _ h9 => h9) rfl (by decide +kernel) rfl rfl (Nat.le_of_ble_eq_true rfl) d_Engine_begin_2 (fun H locs hP hD hS => ?_)
  rw [cp_xe_fuelGiven] at hP hD
  have hP : va_P D classes (cW T ad ((S.1, S.2.1, S.2.2.1, S.2.2.2.1, S.2.2.2.2.1, S.2.2.2.2.2.1, S.2.2.2.2.2.2.1, S.2.2.2.2.2.2.2.1, (p0, (f_xe_stepsDone S), (f_xe_latestFault S), (f_xe_underWay S), (f_xe_reach S), (f_xe_loops S))) : CS)) H := hP
  have hD : va_D A (cW T ad ((S.1, S.2.1, S.2.2.1, S.2.2.2.1, S.2.2.2.2.1, S.2.2.2.2.2.1, S.2.2.2.2.2.2.1, S.2.2.2.2.2.2.2.1, (p0, (f_xe_stepsDone S), (f_xe_latestFault S), (f_xe_underWay S), (f_xe_reach S), (f_xe_loops S))) : CS)) := hD
  refine lv_aload_n hx hb d_Engine_begin_5 rfl (lv_at hl 0 rfl) ?_
  refine lv_iconst (v := 0) hx hb d_Engine_begin_6 (by decide) ?_
  refine va_put (D := D) (ci := 7) (v := .int 0) (ty := .int) (C := "PageScribe$Engine") (T := F_Engine) (N := 11) hx hb hts i_Engine t_Engine t_Engine_ok n_Engine hown hK hP hD hS 72 (ce_72 _ _ _) cl_7 6 (by decide) (hts _ k_2_28) (fun _ h9 => h9) rfl (by decide +kernel) rfl rfl (Nat.le_of_ble_eq_true rfl) d_Engine_begin_7 (fun H locs hP hD hS => ?_)
  rw [cp_xe_stepsDone] at hP hD
  have hP : va_P D classes (cW T ad ((S.1, S.2.1, S.2.2.1, S.2.2.2.1, S.2.2.2.2.1, S.2.2.2.2.2.1, S.2.2.2.2.2.2.1, S.2.2.2.2.2.2.2.1, (p0, 0, (f_xe_latestFault S), (f_xe_underWay S), (f_xe_reach S), (f_xe_loops S))) : CS)) H := hP
  have hD : va_D A (cW T ad ((S.1, S.2.1, S.2.2.1, S.2.2.2.1, S.2.2.2.2.1, S.2.2.2.2.2.1, S.2.2.2.2.2.2.1, S.2.2.2.2.2.2.2.1, (p0, 0, (f_xe_latestFault S), (f_xe_underWay S), (f_xe_reach S), (f_xe_loops S))) : CS)) := hD
  exact j_vret F hr hlocks hK hS ((S.1, S.2.1, S.2.2.1, S.2.2.2.1, S.2.2.2.2.1, S.2.2.2.2.2.1, S.2.2.2.2.2.2.1, S.2.2.2.2.2.2.2.1, (p0, 0, (f_xe_latestFault S), (f_xe_underWay S), (f_xe_reach S), (f_xe_loops S))) : CS) ⟨⟨i_vst, i_vc0, i_vc1, i_vc2, i_vc3, i_vv0, i_vv1, i_vv2, i_vv3, i_vg, i_wct, i_wln, i_sd0, i_sd1, i_sd2, i_sd3, i_rln, i_rtx, i_rpl, i_rtk, i_cnv, i_pts, i_cik, i_und⟩, (kcL_r S), (kcP_r S), (kcU_r S), (kcW_r S)⟩ hP hD d_Engine_begin_10
theorem d_Engine_note_0 : decode prog_4_method_3_code 0 = .ok (.aload_n 0, 1) := by decide +kernel
theorem d_Engine_note_13 : decode prog_4_method_3_code 13 = .ok (.putfield 18, 3) := by decide +kernel
theorem k_2_30 : Cond.fieldLink "PageScribe$Engine" 18 "PageScribe$Engine" "latestFault" "I" ∈ gw := gw_of (tb_2 (List.mem_of_getElem? (i := 30) (by decide +kernel))) (by decide +kernel)
theorem d_Engine_note_16 : decode prog_4_method_3_code 16 = .ok (.return_, 1) := by decide +kernel
theorem d_Engine_note_1 : decode prog_4_method_3_code 1 = .ok (.iload_n 1, 1) := by decide +kernel
theorem d_Engine_note_2 : decode prog_4_method_3_code 2 = .ok (.ifCond .ne 10, 3) := by decide +kernel
theorem d_Engine_note_12 : decode prog_4_method_3_code 12 = .ok (.iload_n 1, 1) := by decide +kernel
theorem d_Engine_note_5 : decode prog_4_method_3_code 5 = .ok (.aload_n 0, 1) := by decide +kernel
theorem d_Engine_note_6 : decode prog_4_method_3_code 6 = .ok (.getfield 18, 3) := by decide +kernel
theorem d_Engine_note_9 : decode prog_4_method_3_code 9 = .ok (.goto 4, 3) := by decide +kernel
set_option maxHeartbeats 4000000 in
set_option maxRecDepth 100000 in
theorem c_Engine_note (l : Launch) (D : va_G) (T : Nat → ClassId) (ad : Nat → Nat) (S : CS) (p0 : Int32) (sz : Nat)  (hI : CIv S) : Met l ⟨"PageScribe$Engine", "note", "(I)V"⟩ (wy ⟨"PageScribe$Engine", "note", "(I)V"⟩ prog_4_method_3_code 2 none) ({ frames := 0, cells := 0, slots := 0, locals := 0 }) (va_Pc [.ref (ad 72), .int p0] (Pw D T (cW T ad S) sz E0)) (va_Qv (fun (u : CS) => CIv u ∧ kcL S u ∧ kcP S u ∧ kcU S u ∧ kcW S u) (fun u t => Bw D T (va_A (cW T ad S) sz) (cW T ad u) t) (va_A (cW T ad S) sz)) 0 0 (va_A (cW T ad S) sz) := by
  refine j_met (y := ⟨"PageScribe$Engine", "note", "(I)V"⟩) (b := prog_4_method_3_code) (n := 2) (ret := none) (av := [.ref (ad 72), .int p0]) (Qc := fun A => va_Qv (fun (u : CS) => CIv u ∧ kcL S u ∧ kcP S u ∧ kcU S u ∧ kcW S u) (fun u t => Bw D T A (cW T ad u) t) A) (by decide +kernel) (Nat.le_of_ble_eq_true rfl) (fun p e s m args below meth c A ls F hr hlocks hnm hK hP hD hS hA hN hE hl => ?_)
  obtain ⟨hx, hb, hml, hown, hts⟩ := id F
  have hl : lv_has ls 2 [(0, .ref (ad 72)), (1, .int p0)] := hl
  obtain ⟨i_vst, i_vc0, i_vc1, i_vc2, i_vc3, i_vv0, i_vv1, i_vv2, i_vv3, i_vg, i_wct, i_wln, i_sd0, i_sd1, i_sd2, i_sd3, i_rln, i_rtx, i_rpl, i_rtk, i_cnv, i_pts, i_cik, i_und⟩ := id hI
  have rp0 := zt_rng p0
  refine lv_aload_n hx hb d_Engine_note_0 rfl (lv_at hl 0 rfl) ?_
  refine j_joinH (α := Int32) (fun x H locs ls => (True) ∧ va_P D classes (cW T ad S) H ∧ va_D A (cW T ad S) ∧ va_S A s.heap H locs ∧ lv_has ls 2 [(0, .ref (ad 72)), (1, .int p0)]) (fun x ls => F0 m 13 ls (.int x :: [.ref (ad 72)])) (fun x H locs ls hI9 => ?_) (fun key1 => ?_)
  · obtain ⟨j1, rfl⟩ : ∃ z, z = x := ⟨_, rfl⟩
    obtain ⟨hj1, hP, hD, hS, hl⟩ := hI9
    have hP : va_P D classes (cW T ad S) H := hP
    have hD : va_D A (cW T ad S) := hD
    have hl : lv_has ls 2 [(0, .ref (ad 72)), (1, .int p0)] := hl
    refine va_put (D := D) (ci := 7) (v := .int j1) (ty := .int) (C := "PageScribe$Engine") (T := F_Engine) (N := 11) hx hb hts i_Engine t_Engine t_Engine_ok n_Engine hown hK hP hD hS 72 (ce_72 _ _ _) cl_7 7 (by decide) (hts _ k_2_30) (fun _ h9 => h9) rfl (by decide +kernel) rfl rfl (Nat.le_of_ble_eq_true rfl) d_Engine_note_13 (fun H locs hP hD hS => ?_)
    rw [cp_xe_latestFault] at hP hD
    have hP : va_P D classes (cW T ad ((S.1, S.2.1, S.2.2.1, S.2.2.2.1, S.2.2.2.2.1, S.2.2.2.2.2.1, S.2.2.2.2.2.2.1, S.2.2.2.2.2.2.2.1, ((f_xe_fuelGiven S), (f_xe_stepsDone S), j1, (f_xe_underWay S), (f_xe_reach S), (f_xe_loops S))) : CS)) H := hP
    have hD : va_D A (cW T ad ((S.1, S.2.1, S.2.2.1, S.2.2.2.1, S.2.2.2.2.1, S.2.2.2.2.2.1, S.2.2.2.2.2.2.1, S.2.2.2.2.2.2.2.1, ((f_xe_fuelGiven S), (f_xe_stepsDone S), j1, (f_xe_underWay S), (f_xe_reach S), (f_xe_loops S))) : CS)) := hD
    exact j_vret F hr hlocks hK hS ((S.1, S.2.1, S.2.2.1, S.2.2.2.1, S.2.2.2.2.1, S.2.2.2.2.2.1, S.2.2.2.2.2.2.1, S.2.2.2.2.2.2.2.1, ((f_xe_fuelGiven S), (f_xe_stepsDone S), j1, (f_xe_underWay S), (f_xe_reach S), (f_xe_loops S))) : CS) ⟨⟨i_vst, i_vc0, i_vc1, i_vc2, i_vc3, i_vv0, i_vv1, i_vv2, i_vv3, i_vg, i_wct, i_wln, i_sd0, i_sd1, i_sd2, i_sd3, i_rln, i_rtx, i_rpl, i_rtk, i_cnv, i_pts, i_cik, i_und⟩, (kcL_r S), (kcP_r S), (kcU_r S), (kcW_r S)⟩ hP hD d_Engine_note_16
  · refine lv_iload_n hx hb d_Engine_note_1 rfl (lv_at hl 1 rfl) ?_
    refine lv_if_ne (tgt := 12) hx hb d_Engine_note_2 (by decide) (fun c2_1 => ?_) (fun c2_1 => ?_)
    · first | have fc2_1 : p0.toInt < 0 := (by have := zt_ne (show p0.toInt = _ from rfl) tI_0 c2_1; omega) | have fc2_1 : 0 < p0.toInt := (by have := zt_ne (show p0.toInt = _ from rfl) tI_0 c2_1; omega) | skip
      refine lv_iload_n hx hb d_Engine_note_12 rfl (lv_at hl 1 rfl) ?_
      exact key1 (p0) _ _ _ ⟨trivial, hP, hD, hS, lv_sub hl [0, 1] rfl⟩
    · have fc2_1 : p0.toInt = 0 := zt_eq (show p0.toInt = _ from rfl) tI_0 c2_1
      refine lv_aload_n hx hb d_Engine_note_5 rfl (lv_at hl 0 rfl) ?_
      refine va_get (D := D) (ci := 7) (v := .int (f_xe_latestFault S)) (C := "PageScribe$Engine") (T := F_Engine) (N := 11) hx hb hts i_Engine hown hK hP 72 (ce_72 _ _ _) cl_7 7 (by decide) (hts _ k_2_30) (fun _ h9 => h9) rfl d_Engine_note_6 ?_
      refine lv_goto (tgt := 13) hx hb d_Engine_note_9 (by decide) ?_
      exact key1 (f_xe_latestFault S) _ _ _ ⟨trivial, hP, hD, hS, lv_sub hl [0, 1] rfl⟩
theorem d_Engine_countStep_0 : decode prog_4_method_4_code 0 = .ok (.aload_n 0, 1) := by decide +kernel
theorem d_Engine_countStep_1 : decode prog_4_method_4_code 1 = .ok (.getfield 15, 3) := by decide +kernel
theorem d_Engine_countStep_4 : decode prog_4_method_4_code 4 = .ok (.aload_n 0, 1) := by decide +kernel
theorem d_Engine_countStep_5 : decode prog_4_method_4_code 5 = .ok (.getfield 9, 3) := by decide +kernel
theorem d_Engine_countStep_8 : decode prog_4_method_4_code 8 = .ok (.if_icmp .lt 6, 3) := by decide +kernel
theorem d_Engine_countStep_14 : decode prog_4_method_4_code 14 = .ok (.aload_n 0, 1) := by decide +kernel
theorem d_Engine_countStep_15 : decode prog_4_method_4_code 15 = .ok (.dup, 1) := by decide +kernel
theorem d_Engine_countStep_16 : decode prog_4_method_4_code 16 = .ok (.getfield 15, 3) := by decide +kernel
theorem d_Engine_countStep_19 : decode prog_4_method_4_code 19 = .ok (.iconst 1, 1) := by decide +kernel
theorem d_Engine_countStep_20 : decode prog_4_method_4_code 20 = .ok (.iadd, 1) := by decide +kernel
theorem d_Engine_countStep_21 : decode prog_4_method_4_code 21 = .ok (.putfield 15, 3) := by decide +kernel
theorem d_Engine_countStep_24 : decode prog_4_method_4_code 24 = .ok (.iconst 0, 1) := by decide +kernel
theorem d_Engine_countStep_25 : decode prog_4_method_4_code 25 = .ok (.ireturn, 1) := by decide +kernel
theorem d_Engine_countStep_11 : decode prog_4_method_4_code 11 = .ok (.bipush 16, 2) := by decide +kernel
theorem d_Engine_countStep_13 : decode prog_4_method_4_code 13 = .ok (.ireturn, 1) := by decide +kernel
set_option maxHeartbeats 4000000 in
set_option maxRecDepth 100000 in
theorem c_Engine_countStep (l : Launch) (D : va_G) (T : Nat → ClassId) (ad : Nat → Nat) (S : CS)  (sz : Nat)  (hI : CIv S) : Met l ⟨"PageScribe$Engine", "countStep", "()I"⟩ (wy ⟨"PageScribe$Engine", "countStep", "()I"⟩ prog_4_method_4_code 1 (some .int)) ({ frames := 0, cells := 0, slots := 0, locals := 0 }) (va_Pc [.ref (ad 72)] (Pw D T (cW T ad S) sz E0)) (va_Qi (fun (r : Int32) (u : CS) => CIv u ∧ kcL S u ∧ kcP S u ∧ kcU S u ∧ kcW S u) (fun u t => Bw D T (va_A (cW T ad S) sz) (cW T ad u) t) (va_A (cW T ad S) sz)) 0 0 (va_A (cW T ad S) sz) := by
  refine j_met (y := ⟨"PageScribe$Engine", "countStep", "()I"⟩) (b := prog_4_method_4_code) (n := 1) (ret := (some .int)) (av := [.ref (ad 72)]) (Qc := fun A => va_Qi (fun (r : Int32) (u : CS) => CIv u ∧ kcL S u ∧ kcP S u ∧ kcU S u ∧ kcW S u) (fun u t => Bw D T A (cW T ad u) t) A) (by decide +kernel) (Nat.le_of_ble_eq_true rfl) (fun p e s m args below meth c A ls F hr hlocks hnm hK hP hD hS hA hN hE hl => ?_)
  obtain ⟨hx, hb, hml, hown, hts⟩ := id F
  have hl : lv_has ls 1 [(0, .ref (ad 72))] := hl
  obtain ⟨i_vst, i_vc0, i_vc1, i_vc2, i_vc3, i_vv0, i_vv1, i_vv2, i_vv3, i_vg, i_wct, i_wln, i_sd0, i_sd1, i_sd2, i_sd3, i_rln, i_rtx, i_rpl, i_rtk, i_cnv, i_pts, i_cik, i_und⟩ := id hI
  refine lv_aload_n hx hb d_Engine_countStep_0 rfl (lv_at hl 0 rfl) ?_
  refine va_get (D := D) (ci := 7) (v := .int (f_xe_stepsDone S)) (C := "PageScribe$Engine") (T := F_Engine) (N := 11) hx hb hts i_Engine hown hK hP 72 (ce_72 _ _ _) cl_7 6 (by decide) (hts _ k_2_28) (fun _ h9 => h9) rfl d_Engine_countStep_1 ?_
  refine lv_aload_n hx hb d_Engine_countStep_4 rfl (lv_at hl 0 rfl) ?_
  refine va_get (D := D) (ci := 7) (v := .int (f_xe_fuelGiven S)) (C := "PageScribe$Engine") (T := F_Engine) (N := 11) hx hb hts i_Engine hown hK hP 72 (ce_72 _ _ _) cl_7 5 (by decide) (hts _ k_2_27) (fun _ h9 => h9) rfl d_Engine_countStep_5 ?_
  refine lv_icmp_lt (tgt := 14) hx hb d_Engine_countStep_8 (by decide) (fun c8_1 => ?_) (fun c8_1 => ?_)
  · have fc8_1 : (f_xe_stepsDone S).toInt < (f_xe_fuelGiven S).toInt := zt_lt (show (f_xe_stepsDone S).toInt = _ from rfl) (show (f_xe_fuelGiven S).toInt = _ from rfl) c8_1
    refine lv_aload_n hx hb d_Engine_countStep_14 rfl (lv_at hl 0 rfl) ?_
    refine lv_dup hx hb d_Engine_countStep_15 rfl ?_
    refine va_get (D := D) (ci := 7) (v := .int (f_xe_stepsDone S)) (C := "PageScribe$Engine") (T := F_Engine) (N := 11) hx hb hts i_Engine hown hK hP 72 (ce_72 _ _ _) cl_7 6 (by decide) (hts _ k_2_28) (fun _ h9 => h9) rfl d_Engine_countStep_16 ?_
    refine lv_iconst (v := 1) hx hb d_Engine_countStep_19 (by decide) ?_
    refine lv_iadd hx hb d_Engine_countStep_20 ?_
    refine lv_topi (fun x1 ex1 => ?_)
    have rx1 := zt_rng x1
    refine va_put (D := D) (ci := 7) (v := .int x1) (ty := .int) (C := "PageScribe$Engine") (T := F_Engine) (N := 11) hx hb hts i_Engine t_Engine t_Engine_ok n_Engine hown hK hP hD hS 72 (ce_72 _ _ _) cl_7 6 (by decide) (hts _ k_2_28) (fun _ h9 => h9) rfl (by decide +kernel) rfl rfl (Nat.le_of_ble_eq_true rfl) d_Engine_countStep_21 (fun H locs hP hD hS => ?_)
    rw [cp_xe_stepsDone] at hP hD
    have hP : va_P D classes (cW T ad ((S.1, S.2.1, S.2.2.1, S.2.2.2.1, S.2.2.2.2.1, S.2.2.2.2.2.1, S.2.2.2.2.2.2.1, S.2.2.2.2.2.2.2.1, ((f_xe_fuelGiven S), x1, (f_xe_latestFault S), (f_xe_underWay S), (f_xe_reach S), (f_xe_loops S))) : CS)) H := hP
    have hD : va_D A (cW T ad ((S.1, S.2.1, S.2.2.1, S.2.2.2.1, S.2.2.2.2.1, S.2.2.2.2.2.1, S.2.2.2.2.2.2.1, S.2.2.2.2.2.2.2.1, ((f_xe_fuelGiven S), x1, (f_xe_latestFault S), (f_xe_underWay S), (f_xe_reach S), (f_xe_loops S))) : CS)) := hD
    refine lv_iconst (v := 0) hx hb d_Engine_countStep_24 (by decide) ?_
    exact j_iret F hr hlocks hK hS ((S.1, S.2.1, S.2.2.1, S.2.2.2.1, S.2.2.2.2.1, S.2.2.2.2.2.1, S.2.2.2.2.2.2.1, S.2.2.2.2.2.2.2.1, ((f_xe_fuelGiven S), x1, (f_xe_latestFault S), (f_xe_underWay S), (f_xe_reach S), (f_xe_loops S))) : CS) ⟨⟨i_vst, i_vc0, i_vc1, i_vc2, i_vc3, i_vv0, i_vv1, i_vv2, i_vv3, i_vg, i_wct, i_wln, i_sd0, i_sd1, i_sd2, i_sd3, i_rln, i_rtx, i_rpl, i_rtk, i_cnv, i_pts, i_cik, i_und⟩, (kcL_r S), (kcP_r S), (kcU_r S), (kcW_r S)⟩ hP hD d_Engine_countStep_25
  · have fc8_1 : (f_xe_fuelGiven S).toInt ≤ (f_xe_stepsDone S).toInt := Int.not_lt.mp (zt_nlt (show (f_xe_stepsDone S).toInt = _ from rfl) (show (f_xe_fuelGiven S).toInt = _ from rfl) c8_1)
    refine lv_bipush (v := 16) hx hb d_Engine_countStep_11 (by decide) ?_
    exact j_iret F hr hlocks hK hS S ⟨⟨i_vst, i_vc0, i_vc1, i_vc2, i_vc3, i_vv0, i_vv1, i_vv2, i_vv3, i_vg, i_wct, i_wln, i_sd0, i_sd1, i_sd2, i_sd3, i_rln, i_rtx, i_rpl, i_rtk, i_cnv, i_pts, i_cik, i_und⟩, (kcL_r S), (kcP_r S), (kcU_r S), (kcW_r S)⟩ hP hD d_Engine_countStep_13
theorem d_Engine_doValue_0 : decode prog_4_method_5_code 0 = .ok (.aload_n 0, 1) := by decide +kernel
theorem d_Engine_doValue_1 : decode prog_4_method_5_code 1 = .ok (.invokevirtual 58, 3) := by decide +kernel
theorem k_3_171 : Cond.code ⟨"PageScribe$Engine", "countStep", "()I"⟩ prog_4_method_4_code 1 (some .int) ∈ gw := gw_of (tb_3 (List.mem_of_getElem? (i := 171) (by decide +kernel))) (by decide +kernel)
theorem k_1_9 : Cond.initialized "PageScribe$Engine" ∈ gw := gw_of (tb_1 (List.mem_of_getElem? (i := 9) (by decide +kernel))) (by decide +kernel)
theorem k_3_168 : Cond.methodLink "PageScribe$Engine" 58 ⟨"PageScribe$Engine", "countStep", "()I"⟩ ∈ gw := gw_of (tb_3 (List.mem_of_getElem? (i := 168) (by decide +kernel))) (by decide +kernel)
theorem k_3_170 : Cond.instanceMethod ⟨"PageScribe$Engine", "countStep", "()I"⟩ ∈ gw := gw_of (tb_3 (List.mem_of_getElem? (i := 170) (by decide +kernel))) (by decide +kernel)
theorem k_0_14 : Cond.selects "PageScribe$Engine" ⟨"PageScribe$Engine", "countStep", "()I"⟩ ⟨"PageScribe$Engine", "countStep", "()I"⟩ ∈ gw := gw_of (tb_0 (List.mem_of_getElem? (i := 14) (by decide +kernel))) (by decide +kernel)
theorem d_Engine_doValue_4 : decode prog_4_method_5_code 4 = .ok (.istore 5, 2) := by decide +kernel
theorem d_Engine_doValue_6 : decode prog_4_method_5_code 6 = .ok (.iload 5, 2) := by decide +kernel
theorem d_Engine_doValue_8 : decode prog_4_method_5_code 8 = .ok (.ifCond .eq 6, 3) := by decide +kernel
theorem d_Engine_doValue_14 : decode prog_4_method_5_code 14 = .ok (.iload_n 1, 1) := by decide +kernel
theorem d_Engine_doValue_15 : decode prog_4_method_5_code 15 = .ok (.bipush 11, 2) := by decide +kernel
theorem d_Engine_doValue_17 : decode prog_4_method_5_code 17 = .ok (.if_icmp .eq 14, 3) := by decide +kernel
theorem d_Engine_doValue_20 : decode prog_4_method_5_code 20 = .ok (.aload_n 0, 1) := by decide +kernel
theorem d_Engine_doValue_21 : decode prog_4_method_5_code 21 = .ok (.getfield 30, 3) := by decide +kernel
theorem k_2_22 : Cond.fieldLink "PageScribe$Engine" 30 "PageScribe$Engine" "stack" "LPageScribe$Stack;" ∈ gw := gw_of (tb_2 (List.mem_of_getElem? (i := 22) (by decide +kernel))) (by decide +kernel)
theorem d_Engine_doValue_24 : decode prog_4_method_5_code 24 = .ok (.iload_n 1, 1) := by decide +kernel
theorem d_Engine_doValue_25 : decode prog_4_method_5_code 25 = .ok (.iload_n 2, 1) := by decide +kernel
theorem d_Engine_doValue_26 : decode prog_4_method_5_code 26 = .ok (.dload_n 3, 1) := by decide +kernel
theorem d_Engine_doValue_27 : decode prog_4_method_5_code 27 = .ok (.invokevirtual 62, 3) := by decide +kernel
theorem k_3_172 : Cond.methodLink "PageScribe$Engine" 62 ⟨"PageScribe$Stack", "push", "(IID)I"⟩ ∈ gw := gw_of (tb_3 (List.mem_of_getElem? (i := 172) (by decide +kernel))) (by decide +kernel)
theorem d_Engine_doValue_30 : decode prog_4_method_5_code 30 = .ok (.ireturn, 1) := by decide +kernel
theorem d_Engine_doValue_11 : decode prog_4_method_5_code 11 = .ok (.iload 5, 2) := by decide +kernel
theorem d_Engine_doValue_13 : decode prog_4_method_5_code 13 = .ok (.ireturn, 1) := by decide +kernel
set_option maxHeartbeats 4000000 in
set_option maxRecDepth 100000 in
theorem c_Engine_doValueP (l : Launch) (D : va_G) (T : Nat → ClassId) (ad : Nat → Nat) (S : CS) (p0 : Int32) (p1 : Int32) (d0 : UInt64) (sz : Nat)  (hI : CIv S) (h1 : dB d0) (h2 : ¬ p0.toInt = 11) : Met l ⟨"PageScribe$Engine", "doValue", "(IID)I"⟩ (wy ⟨"PageScribe$Engine", "doValue", "(IID)I"⟩ prog_4_method_5_code 7 (some .int)) ({ frames := 3, cells := 0, slots := 0, locals := 210 }) (va_Pc [.ref (ad 72), .int p0, .int p1, .double d0] (Pw D T (cW T ad S) sz E0)) (va_Qi (fun (r : Int32) (u : CS) => CIv u ∧ kcL S u ∧ kcP S u ∧ kcU S u ∧ kcW S u) (fun u t => Bw D T (va_A (cW T ad S) sz) (cW T ad u) t) (va_A (cW T ad S) sz)) 0 0 (va_A (cW T ad S) sz) := by
  refine j_met (y := ⟨"PageScribe$Engine", "doValue", "(IID)I"⟩) (b := prog_4_method_5_code) (n := 7) (ret := (some .int)) (av := [.ref (ad 72), .int p0, .int p1, .double d0]) (Qc := fun A => va_Qi (fun (r : Int32) (u : CS) => CIv u ∧ kcL S u ∧ kcP S u ∧ kcU S u ∧ kcW S u) (fun u t => Bw D T A (cW T ad u) t) A) (by decide +kernel) (Nat.le_of_ble_eq_true rfl) (fun p e s m args below meth c A ls F hr hlocks hnm hK hP hD hS hA hN hE hl => ?_)
  obtain ⟨hx, hb, hml, hown, hts⟩ := id F
  have hl : lv_has ls 7 [(0, .ref (ad 72)), (1, .int p0), (2, .int p1), (3, .double d0)] := hl
  obtain ⟨i_vst, i_vc0, i_vc1, i_vc2, i_vc3, i_vv0, i_vv1, i_vv2, i_vv3, i_vg, i_wct, i_wln, i_sd0, i_sd1, i_sd2, i_sd3, i_rln, i_rtx, i_rpl, i_rtk, i_cnv, i_pts, i_cik, i_und⟩ := id hI
  have rp0 := zt_rng p0
  have rp1 := zt_rng p1
  refine lv_aload_n hx hb d_Engine_doValue_0 rfl (lv_at hl 0 rfl) ?_
  refine jc_ci (w := (fun u => u)) hK hP hD hS hA (va_runV (As := []) (rest := []) F (c_Engine_countStep l D T ad S  s.heap.size ⟨i_vst, i_vc0, i_vc1, i_vc2, i_vc3, i_vv0, i_vv1, i_vv2, i_vv3, i_vg, i_wct, i_wln, i_sd0, i_sd1, i_sd2, i_sd3, i_rln, i_rtx, i_rpl, i_rtk, i_cnv, i_pts, i_cik, i_und⟩) (j_cV (k := 0) (C := "PageScribe$Engine") hts k_3_171 k_1_9 k_3_168 k_3_170 k_0_14 (by decide +kernel) ⟨Nat.le_of_ble_eq_true rfl, Nat.le_of_ble_eq_true rfl⟩) (j_preV (q0 := 72) (ci := 7) hK hP hD csc csc_all csc_nd cl_7 (ce_72 _ _ _) (fun _ _ _ _ h => h) (fun _ _ _ => trivial)) rfl rfl hl.1 rfl (lv_room (Nat.le_of_ble_eq_true rfl)) d_Engine_doValue_1 ⟨Nat.le_of_ble_eq_true rfl, Nat.le_of_ble_eq_true rfl⟩) (fun rv1 S1 H locs hw1 hP hD hS => ?_)
  have hP : va_P D classes (cW T ad S1) H := hP
  have hD : va_D A (cW T ad S1) := hD
  obtain ⟨⟨i_vst, i_vc0, i_vc1, i_vc2, i_vc3, i_vv0, i_vv1, i_vv2, i_vv3, i_vg, i_wct, i_wln, i_sd0, i_sd1, i_sd2, i_sd3, i_rln, i_rtx, i_rpl, i_rtk, i_cnv, i_pts, i_cik, i_und⟩, kpcL_S1, kpcP_S1, kpcU_S1, kpcW_S1⟩ := hw1
  have kScL_S1 : kcL S S1 := kcL_t (show kcL S S from (kcL_r S)) kpcL_S1
  have kScP_S1 : kcP S S1 := kcP_t (show kcP S S from (kcP_r S)) kpcP_S1
  have kScU_S1 : kcU S S1 := kcU_t (show kcU S S from (kcU_r S)) kpcU_S1
  have kScW_S1 : kcW S S1 := kcW_t (show kcW S S from (kcW_r S)) kpcW_S1
  have nxr_length_S1 : (f_xr_length S1).toInt = (f_xr_length S).toInt := congrArg Int32.toInt kpcL_S1
  have nxr_length_S1 : (f_xr_length S1).toInt = (f_xr_length S).toInt := congrArg Int32.toInt kpcP_S1.1
  have nxr_place_S1 : (f_xr_place S1).toInt = (f_xr_place S).toInt := congrArg Int32.toInt kpcP_S1.2.1
  have nxe_underWay_S1 : (f_xe_underWay S1).toInt = (f_xe_underWay S).toInt := congrArg Int32.toInt kpcU_S1
  have nxp_columns_S1 : (f_xp_columns S1).toInt = (f_xp_columns S).toInt := congrArg Int32.toInt kpcW_S1.1
  have nxp_rows_S1 : (f_xp_rows S1).toInt = (f_xp_rows S).toInt := congrArg Int32.toInt kpcW_S1.2
  have rrv1 := zt_rng rv1
  refine lv_istore (lv' := [(5, .int rv1), (0, .ref (ad 72)), (1, .int p0), (2, .int p1), (3, .double d0)]) hx hb d_Engine_doValue_4 hl (by decide) rfl (fun ls hl => ?_)
  refine lv_iload hx hb d_Engine_doValue_6 (lv_at hl 0 rfl) ?_
  refine lv_if_eq (tgt := 14) hx hb d_Engine_doValue_8 (by decide) (fun c8_1 => ?_) (fun c8_1 => ?_)
  · have fc8_1 : rv1.toInt = 0 := zt_eq (show rv1.toInt = _ from rfl) tI_0 c8_1
    refine lv_iload_n hx hb d_Engine_doValue_14 rfl (lv_at hl 2 rfl) ?_
    refine lv_bipush (v := 11) hx hb d_Engine_doValue_15 (by decide) ?_
    refine lv_icmp_eq (tgt := 31) hx hb d_Engine_doValue_17 (by decide) (fun c17_1 => ?_) (fun c17_1 => ?_)
    · have fc17_1 : p0.toInt = 11 := zt_eq (show p0.toInt = _ from rfl) tI_11 c17_1
      exfalso; omega
    · first | have fc17_1 : p0.toInt < 11 := (by have := zt_ne (show p0.toInt = _ from rfl) tI_11 c17_1; omega) | have fc17_1 : 11 < p0.toInt := (by have := zt_ne (show p0.toInt = _ from rfl) tI_11 c17_1; omega) | skip
      refine lv_aload_n hx hb d_Engine_doValue_20 rfl (lv_at hl 1 rfl) ?_
      refine va_get (D := D) (ci := 7) (v := .ref (ad 1)) (C := "PageScribe$Engine") (T := F_Engine) (N := 11) hx hb hts i_Engine hown hK hP 72 (ce_72 _ _ _) cl_7 0 (by decide) (hts _ k_2_22) (fun _ h9 => h9) rfl d_Engine_doValue_21 ?_
      refine lv_iload_n hx hb d_Engine_doValue_24 rfl (lv_at hl 2 rfl) ?_
      refine lv_iload_n hx hb d_Engine_doValue_25 rfl (lv_at hl 3 rfl) ?_
      refine lv_dload_n hx hb d_Engine_doValue_26 rfl (lv_at hl 4 rfl) ?_
      refine jc_ci (w := (fun u => u)) hK hP hD hS hA (va_runU (As := [.int p0, .int p1, .double d0]) (rest := []) F (c_Row_push l D T ad S1 p0 p1 d0  H.size ⟨i_vst, i_vc0, i_vc1, i_vc2, i_vc3, i_vv0, i_vv1, i_vv2, i_vv3, i_vg, i_wct, i_wln, i_sd0, i_sd1, i_sd2, i_sd3, i_rln, i_rtx, i_rpl, i_rtk, i_cnv, i_pts, i_cik, i_und⟩ (show dB d0 by omega)) (j_cU (k := 3) (C := "PageScribe$Stack") (owner := "PageScribe$Row") (x := ⟨"PageScribe$Stack", "push", "(IID)I"⟩) hts k_2_104 k_3_172 k_2_100 k_2_102 k_2_103 k_1_2 rfl (by decide +kernel) ⟨Nat.le_of_ble_eq_true rfl, Nat.le_of_ble_eq_true rfl⟩) (j_preV (q0 := 1) (ci := 0) hK hP hD csc csc_all csc_nd cl_0 (ce_1 _ _ _) (fun _ _ _ _ h => h) (fun _ _ _ => trivial)) rfl rfl hl.1 rfl (lv_room (Nat.le_of_ble_eq_true rfl)) d_Engine_doValue_27 ⟨Nat.le_of_ble_eq_true rfl, Nat.le_of_ble_eq_true rfl⟩) (fun rv2 S2 H locs hw2 hP hD hS => ?_)
      have hP : va_P D classes (cW T ad S2) H := hP
      have hD : va_D A (cW T ad S2) := hD
      obtain ⟨⟨i_vst, i_vc0, i_vc1, i_vc2, i_vc3, i_vv0, i_vv1, i_vv2, i_vv3, i_vg, i_wct, i_wln, i_sd0, i_sd1, i_sd2, i_sd3, i_rln, i_rtx, i_rpl, i_rtk, i_cnv, i_pts, i_cik, i_und⟩, kpcL_S2, kpcP_S2, kpcU_S2, kpcW_S2⟩ := hw2
      have kScL_S2 : kcL S S2 := kcL_t (show kcL S S1 from kScL_S1) kpcL_S2
      have kScP_S2 : kcP S S2 := kcP_t (show kcP S S1 from kScP_S1) kpcP_S2
      have kScU_S2 : kcU S S2 := kcU_t (show kcU S S1 from kScU_S1) kpcU_S2
      have kScW_S2 : kcW S S2 := kcW_t (show kcW S S1 from kScW_S1) kpcW_S2
      have nxr_length_S2 : (f_xr_length S2).toInt = (f_xr_length S1).toInt := congrArg Int32.toInt kpcL_S2
      have nxr_length_S2 : (f_xr_length S2).toInt = (f_xr_length S1).toInt := congrArg Int32.toInt kpcP_S2.1
      have nxr_place_S2 : (f_xr_place S2).toInt = (f_xr_place S1).toInt := congrArg Int32.toInt kpcP_S2.2.1
      have nxe_underWay_S2 : (f_xe_underWay S2).toInt = (f_xe_underWay S1).toInt := congrArg Int32.toInt kpcU_S2
      have nxp_columns_S2 : (f_xp_columns S2).toInt = (f_xp_columns S1).toInt := congrArg Int32.toInt kpcW_S2.1
      have nxp_rows_S2 : (f_xp_rows S2).toInt = (f_xp_rows S1).toInt := congrArg Int32.toInt kpcW_S2.2
      have rrv2 := zt_rng rv2
      exact j_iret F hr hlocks hK hS S2 ⟨⟨i_vst, i_vc0, i_vc1, i_vc2, i_vc3, i_vv0, i_vv1, i_vv2, i_vv3, i_vg, i_wct, i_wln, i_sd0, i_sd1, i_sd2, i_sd3, i_rln, i_rtx, i_rpl, i_rtk, i_cnv, i_pts, i_cik, i_und⟩, kScL_S2, kScP_S2, kScU_S2, kScW_S2⟩ hP hD d_Engine_doValue_30
  · first | have fc8_1 : rv1.toInt < 0 := (by have := zt_ne (show rv1.toInt = _ from rfl) tI_0 c8_1; omega) | have fc8_1 : 0 < rv1.toInt := (by have := zt_ne (show rv1.toInt = _ from rfl) tI_0 c8_1; omega) | skip
    refine lv_iload hx hb d_Engine_doValue_11 (lv_at hl 0 rfl) ?_
    exact j_iret F hr hlocks hK hS S1 ⟨⟨i_vst, i_vc0, i_vc1, i_vc2, i_vc3, i_vv0, i_vv1, i_vv2, i_vv3, i_vg, i_wct, i_wln, i_sd0, i_sd1, i_sd2, i_sd3, i_rln, i_rtx, i_rpl, i_rtk, i_cnv, i_pts, i_cik, i_und⟩, kScL_S1, kScP_S1, kScU_S1, kScW_S1⟩ hP hD d_Engine_doValue_13
def DVP (l : Launch) (D : va_G) (T : Nat → ClassId) (ad : Nat → Nat) (g : GE) (Bq : Nat → Prop) (d : Nat) : Prop := ∀ (S : CS) (p0 p1 : Int32) (d0 : UInt64) (sz : Nat), CIv S → 8 ≤ (f_xe_underWay S).toInt + d → dB d0 → Met l ⟨"PageScribe$Engine", "doValue", "(IID)I"⟩ (wy ⟨"PageScribe$Engine", "doValue", "(IID)I"⟩ prog_4_method_5_code 7 (some .int)) ({ frames := 11 + 10 * d, cells := 0, slots := 0, locals := 70 * (11 + 10 * d) }) (va_Pc [.ref (ad 72), .int p0, .int p1, .double d0] (Pw D T (cW T ad S) sz (EC g Bq ad))) (va_Qi (fun (r : Int32) (u : CS) => CIv u ∧ kcL S u ∧ kcP S u ∧ kcU S u ∧ kcW S u) (fun u t => Bw D T (va_A (cW T ad S) sz) (cW T ad u) t) (va_A (cW T ad S) sz)) 0 0 (va_A (cW T ad S) sz)
theorem d_Engine_doUnderWay_0 : decode prog_4_method_7_code 0 = .ok (.aload_n 0, 1) := by decide +kernel
theorem d_Engine_doUnderWay_1 : decode prog_4_method_7_code 1 = .ok (.getfield 21, 3) := by decide +kernel
theorem k_2_32 : Cond.fieldLink "PageScribe$Engine" 21 "PageScribe$Engine" "underWay" "I" ∈ gw := gw_of (tb_2 (List.mem_of_getElem? (i := 32) (by decide +kernel))) (by decide +kernel)
theorem d_Engine_doUnderWay_4 : decode prog_4_method_7_code 4 = .ok (.bipush 8, 2) := by decide +kernel
theorem d_Engine_doUnderWay_6 : decode prog_4_method_7_code 6 = .ok (.if_icmp .lt 6, 3) := by decide +kernel
theorem d_Engine_doUnderWay_12 : decode prog_4_method_7_code 12 = .ok (.aload_n 0, 1) := by decide +kernel
theorem d_Engine_doUnderWay_13 : decode prog_4_method_7_code 13 = .ok (.dup, 1) := by decide +kernel
theorem d_Engine_doUnderWay_14 : decode prog_4_method_7_code 14 = .ok (.getfield 21, 3) := by decide +kernel
theorem d_Engine_doUnderWay_17 : decode prog_4_method_7_code 17 = .ok (.iconst 1, 1) := by decide +kernel
theorem d_Engine_doUnderWay_18 : decode prog_4_method_7_code 18 = .ok (.iadd, 1) := by decide +kernel
theorem d_Engine_doUnderWay_19 : decode prog_4_method_7_code 19 = .ok (.putfield 21, 3) := by decide +kernel
theorem d_Engine_doUnderWay_22 : decode prog_4_method_7_code 22 = .ok (.aload_n 0, 1) := by decide +kernel
theorem d_Engine_doUnderWay_23 : decode prog_4_method_7_code 23 = .ok (.iload_n 1, 1) := by decide +kernel
theorem d_Engine_doUnderWay_24 : decode prog_4_method_7_code 24 = .ok (.iload_n 2, 1) := by decide +kernel
theorem d_Engine_doUnderWay_25 : decode prog_4_method_7_code 25 = .ok (.dconst 0, 1) := by decide +kernel
theorem d_Engine_doUnderWay_26 : decode prog_4_method_7_code 26 = .ok (.invokevirtual 109, 3) := by decide +kernel
theorem k_3_167 : Cond.code ⟨"PageScribe$Engine", "doValue", "(IID)I"⟩ prog_4_method_5_code 7 (some .int) ∈ gw := gw_of (tb_3 (List.mem_of_getElem? (i := 167) (by decide +kernel))) (by decide +kernel)
theorem k_5_211 : Cond.methodLink "PageScribe$Engine" 109 ⟨"PageScribe$Engine", "doValue", "(IID)I"⟩ ∈ gw := gw_of (tb_5 (List.mem_of_getElem? (i := 211) (by decide +kernel))) (by decide +kernel)
theorem k_3_166 : Cond.instanceMethod ⟨"PageScribe$Engine", "doValue", "(IID)I"⟩ ∈ gw := gw_of (tb_3 (List.mem_of_getElem? (i := 166) (by decide +kernel))) (by decide +kernel)
theorem k_0_13 : Cond.selects "PageScribe$Engine" ⟨"PageScribe$Engine", "doValue", "(IID)I"⟩ ⟨"PageScribe$Engine", "doValue", "(IID)I"⟩ ∈ gw := gw_of (tb_0 (List.mem_of_getElem? (i := 13) (by decide +kernel))) (by decide +kernel)
theorem d_Engine_doUnderWay_29 : decode prog_4_method_7_code 29 = .ok (.istore_n 3, 1) := by decide +kernel
theorem d_Engine_doUnderWay_30 : decode prog_4_method_7_code 30 = .ok (.aload_n 0, 1) := by decide +kernel
theorem d_Engine_doUnderWay_31 : decode prog_4_method_7_code 31 = .ok (.dup, 1) := by decide +kernel
theorem d_Engine_doUnderWay_32 : decode prog_4_method_7_code 32 = .ok (.getfield 21, 3) := by decide +kernel
theorem d_Engine_doUnderWay_35 : decode prog_4_method_7_code 35 = .ok (.iconst 1, 1) := by decide +kernel
theorem d_Engine_doUnderWay_36 : decode prog_4_method_7_code 36 = .ok (.isub, 1) := by decide +kernel
theorem d_Engine_doUnderWay_37 : decode prog_4_method_7_code 37 = .ok (.putfield 21, 3) := by decide +kernel
theorem d_Engine_doUnderWay_40 : decode prog_4_method_7_code 40 = .ok (.iload_n 3, 1) := by decide +kernel
theorem d_Engine_doUnderWay_41 : decode prog_4_method_7_code 41 = .ok (.ireturn, 1) := by decide +kernel
theorem d_Engine_doUnderWay_9 : decode prog_4_method_7_code 9 = .ok (.bipush 12, 2) := by decide +kernel
theorem d_Engine_doUnderWay_11 : decode prog_4_method_7_code 11 = .ok (.ireturn, 1) := by decide +kernel
set_option maxHeartbeats 4000000 in
set_option maxRecDepth 100000 in
theorem c_Engine_doUnderWay (l : Launch) (D : va_G) (T : Nat → ClassId) (ad : Nat → Nat) (g : GE) (Bq : Nat → Prop) (d : Nat) (hdv : ∀ d2, d2 < d → DVP l D T ad g Bq d2) (S : CS) (p0 : Int32) (p1 : Int32) (sz : Nat)  (hI : CIv S) (hd : 8 ≤ (f_xe_underWay S).toInt + d) : Met l ⟨"PageScribe$Engine", "doUnderWay", "(II)I"⟩ (wy ⟨"PageScribe$Engine", "doUnderWay", "(II)I"⟩ prog_4_method_7_code 4 (some .int)) ({ frames := 6 + 10 * d, cells := 0, slots := 0, locals := 70 * (6 + 10 * d) }) (va_Pc [.ref (ad 72), .int p0, .int p1] (Pw D T (cW T ad S) sz (EC g Bq ad))) (va_Qi (fun (r : Int32) (u : CS) => CIv u ∧ kcL S u ∧ kcP S u ∧ kcU S u ∧ kcW S u) (fun u t => Bw D T (va_A (cW T ad S) sz) (cW T ad u) t) (va_A (cW T ad S) sz)) 0 0 (va_A (cW T ad S) sz) := by
  refine j_met (y := ⟨"PageScribe$Engine", "doUnderWay", "(II)I"⟩) (b := prog_4_method_7_code) (n := 4) (ret := (some .int)) (av := [.ref (ad 72), .int p0, .int p1]) (Qc := fun A => va_Qi (fun (r : Int32) (u : CS) => CIv u ∧ kcL S u ∧ kcP S u ∧ kcU S u ∧ kcW S u) (fun u t => Bw D T A (cW T ad u) t) A) (by decide +kernel) (Nat.le_of_ble_eq_true rfl) (fun p e s m args below meth c A ls F hr hlocks hnm hK hP hD hS hA hN hE hl => ?_)
  obtain ⟨hx, hb, hml, hown, hts⟩ := id F
  have hl : lv_has ls 4 [(0, .ref (ad 72)), (1, .int p0), (2, .int p1)] := hl
  obtain ⟨i_vst, i_vc0, i_vc1, i_vc2, i_vc3, i_vv0, i_vv1, i_vv2, i_vv3, i_vg, i_wct, i_wln, i_sd0, i_sd1, i_sd2, i_sd3, i_rln, i_rtx, i_rpl, i_rtk, i_cnv, i_pts, i_cik, i_und⟩ := id hI
  have hAB : ∀ q, A q → Bq q := EC.ab hE hN
  have hEV := hE.1.narrow hAB
  have rp0 := zt_rng p0
  have rp1 := zt_rng p1
  refine lv_aload_n hx hb d_Engine_doUnderWay_0 rfl (lv_at hl 0 rfl) ?_
  refine va_get (D := D) (ci := 7) (v := .int (f_xe_underWay S)) (C := "PageScribe$Engine") (T := F_Engine) (N := 11) hx hb hts i_Engine hown hK hP 72 (ce_72 _ _ _) cl_7 8 (by decide) (hts _ k_2_32) (fun _ h9 => h9) rfl d_Engine_doUnderWay_1 ?_
  refine lv_bipush (v := 8) hx hb d_Engine_doUnderWay_4 (by decide) ?_
  refine lv_icmp_lt (tgt := 12) hx hb d_Engine_doUnderWay_6 (by decide) (fun c6_1 => ?_) (fun c6_1 => ?_)
  · have fc6_1 : (f_xe_underWay S).toInt < 8 := zt_lt (show (f_xe_underWay S).toInt = _ from rfl) tI_8 c6_1
    refine lv_aload_n hx hb d_Engine_doUnderWay_12 rfl (lv_at hl 0 rfl) ?_
    refine lv_dup hx hb d_Engine_doUnderWay_13 rfl ?_
    refine va_get (D := D) (ci := 7) (v := .int (f_xe_underWay S)) (C := "PageScribe$Engine") (T := F_Engine) (N := 11) hx hb hts i_Engine hown hK hP 72 (ce_72 _ _ _) cl_7 8 (by decide) (hts _ k_2_32) (fun _ h9 => h9) rfl d_Engine_doUnderWay_14 ?_
    refine lv_iconst (v := 1) hx hb d_Engine_doUnderWay_17 (by decide) ?_
    refine lv_iadd hx hb d_Engine_doUnderWay_18 ?_
    refine lv_topi (fun x1 ex1 => ?_)
    have fx1 : x1.toInt = ((f_xe_underWay S).toInt + 1) := by rw [ex1]; exact (zt_add (show (f_xe_underWay S).toInt = _ from rfl) tI_1 (by omega) (by omega)).trans (by omega)
    refine va_put (D := D) (ci := 7) (v := .int x1) (ty := .int) (C := "PageScribe$Engine") (T := F_Engine) (N := 11) hx hb hts i_Engine t_Engine t_Engine_ok n_Engine hown hK hP hD hS 72 (ce_72 _ _ _) cl_7 8 (by decide) (hts _ k_2_32) (fun _ h9 => h9) rfl (by decide +kernel) rfl rfl (Nat.le_of_ble_eq_true rfl) d_Engine_doUnderWay_19 (fun H locs hP hD hS => ?_)
    rw [cp_xe_underWay] at hP hD
    have hP : va_P D classes (cW T ad ((S.1, S.2.1, S.2.2.1, S.2.2.2.1, S.2.2.2.2.1, S.2.2.2.2.2.1, S.2.2.2.2.2.2.1, S.2.2.2.2.2.2.2.1, ((f_xe_fuelGiven S), (f_xe_stepsDone S), (f_xe_latestFault S), x1, (f_xe_reach S), (f_xe_loops S))) : CS)) H := hP
    have hD : va_D A (cW T ad ((S.1, S.2.1, S.2.2.1, S.2.2.2.1, S.2.2.2.2.1, S.2.2.2.2.2.1, S.2.2.2.2.2.2.1, S.2.2.2.2.2.2.2.1, ((f_xe_fuelGiven S), (f_xe_stepsDone S), (f_xe_latestFault S), x1, (f_xe_reach S), (f_xe_loops S))) : CS)) := hD
    refine lv_aload_n hx hb d_Engine_doUnderWay_22 rfl (lv_at hl 0 rfl) ?_
    refine lv_iload_n hx hb d_Engine_doUnderWay_23 rfl (lv_at hl 1 rfl) ?_
    refine lv_iload_n hx hb d_Engine_doUnderWay_24 rfl (lv_at hl 2 rfl) ?_
    refine lv_dconst0 hx hb d_Engine_doUnderWay_25 ?_
    have := tD_0
    refine jc_ci (w := (fun u => u)) hK hP hD hS hA (va_runV (As := [.int p0, .int p1, .double 0]) (rest := []) F ((hdv (d - 1) (by omega)) ((S.1, S.2.1, S.2.2.1, S.2.2.2.1, S.2.2.2.2.1, S.2.2.2.2.2.1, S.2.2.2.2.2.2.1, S.2.2.2.2.2.2.2.1, ((f_xe_fuelGiven S), (f_xe_stepsDone S), (f_xe_latestFault S), x1, (f_xe_reach S), (f_xe_loops S))) : CS) p0 p1 0  H.size ⟨i_vst, i_vc0, i_vc1, i_vc2, i_vc3, i_vv0, i_vv1, i_vv2, i_vv3, i_vg, i_wct, i_wln, i_sd0, i_sd1, i_sd2, i_sd3, i_rln, i_rtx, i_rpl, i_rtk, i_cnv, i_pts, i_cik, (show 0 ≤ x1.toInt ∧ x1.toInt ≤ 8 by omega)⟩ (show 8 ≤ x1.toInt + ((d - 1 : Nat) : Int) by first | omega | (simp only [fx1]; omega)) (show dB 0 by first | omega | (simp only [fx1]; omega))) (j_cV (k := 3) (C := "PageScribe$Engine") hts k_3_167 k_1_9 k_5_211 k_3_166 k_0_13 (by decide +kernel) ⟨by dsimp only; omega, by dsimp only; omega⟩) (j_preV (q0 := 72) (ci := 7) hK hP hD csc csc_all csc_nd cl_7 (ce_72 _ _ _) (fun _ _ _ _ h => EC.calling h) (fun U hU hW => EC.at hS hAB hU hW hE)) rfl rfl hl.1 rfl (lv_room (Nat.le_of_ble_eq_true rfl)) d_Engine_doUnderWay_26 ⟨Nat.le_of_ble_eq_true rfl, Nat.le_of_ble_eq_true rfl⟩) (fun rv1 S1 H locs hw1 hP hD hS => ?_)
    have hP : va_P D classes (cW T ad S1) H := hP
    have hD : va_D A (cW T ad S1) := hD
    obtain ⟨⟨i_vst, i_vc0, i_vc1, i_vc2, i_vc3, i_vv0, i_vv1, i_vv2, i_vv3, i_vg, i_wct, i_wln, i_sd0, i_sd1, i_sd2, i_sd3, i_rln, i_rtx, i_rpl, i_rtk, i_cnv, i_pts, i_cik, i_und⟩, kpcL_S1, kpcP_S1, kpcU_S1, kpcW_S1⟩ := hw1
    have kScL_S1 : kcL S S1 := kcL_t (show kcL S ((S.1, S.2.1, S.2.2.1, S.2.2.2.1, S.2.2.2.2.1, S.2.2.2.2.2.1, S.2.2.2.2.2.2.1, S.2.2.2.2.2.2.2.1, ((f_xe_fuelGiven S), (f_xe_stepsDone S), (f_xe_latestFault S), x1, (f_xe_reach S), (f_xe_loops S))) : CS) from (kcL_r S)) kpcL_S1
    have kScP_S1 : kcP S S1 := kcP_t (show kcP S ((S.1, S.2.1, S.2.2.1, S.2.2.2.1, S.2.2.2.2.1, S.2.2.2.2.2.1, S.2.2.2.2.2.2.1, S.2.2.2.2.2.2.2.1, ((f_xe_fuelGiven S), (f_xe_stepsDone S), (f_xe_latestFault S), x1, (f_xe_reach S), (f_xe_loops S))) : CS) from (kcP_r S)) kpcP_S1
    have kScW_S1 : kcW S S1 := kcW_t (show kcW S ((S.1, S.2.1, S.2.2.1, S.2.2.2.1, S.2.2.2.2.1, S.2.2.2.2.2.1, S.2.2.2.2.2.2.1, S.2.2.2.2.2.2.2.1, ((f_xe_fuelGiven S), (f_xe_stepsDone S), (f_xe_latestFault S), x1, (f_xe_reach S), (f_xe_loops S))) : CS) from (kcW_r S)) kpcW_S1
    have nxr_length_S1 : (f_xr_length S1).toInt = (f_xr_length S).toInt := congrArg Int32.toInt kpcL_S1
    have nxr_length_S1 : (f_xr_length S1).toInt = (f_xr_length S).toInt := congrArg Int32.toInt kpcP_S1.1
    have nxr_place_S1 : (f_xr_place S1).toInt = (f_xr_place S).toInt := congrArg Int32.toInt kpcP_S1.2.1
    have nxe_underWay_S1 : (f_xe_underWay S1).toInt = x1.toInt := congrArg Int32.toInt kpcU_S1
    have nxp_columns_S1 : (f_xp_columns S1).toInt = (f_xp_columns S).toInt := congrArg Int32.toInt kpcW_S1.1
    have nxp_rows_S1 : (f_xp_rows S1).toInt = (f_xp_rows S).toInt := congrArg Int32.toInt kpcW_S1.2
    have rrv1 := zt_rng rv1
    refine lv_istore_n (lv' := [(3, .int rv1), (0, .ref (ad 72)), (1, .int p0), (2, .int p1)]) hx hb d_Engine_doUnderWay_29 rfl hl (by decide) rfl (fun ls hl => ?_)
    refine lv_aload_n hx hb d_Engine_doUnderWay_30 rfl (lv_at hl 1 rfl) ?_
    refine lv_dup hx hb d_Engine_doUnderWay_31 rfl ?_
    refine va_get (D := D) (ci := 7) (v := .int (f_xe_underWay S1)) (C := "PageScribe$Engine") (T := F_Engine) (N := 11) hx hb hts i_Engine hown hK hP 72 (ce_72 _ _ _) cl_7 8 (by decide) (hts _ k_2_32) (fun _ h9 => h9) rfl d_Engine_doUnderWay_32 ?_
    refine lv_iconst (v := 1) hx hb d_Engine_doUnderWay_35 (by decide) ?_
    refine lv_isub hx hb d_Engine_doUnderWay_36 ?_
    refine lv_topi (fun x2 ex2 => ?_)
    have fx2 : x2.toInt = ((f_xe_underWay S1).toInt - 1) := by rw [ex2]; exact (zt_sub (show (f_xe_underWay S1).toInt = _ from rfl) tI_1 (by omega) (by omega)).trans (by omega)
    refine va_put (D := D) (ci := 7) (v := .int x2) (ty := .int) (C := "PageScribe$Engine") (T := F_Engine) (N := 11) hx hb hts i_Engine t_Engine t_Engine_ok n_Engine hown hK hP hD hS 72 (ce_72 _ _ _) cl_7 8 (by decide) (hts _ k_2_32) (fun _ h9 => h9) rfl (by decide +kernel) rfl rfl (Nat.le_of_ble_eq_true rfl) d_Engine_doUnderWay_37 (fun H locs hP hD hS => ?_)
    rw [cp_xe_underWay] at hP hD
    have hP : va_P D classes (cW T ad ((S1.1, S1.2.1, S1.2.2.1, S1.2.2.2.1, S1.2.2.2.2.1, S1.2.2.2.2.2.1, S1.2.2.2.2.2.2.1, S1.2.2.2.2.2.2.2.1, ((f_xe_fuelGiven S1), (f_xe_stepsDone S1), (f_xe_latestFault S1), x2, (f_xe_reach S1), (f_xe_loops S1))) : CS)) H := hP
    have hD : va_D A (cW T ad ((S1.1, S1.2.1, S1.2.2.1, S1.2.2.2.1, S1.2.2.2.2.1, S1.2.2.2.2.2.1, S1.2.2.2.2.2.2.1, S1.2.2.2.2.2.2.2.1, ((f_xe_fuelGiven S1), (f_xe_stepsDone S1), (f_xe_latestFault S1), x2, (f_xe_reach S1), (f_xe_loops S1))) : CS)) := hD
    refine lv_iload_n hx hb d_Engine_doUnderWay_40 rfl (lv_at hl 0 rfl) ?_
    exact j_iret F hr hlocks hK hS ((S1.1, S1.2.1, S1.2.2.1, S1.2.2.2.1, S1.2.2.2.2.1, S1.2.2.2.2.2.1, S1.2.2.2.2.2.2.1, S1.2.2.2.2.2.2.2.1, ((f_xe_fuelGiven S1), (f_xe_stepsDone S1), (f_xe_latestFault S1), x2, (f_xe_reach S1), (f_xe_loops S1))) : CS) ⟨⟨i_vst, i_vc0, i_vc1, i_vc2, i_vc3, i_vv0, i_vv1, i_vv2, i_vv3, i_vg, i_wct, i_wln, i_sd0, i_sd1, i_sd2, i_sd3, i_rln, i_rtx, i_rpl, i_rtk, i_cnv, i_pts, i_cik, (show 0 ≤ x2.toInt ∧ x2.toInt ≤ 8 by omega)⟩, kScL_S1, kScP_S1, (show x2 = f_xe_underWay S from Int32.toInt_inj.mp (show x2.toInt = (f_xe_underWay S).toInt by omega)), kScW_S1⟩ hP hD d_Engine_doUnderWay_41
  · have fc6_1 : 8 ≤ (f_xe_underWay S).toInt := Int.not_lt.mp (zt_nlt (show (f_xe_underWay S).toInt = _ from rfl) tI_8 c6_1)
    refine lv_bipush (v := 12) hx hb d_Engine_doUnderWay_9 (by decide) ?_
    exact j_iret F hr hlocks hK hS S ⟨⟨i_vst, i_vc0, i_vc1, i_vc2, i_vc3, i_vv0, i_vv1, i_vv2, i_vv3, i_vg, i_wct, i_wln, i_sd0, i_sd1, i_sd2, i_sd3, i_rln, i_rtx, i_rpl, i_rtk, i_cnv, i_pts, i_cik, i_und⟩, (kcL_r S), (kcP_r S), (kcU_r S), (kcW_r S)⟩ hP hD d_Engine_doUnderWay_11
theorem d_Engine_runArray_0 : decode prog_4_method_8_code 0 = .ok (.aload_n 0, 1) := by decide +kernel
theorem d_Engine_runArray_1 : decode prog_4_method_8_code 1 = .ok (.getfield 21, 3) := by decide +kernel
theorem d_Engine_runArray_4 : decode prog_4_method_8_code 4 = .ok (.bipush 8, 2) := by decide +kernel
theorem d_Engine_runArray_6 : decode prog_4_method_8_code 6 = .ok (.if_icmp .lt 6, 3) := by decide +kernel
theorem d_Engine_runArray_12 : decode prog_4_method_8_code 12 = .ok (.aload_n 0, 1) := by decide +kernel
theorem d_Engine_runArray_13 : decode prog_4_method_8_code 13 = .ok (.getfield 24, 3) := by decide +kernel
theorem k_2_33 : Cond.fieldLink "PageScribe$Engine" 24 "PageScribe$Engine" "reach" "I" ∈ gw := gw_of (tb_2 (List.mem_of_getElem? (i := 33) (by decide +kernel))) (by decide +kernel)
theorem d_Engine_runArray_16 : decode prog_4_method_8_code 16 = .ok (.istore_n 2, 1) := by decide +kernel
theorem d_Engine_runArray_17 : decode prog_4_method_8_code 17 = .ok (.aload_n 0, 1) := by decide +kernel
theorem d_Engine_runArray_18 : decode prog_4_method_8_code 18 = .ok (.dup, 1) := by decide +kernel
theorem d_Engine_runArray_19 : decode prog_4_method_8_code 19 = .ok (.getfield 21, 3) := by decide +kernel
theorem d_Engine_runArray_22 : decode prog_4_method_8_code 22 = .ok (.iconst 1, 1) := by decide +kernel
theorem d_Engine_runArray_23 : decode prog_4_method_8_code 23 = .ok (.iadd, 1) := by decide +kernel
theorem d_Engine_runArray_24 : decode prog_4_method_8_code 24 = .ok (.putfield 21, 3) := by decide +kernel
theorem d_Engine_runArray_27 : decode prog_4_method_8_code 27 = .ok (.aload_n 0, 1) := by decide +kernel
theorem d_Engine_runArray_28 : decode prog_4_method_8_code 28 = .ok (.aload_n 0, 1) := by decide +kernel
theorem d_Engine_runArray_29 : decode prog_4_method_8_code 29 = .ok (.getfield 24, 3) := by decide +kernel
theorem d_Engine_runArray_32 : decode prog_4_method_8_code 32 = .ok (.iload_n 1, 1) := by decide +kernel
theorem d_Engine_runArray_33 : decode prog_4_method_8_code 33 = .ok (.invokestatic 112, 3) := by decide +kernel
theorem d_Engine_runArray_36 : decode prog_4_method_8_code 36 = .ok (.invokestatic 115, 3) := by decide +kernel
theorem k_5_205 : Cond.methodLink "PageScribe$Engine" 115 ⟨"java/lang/Math", "max", "(II)I"⟩ ∈ gw := gw_of (tb_5 (List.mem_of_getElem? (i := 205) (by decide +kernel))) (by decide +kernel)
theorem d_Engine_runArray_39 : decode prog_4_method_8_code 39 = .ok (.putfield 24, 3) := by decide +kernel
theorem d_Engine_runArray_42 : decode prog_4_method_8_code 42 = .ok (.aload_n 0, 1) := by decide +kernel
theorem d_Engine_runArray_43 : decode prog_4_method_8_code 43 = .ok (.getfield 34, 3) := by decide +kernel
theorem k_2_23 : Cond.fieldLink "PageScribe$Engine" 34 "PageScribe$Engine" "memory" "LPageScribe$Memory;" ∈ gw := gw_of (tb_2 (List.mem_of_getElem? (i := 23) (by decide +kernel))) (by decide +kernel)
theorem d_Engine_runArray_46 : decode prog_4_method_8_code 46 = .ok (.getfield 80, 3) := by decide +kernel
theorem k_1_132 : Cond.fieldLink "PageScribe$Engine" 80 "PageScribe$Memory" "store" "LPageScribe$Store;" ∈ gw := gw_of (tb_1 (List.mem_of_getElem? (i := 132) (by decide +kernel))) (by decide +kernel)
theorem d_Engine_runArray_49 : decode prog_4_method_8_code 49 = .ok (.getfield 120, 3) := by decide +kernel
theorem k_1_109 : Cond.fieldLink "PageScribe$Engine" 120 "PageScribe$Store" "cells" "LPageScribe$Row;" ∈ gw := gw_of (tb_1 (List.mem_of_getElem? (i := 109) (by decide +kernel))) (by decide +kernel)
theorem d_Engine_runArray_52 : decode prog_4_method_8_code 52 = .ok (.astore_n 3, 1) := by decide +kernel
theorem d_Engine_runArray_53 : decode prog_4_method_8_code 53 = .ok (.iload_n 1, 1) := by decide +kernel
theorem d_Engine_runArray_54 : decode prog_4_method_8_code 54 = .ok (.invokestatic 123, 3) := by decide +kernel
theorem d_Engine_runArray_57 : decode prog_4_method_8_code 57 = .ok (.istore 4, 2) := by decide +kernel
theorem d_Engine_runArray_59 : decode prog_4_method_8_code 59 = .ok (.iconst 0, 1) := by decide +kernel
theorem d_Engine_runArray_60 : decode prog_4_method_8_code 60 = .ok (.istore 5, 2) := by decide +kernel
theorem d_Engine_runArray_62 : decode prog_4_method_8_code 62 = .ok (.iconst 0, 1) := by decide +kernel
theorem d_Engine_runArray_63 : decode prog_4_method_8_code 63 = .ok (.istore 6, 2) := by decide +kernel
theorem d_Engine_runArray_65 : decode prog_4_method_8_code 65 = .ok (.iload 6, 2) := by decide +kernel
theorem d_Engine_runArray_67 : decode prog_4_method_8_code 67 = .ok (.iload_n 1, 1) := by decide +kernel
theorem d_Engine_runArray_68 : decode prog_4_method_8_code 68 = .ok (.invokestatic 126, 3) := by decide +kernel
theorem d_Engine_runArray_71 : decode prog_4_method_8_code 71 = .ok (.if_icmp .ge 47, 3) := by decide +kernel
theorem d_Engine_runArray_118 : decode prog_4_method_8_code 118 = .ok (.aload_n 0, 1) := by decide +kernel
theorem d_Engine_runArray_119 : decode prog_4_method_8_code 119 = .ok (.dup, 1) := by decide +kernel
theorem d_Engine_runArray_120 : decode prog_4_method_8_code 120 = .ok (.getfield 21, 3) := by decide +kernel
theorem d_Engine_runArray_123 : decode prog_4_method_8_code 123 = .ok (.iconst 1, 1) := by decide +kernel
theorem d_Engine_runArray_124 : decode prog_4_method_8_code 124 = .ok (.isub, 1) := by decide +kernel
theorem d_Engine_runArray_125 : decode prog_4_method_8_code 125 = .ok (.putfield 21, 3) := by decide +kernel
theorem d_Engine_runArray_128 : decode prog_4_method_8_code 128 = .ok (.aload_n 0, 1) := by decide +kernel
theorem d_Engine_runArray_129 : decode prog_4_method_8_code 129 = .ok (.iload_n 2, 1) := by decide +kernel
theorem d_Engine_runArray_130 : decode prog_4_method_8_code 130 = .ok (.putfield 24, 3) := by decide +kernel
theorem d_Engine_runArray_133 : decode prog_4_method_8_code 133 = .ok (.iload 5, 2) := by decide +kernel
theorem d_Engine_runArray_135 : decode prog_4_method_8_code 135 = .ok (.ireturn, 1) := by decide +kernel
theorem d_Engine_runArray_74 : decode prog_4_method_8_code 74 = .ok (.iload 5, 2) := by decide +kernel
theorem d_Engine_runArray_76 : decode prog_4_method_8_code 76 = .ok (.ifCond .ne 42, 3) := by decide +kernel
theorem d_Engine_runArray_79 : decode prog_4_method_8_code 79 = .ok (.aload_n 0, 1) := by decide +kernel
theorem d_Engine_runArray_80 : decode prog_4_method_8_code 80 = .ok (.aload_n 3, 1) := by decide +kernel
theorem d_Engine_runArray_81 : decode prog_4_method_8_code 81 = .ok (.iload 4, 2) := by decide +kernel
theorem d_Engine_runArray_83 : decode prog_4_method_8_code 83 = .ok (.iload 6, 2) := by decide +kernel
theorem d_Engine_runArray_85 : decode prog_4_method_8_code 85 = .ok (.iadd, 1) := by decide +kernel
theorem d_Engine_runArray_86 : decode prog_4_method_8_code 86 = .ok (.invokevirtual 90, 3) := by decide +kernel
theorem k_5_208 : Cond.methodLink "PageScribe$Engine" 90 ⟨"PageScribe$Row", "kindAt", "(I)I"⟩ ∈ gw := gw_of (tb_5 (List.mem_of_getElem? (i := 208) (by decide +kernel))) (by decide +kernel)
theorem d_Engine_runArray_89 : decode prog_4_method_8_code 89 = .ok (.aload_n 3, 1) := by decide +kernel
theorem d_Engine_runArray_90 : decode prog_4_method_8_code 90 = .ok (.iload 4, 2) := by decide +kernel
theorem d_Engine_runArray_92 : decode prog_4_method_8_code 92 = .ok (.iload 6, 2) := by decide +kernel
theorem d_Engine_runArray_94 : decode prog_4_method_8_code 94 = .ok (.iadd, 1) := by decide +kernel
theorem d_Engine_runArray_95 : decode prog_4_method_8_code 95 = .ok (.invokevirtual 95, 3) := by decide +kernel
theorem k_5_209 : Cond.methodLink "PageScribe$Engine" 95 ⟨"PageScribe$Row", "numberAt", "(I)I"⟩ ∈ gw := gw_of (tb_5 (List.mem_of_getElem? (i := 209) (by decide +kernel))) (by decide +kernel)
theorem d_Engine_runArray_98 : decode prog_4_method_8_code 98 = .ok (.aload_n 3, 1) := by decide +kernel
theorem d_Engine_runArray_99 : decode prog_4_method_8_code 99 = .ok (.iload 4, 2) := by decide +kernel
theorem d_Engine_runArray_101 : decode prog_4_method_8_code 101 = .ok (.iload 6, 2) := by decide +kernel
theorem d_Engine_runArray_103 : decode prog_4_method_8_code 103 = .ok (.iadd, 1) := by decide +kernel
theorem d_Engine_runArray_104 : decode prog_4_method_8_code 104 = .ok (.invokevirtual 105, 3) := by decide +kernel
theorem k_5_210 : Cond.methodLink "PageScribe$Engine" 105 ⟨"PageScribe$Row", "realAt", "(I)D"⟩ ∈ gw := gw_of (tb_5 (List.mem_of_getElem? (i := 210) (by decide +kernel))) (by decide +kernel)
theorem d_Engine_runArray_107 : decode prog_4_method_8_code 107 = .ok (.invokevirtual 109, 3) := by decide +kernel
theorem d_Engine_runArray_110 : decode prog_4_method_8_code 110 = .ok (.istore 5, 2) := by decide +kernel
theorem d_Engine_runArray_112 : decode prog_4_method_8_code 112 = .ok (.iinc 6 1, 3) := by decide +kernel
theorem d_Engine_runArray_115 : decode prog_4_method_8_code 115 = .ok (.goto (-50), 3) := by decide +kernel
theorem d_Engine_runArray_9 : decode prog_4_method_8_code 9 = .ok (.bipush 12, 2) := by decide +kernel
theorem d_Engine_runArray_11 : decode prog_4_method_8_code 11 = .ok (.ireturn, 1) := by decide +kernel
set_option maxHeartbeats 4000000 in
set_option maxRecDepth 100000 in
theorem c_Engine_runArray (l : Launch) (D : va_G) (T : Nat → ClassId) (ad : Nat → Nat) (g : GE) (Bq : Nat → Prop) (d : Nat) (hdv : ∀ d2, d2 < d → DVP l D T ad g Bq d2) (S : CS) (p0 : Int32) (sz : Nat)  (hI : CIv S) (hd : 8 ≤ (f_xe_underWay S).toInt + d) : Met l ⟨"PageScribe$Engine", "runArray", "(I)I"⟩ (wy ⟨"PageScribe$Engine", "runArray", "(I)I"⟩ prog_4_method_8_code 7 (some .int)) ({ frames := 6 + 10 * d, cells := 0, slots := 0, locals := 70 * (6 + 10 * d) }) (va_Pc [.ref (ad 72), .int p0] (Pw D T (cW T ad S) sz (EC g Bq ad))) (va_Qi (fun (r : Int32) (u : CS) => CIv u ∧ kcL S u ∧ kcP S u ∧ kcU S u ∧ kcW S u) (fun u t => Bw D T (va_A (cW T ad S) sz) (cW T ad u) t) (va_A (cW T ad S) sz)) 0 0 (va_A (cW T ad S) sz) := by
  refine j_met (y := ⟨"PageScribe$Engine", "runArray", "(I)I"⟩) (b := prog_4_method_8_code) (n := 7) (ret := (some .int)) (av := [.ref (ad 72), .int p0]) (Qc := fun A => va_Qi (fun (r : Int32) (u : CS) => CIv u ∧ kcL S u ∧ kcP S u ∧ kcU S u ∧ kcW S u) (fun u t => Bw D T A (cW T ad u) t) A) (by decide +kernel) (Nat.le_of_ble_eq_true rfl) (fun p e s m args below meth c A ls F hr hlocks hnm hK hP hD hS hA hN hE hl => ?_)
  obtain ⟨hx, hb, hml, hown, hts⟩ := id F
  have hl : lv_has ls 7 [(0, .ref (ad 72)), (1, .int p0)] := hl
  obtain ⟨i_vst, i_vc0, i_vc1, i_vc2, i_vc3, i_vv0, i_vv1, i_vv2, i_vv3, i_vg, i_wct, i_wln, i_sd0, i_sd1, i_sd2, i_sd3, i_rln, i_rtx, i_rpl, i_rtk, i_cnv, i_pts, i_cik, i_und⟩ := id hI
  have hAB : ∀ q, A q → Bq q := EC.ab hE hN
  have hEV := hE.1.narrow hAB
  have rp0 := zt_rng p0
  refine lv_aload_n hx hb d_Engine_runArray_0 rfl (lv_at hl 0 rfl) ?_
  refine va_get (D := D) (ci := 7) (v := .int (f_xe_underWay S)) (C := "PageScribe$Engine") (T := F_Engine) (N := 11) hx hb hts i_Engine hown hK hP 72 (ce_72 _ _ _) cl_7 8 (by decide) (hts _ k_2_32) (fun _ h9 => h9) rfl d_Engine_runArray_1 ?_
  refine lv_bipush (v := 8) hx hb d_Engine_runArray_4 (by decide) ?_
  refine lv_icmp_lt (tgt := 12) hx hb d_Engine_runArray_6 (by decide) (fun c6_1 => ?_) (fun c6_1 => ?_)
  · have fc6_1 : (f_xe_underWay S).toInt < 8 := zt_lt (show (f_xe_underWay S).toInt = _ from rfl) tI_8 c6_1
    refine lv_aload_n hx hb d_Engine_runArray_12 rfl (lv_at hl 0 rfl) ?_
    refine va_get (D := D) (ci := 7) (v := .int (f_xe_reach S)) (C := "PageScribe$Engine") (T := F_Engine) (N := 11) hx hb hts i_Engine hown hK hP 72 (ce_72 _ _ _) cl_7 9 (by decide) (hts _ k_2_33) (fun _ h9 => h9) rfl d_Engine_runArray_13 ?_
    refine lv_istore_n (lv' := [(2, .int (f_xe_reach S)), (0, .ref (ad 72)), (1, .int p0)]) hx hb d_Engine_runArray_16 rfl hl (by decide) rfl (fun ls hl => ?_)
    refine lv_aload_n hx hb d_Engine_runArray_17 rfl (lv_at hl 1 rfl) ?_
    refine lv_dup hx hb d_Engine_runArray_18 rfl ?_
    refine va_get (D := D) (ci := 7) (v := .int (f_xe_underWay S)) (C := "PageScribe$Engine") (T := F_Engine) (N := 11) hx hb hts i_Engine hown hK hP 72 (ce_72 _ _ _) cl_7 8 (by decide) (hts _ k_2_32) (fun _ h9 => h9) rfl d_Engine_runArray_19 ?_
    refine lv_iconst (v := 1) hx hb d_Engine_runArray_22 (by decide) ?_
    refine lv_iadd hx hb d_Engine_runArray_23 ?_
    refine lv_topi (fun x1 ex1 => ?_)
    have fx1 : x1.toInt = ((f_xe_underWay S).toInt + 1) := by rw [ex1]; exact (zt_add (show (f_xe_underWay S).toInt = _ from rfl) tI_1 (by omega) (by omega)).trans (by omega)
    refine va_put (D := D) (ci := 7) (v := .int x1) (ty := .int) (C := "PageScribe$Engine") (T := F_Engine) (N := 11) hx hb hts i_Engine t_Engine t_Engine_ok n_Engine hown hK hP hD hS 72 (ce_72 _ _ _) cl_7 8 (by decide) (hts _ k_2_32) (fun _ h9 => h9) rfl (by decide +kernel) rfl rfl (Nat.le_of_ble_eq_true rfl) d_Engine_runArray_24 (fun H locs hP hD hS => ?_)
    rw [cp_xe_underWay] at hP hD
    have hP : va_P D classes (cW T ad ((S.1, S.2.1, S.2.2.1, S.2.2.2.1, S.2.2.2.2.1, S.2.2.2.2.2.1, S.2.2.2.2.2.2.1, S.2.2.2.2.2.2.2.1, ((f_xe_fuelGiven S), (f_xe_stepsDone S), (f_xe_latestFault S), x1, (f_xe_reach S), (f_xe_loops S))) : CS)) H := hP
    have hD : va_D A (cW T ad ((S.1, S.2.1, S.2.2.1, S.2.2.2.1, S.2.2.2.2.1, S.2.2.2.2.2.1, S.2.2.2.2.2.2.1, S.2.2.2.2.2.2.2.1, ((f_xe_fuelGiven S), (f_xe_stepsDone S), (f_xe_latestFault S), x1, (f_xe_reach S), (f_xe_loops S))) : CS)) := hD
    refine lv_aload_n hx hb d_Engine_runArray_27 rfl (lv_at hl 1 rfl) ?_
    refine lv_aload_n hx hb d_Engine_runArray_28 rfl (lv_at hl 1 rfl) ?_
    refine va_get (D := D) (ci := 7) (v := .int (f_xe_reach S)) (C := "PageScribe$Engine") (T := F_Engine) (N := 11) hx hb hts i_Engine hown hK hP 72 (ce_72 _ _ _) cl_7 9 (by decide) (hts _ k_2_33) (fun _ h9 => h9) rfl d_Engine_runArray_29 ?_
    refine lv_iload_n hx hb d_Engine_runArray_32 rfl (lv_at hl 2 rfl) ?_
    refine j_ci (wc := []) (wr := (cW T ad ((S.1, S.2.1, S.2.2.1, S.2.2.2.1, S.2.2.2.2.1, S.2.2.2.2.2.1, S.2.2.2.2.2.2.1, S.2.2.2.2.2.2.2.1, ((f_xe_fuelGiven S), (f_xe_stepsDone S), (f_xe_latestFault S), x1, (f_xe_reach S), (f_xe_loops S))) : CS))) hK hP hD hS hA [] csc rfl csc_all csc_nd (fun _ _ => List.not_mem_nil) (va_runSN (As := [.int p0]) (rest := [.int (f_xe_reach S), .ref (ad 72)]) F (c_Ps_endOf l D T p0  H.size) (j_cSN (k := 1) hts k_5_125 k_1_1 (hE.2.2.2 (Cond.methodLinkNest "PageScribe$Engine" 112 ⟨"PageScribe", "endOf", "(I)I"⟩ "PageScribe") (List.mem_of_getElem? (i := 10) rfl)) k_5_124 (by decide +kernel) ⟨by dsimp only; omega, by dsimp only; omega⟩) (j_preS hK hP hD [] rfl (by decide) (fun _ _ _ _ h => h) (fun _ _ _ => trivial)) rfl rfl hl.1 rfl (lv_room (Nat.le_of_ble_eq_true rfl)) d_Engine_runArray_33 ⟨Nat.le_of_ble_eq_true rfl, Nat.le_of_ble_eq_true rfl⟩) (fun rv1 u1 H locs hw1 hP hD hS => ?_)
    have hP : va_P D classes (cW T ad ((S.1, S.2.1, S.2.2.1, S.2.2.2.1, S.2.2.2.2.1, S.2.2.2.2.2.1, S.2.2.2.2.2.2.1, S.2.2.2.2.2.2.2.1, ((f_xe_fuelGiven S), (f_xe_stepsDone S), (f_xe_latestFault S), x1, (f_xe_reach S), (f_xe_loops S))) : CS)) H := hP
    have hD : va_D A (cW T ad ((S.1, S.2.1, S.2.2.1, S.2.2.2.1, S.2.2.2.2.1, S.2.2.2.2.2.1, S.2.2.2.2.2.2.1, S.2.2.2.2.2.2.2.1, ((f_xe_fuelGiven S), (f_xe_stepsDone S), (f_xe_latestFault S), x1, (f_xe_reach S), (f_xe_loops S))) : CS)) := hD
    have rrv1 := zt_rng rv1
    refine j_ci (wc := []) (wr := (cW T ad ((S.1, S.2.1, S.2.2.1, S.2.2.2.1, S.2.2.2.2.1, S.2.2.2.2.2.1, S.2.2.2.2.2.2.1, S.2.2.2.2.2.2.2.1, ((f_xe_fuelGiven S), (f_xe_stepsDone S), (f_xe_latestFault S), x1, (f_xe_reach S), (f_xe_loops S))) : CS))) hK hP hD hS hA [] csc rfl csc_all csc_nd (fun _ _ => List.not_mem_nil) (va_runS (As := [.int (f_xe_reach S), .int rv1]) (rest := [.ref (ad 72)]) F (c_Math_max l D T (f_xe_reach S) rv1  H.size) (j_cS (k := 2) hts k_3_218 k_1_21 k_5_205 k_3_217 (by decide +kernel) ⟨by dsimp only; omega, by dsimp only; omega⟩) (j_preS hK hP hD [] rfl (by decide) (fun _ _ _ _ h => h) (fun _ _ _ => trivial)) rfl rfl hl.1 rfl (lv_room (Nat.le_of_ble_eq_true rfl)) d_Engine_runArray_36 ⟨Nat.le_of_ble_eq_true rfl, Nat.le_of_ble_eq_true rfl⟩) (fun rv2 u2 H locs hw2 hP hD hS => ?_)
    have hP : va_P D classes (cW T ad ((S.1, S.2.1, S.2.2.1, S.2.2.2.1, S.2.2.2.2.1, S.2.2.2.2.2.1, S.2.2.2.2.2.2.1, S.2.2.2.2.2.2.2.1, ((f_xe_fuelGiven S), (f_xe_stepsDone S), (f_xe_latestFault S), x1, (f_xe_reach S), (f_xe_loops S))) : CS)) H := hP
    have hD : va_D A (cW T ad ((S.1, S.2.1, S.2.2.1, S.2.2.2.1, S.2.2.2.2.1, S.2.2.2.2.2.1, S.2.2.2.2.2.2.1, S.2.2.2.2.2.2.2.1, ((f_xe_fuelGiven S), (f_xe_stepsDone S), (f_xe_latestFault S), x1, (f_xe_reach S), (f_xe_loops S))) : CS)) := hD
    have qhw2 : (f_xe_reach S).toInt ≤ rv2.toInt ∧ rv1.toInt ≤ rv2.toInt ∧ (rv2.toInt = (f_xe_reach S).toInt ∨ rv2.toInt = rv1.toInt) := by simpa only [fx1] using hw2
    have rrv2 := zt_rng rv2
    refine va_put (D := D) (ci := 7) (v := .int rv2) (ty := .int) (C := "PageScribe$Engine") (T := F_Engine) (N := 11) hx hb hts i_Engine t_Engine t_Engine_ok n_Engine hown hK hP hD hS 72 (ce_72 _ _ _) cl_7 9 (by decide) (hts _ k_2_33) (fun _ h9 => h9) rfl (by decide +kernel) rfl rfl (Nat.le_of_ble_eq_true rfl) d_Engine_runArray_39 (fun H locs hP hD hS => ?_)
    rw [cp_xe_reach] at hP hD
    have hP : va_P D classes (cW T ad ((S.1, S.2.1, S.2.2.1, S.2.2.2.1, S.2.2.2.2.1, S.2.2.2.2.2.1, S.2.2.2.2.2.2.1, S.2.2.2.2.2.2.2.1, ((f_xe_fuelGiven S), (f_xe_stepsDone S), (f_xe_latestFault S), x1, rv2, (f_xe_loops S))) : CS)) H := hP
    have hD : va_D A (cW T ad ((S.1, S.2.1, S.2.2.1, S.2.2.2.1, S.2.2.2.2.1, S.2.2.2.2.2.1, S.2.2.2.2.2.2.1, S.2.2.2.2.2.2.2.1, ((f_xe_fuelGiven S), (f_xe_stepsDone S), (f_xe_latestFault S), x1, rv2, (f_xe_loops S))) : CS)) := hD
    refine lv_aload_n hx hb d_Engine_runArray_42 rfl (lv_at hl 1 rfl) ?_
    refine va_get (D := D) (ci := 7) (v := .ref (ad 8)) (C := "PageScribe$Engine") (T := F_Engine) (N := 11) hx hb hts i_Engine hown hK hP 72 (ce_72 _ _ _) cl_7 1 (by decide) (hts _ k_2_23) (fun _ h9 => h9) rfl d_Engine_runArray_43 ?_
    refine va_get (D := D) (ci := 2) (v := .ref (ad 12)) (C := "PageScribe$Memory") (T := F_Memory) (N := 8) hx hb hts i_Memory hown hK hP 8 (ce_8 _ _ _) cl_2 1 (by decide) (hts _ k_1_132) (fun _ h9 => h9) rfl d_Engine_runArray_46 ?_
    refine va_get (D := D) (ci := 3) (v := .ref (ad 13)) (C := "PageScribe$Store") (T := F_Store) (N := 5) hx hb hts i_Store hown hK hP 12 (ce_12 _ _ _) cl_3 0 (by decide) (hts _ k_1_109) (fun _ h9 => h9) rfl d_Engine_runArray_49 ?_
    refine lv_astore_n (lv' := [(3, .ref (ad 13)), (2, .int (f_xe_reach S)), (0, .ref (ad 72)), (1, .int p0)]) hx hb d_Engine_runArray_52 rfl hl (by decide) rfl (fun ls hl => ?_)
    refine lv_iload_n hx hb d_Engine_runArray_53 rfl (lv_at hl 3 rfl) ?_
    refine j_ci (wc := []) (wr := (cW T ad ((S.1, S.2.1, S.2.2.1, S.2.2.2.1, S.2.2.2.2.1, S.2.2.2.2.2.1, S.2.2.2.2.2.2.1, S.2.2.2.2.2.2.2.1, ((f_xe_fuelGiven S), (f_xe_stepsDone S), (f_xe_latestFault S), x1, rv2, (f_xe_loops S))) : CS))) hK hP hD hS hA [] csc rfl csc_all csc_nd (fun _ _ => List.not_mem_nil) (va_runSN (As := [.int p0]) (rest := []) F (c_Ps_firstOf l D T p0  H.size) (j_cSN (k := 1) hts k_5_23 k_1_1 (hE.2.2.2 (Cond.methodLinkNest "PageScribe$Engine" 123 ⟨"PageScribe", "firstOf", "(I)I"⟩ "PageScribe") (List.mem_of_getElem? (i := 11) rfl)) k_5_22 (by decide +kernel) ⟨by dsimp only; omega, by dsimp only; omega⟩) (j_preS hK hP hD [] rfl (by decide) (fun _ _ _ _ h => h) (fun _ _ _ => trivial)) rfl rfl hl.1 rfl (lv_room (Nat.le_of_ble_eq_true rfl)) d_Engine_runArray_54 ⟨Nat.le_of_ble_eq_true rfl, Nat.le_of_ble_eq_true rfl⟩) (fun rv3 u3 H locs hw3 hP hD hS => ?_)
    have hP : va_P D classes (cW T ad ((S.1, S.2.1, S.2.2.1, S.2.2.2.1, S.2.2.2.2.1, S.2.2.2.2.2.1, S.2.2.2.2.2.2.1, S.2.2.2.2.2.2.2.1, ((f_xe_fuelGiven S), (f_xe_stepsDone S), (f_xe_latestFault S), x1, rv2, (f_xe_loops S))) : CS)) H := hP
    have hD : va_D A (cW T ad ((S.1, S.2.1, S.2.2.1, S.2.2.2.1, S.2.2.2.2.1, S.2.2.2.2.2.1, S.2.2.2.2.2.2.1, S.2.2.2.2.2.2.2.1, ((f_xe_fuelGiven S), (f_xe_stepsDone S), (f_xe_latestFault S), x1, rv2, (f_xe_loops S))) : CS)) := hD
    have rrv3 := zt_rng rv3
    refine lv_istore (lv' := [(4, .int rv3), (3, .ref (ad 13)), (2, .int (f_xe_reach S)), (0, .ref (ad 72)), (1, .int p0)]) hx hb d_Engine_runArray_57 hl (by decide) rfl (fun ls hl => ?_)
    refine lv_iconst (v := 0) hx hb d_Engine_runArray_59 (by decide) ?_
    refine lv_istore (lv' := [(5, .int 0), (4, .int rv3), (3, .ref (ad 13)), (2, .int (f_xe_reach S)), (0, .ref (ad 72)), (1, .int p0)]) hx hb d_Engine_runArray_60 hl (by decide) rfl (fun ls hl => ?_)
    refine lv_iconst (v := 0) hx hb d_Engine_runArray_62 (by decide) ?_
    refine lv_istore (lv' := [(6, .int 0), (5, .int 0), (4, .int rv3), (3, .ref (ad 13)), (2, .int (f_xe_reach S)), (0, .ref (ad 72)), (1, .int p0)]) hx hb d_Engine_runArray_63 hl (by decide) rfl (fun ls hl => ?_)
    refine j_loop (α := CS × Int32 × Int32) (fun k x H locs ls => (0 ≤ x.2.2.toInt ∧ x.2.2.toInt ≤ 256 ∧ 256 ≤ x.2.2.toInt + ((k : Nat) : Int) ∧ (f_xe_underWay x.1).toInt = (f_xe_underWay S).toInt + 1) ∧ CIv x.1 ∧ kcL S x.1 ∧ kcP S x.1 ∧ kcW S x.1 ∧ va_P D classes (cW T ad x.1) H ∧ va_D A (cW T ad x.1) ∧ va_S A s.heap H locs ∧ lv_has ls 7 [(6, .int x.2.2), (5, .int x.2.1), (4, .int rv3), (3, .ref (ad 13)), (2, .int (f_xe_reach S)), (0, .ref (ad 72)), (1, .int p0)]) (fun _ _ ls => F0 m 65 ls []) (fun k x H locs ls hI9 ih => ?_) 256 (((S.1, S.2.1, S.2.2.1, S.2.2.2.1, S.2.2.2.2.1, S.2.2.2.2.2.1, S.2.2.2.2.2.2.1, S.2.2.2.2.2.2.2.1, ((f_xe_fuelGiven S), (f_xe_stepsDone S), (f_xe_latestFault S), x1, rv2, (f_xe_loops S))) : CS), (0 : Int32), (0 : Int32)) _ _ _ ⟨(show 0 ≤ (0 : Int32).toInt ∧ (0 : Int32).toInt ≤ 256 ∧ 256 ≤ (0 : Int32).toInt + ((256 : Nat) : Int) ∧ x1.toInt = (f_xe_underWay S).toInt + 1 by have := tI_0; have := tI_0; omega), ⟨i_vst, i_vc0, i_vc1, i_vc2, i_vc3, i_vv0, i_vv1, i_vv2, i_vv3, i_vg, i_wct, i_wln, i_sd0, i_sd1, i_sd2, i_sd3, i_rln, i_rtx, i_rpl, i_rtk, i_cnv, i_pts, i_cik, (show 0 ≤ x1.toInt ∧ x1.toInt ≤ 8 by omega)⟩, (show kcL S ((S.1, S.2.1, S.2.2.1, S.2.2.2.1, S.2.2.2.2.1, S.2.2.2.2.2.1, S.2.2.2.2.2.2.1, S.2.2.2.2.2.2.2.1, ((f_xe_fuelGiven S), (f_xe_stepsDone S), (f_xe_latestFault S), x1, rv2, (f_xe_loops S))) : CS) from (kcL_r S)), (show kcP S ((S.1, S.2.1, S.2.2.1, S.2.2.2.1, S.2.2.2.2.1, S.2.2.2.2.2.1, S.2.2.2.2.2.2.1, S.2.2.2.2.2.2.2.1, ((f_xe_fuelGiven S), (f_xe_stepsDone S), (f_xe_latestFault S), x1, rv2, (f_xe_loops S))) : CS) from (kcP_r S)), (show kcW S ((S.1, S.2.1, S.2.2.1, S.2.2.2.1, S.2.2.2.2.1, S.2.2.2.2.2.1, S.2.2.2.2.2.2.1, S.2.2.2.2.2.2.2.1, ((f_xe_fuelGiven S), (f_xe_stepsDone S), (f_xe_latestFault S), x1, rv2, (f_xe_loops S))) : CS) from (kcW_r S)), hP, hD, hS, lv_sub hl [0, 1, 2, 3, 4, 5, 6] rfl⟩
    obtain ⟨S1, e, i⟩ := x
    obtain ⟨hf1, hIx, klcL_S1, klcP_S1, klcW_S1, hP, hD, hS, hl⟩ := hI9
    obtain ⟨i_vst, i_vc0, i_vc1, i_vc2, i_vc3, i_vv0, i_vv1, i_vv2, i_vv3, i_vg, i_wct, i_wln, i_sd0, i_sd1, i_sd2, i_sd3, i_rln, i_rtx, i_rpl, i_rtk, i_cnv, i_pts, i_cik, i_und⟩ := (show CIv S1 from hIx)
    have klcL_S1 : kcL S S1 := klcL_S1
    have klcP_S1 : kcP S S1 := klcP_S1
    have klcW_S1 : kcW S S1 := klcW_S1
    have hf1 : 0 ≤ i.toInt ∧ i.toInt ≤ 256 ∧ 256 ≤ i.toInt + ((k : Nat) : Int) ∧ (f_xe_underWay S1).toInt = (f_xe_underWay S).toInt + 1 := hf1
    have hP : va_P D classes (cW T ad S1) H := hP
    have hD : va_D A (cW T ad S1) := hD
    have hl : lv_has ls 7 [(6, .int i), (5, .int e), (4, .int rv3), (3, .ref (ad 13)), (2, .int (f_xe_reach S)), (0, .ref (ad 72)), (1, .int p0)] := hl
    refine lv_iload hx hb d_Engine_runArray_65 (lv_at hl 0 rfl) ?_
    refine lv_iload_n hx hb d_Engine_runArray_67 rfl (lv_at hl 6 rfl) ?_
    refine j_ci (wc := []) (wr := (cW T ad S1)) hK hP hD hS hA [] csc rfl csc_all csc_nd (fun _ _ => List.not_mem_nil) (va_runSN (As := [.int p0]) (rest := [.int i]) F (c_Ps_lengthOf2 l D T p0  H.size) (j_cSN (k := 1) hts k_4_189 k_1_1 (hE.2.2.2 (Cond.methodLinkNest "PageScribe$Engine" 126 ⟨"PageScribe", "lengthOf", "(I)I"⟩ "PageScribe") (List.mem_of_getElem? (i := 12) rfl)) k_4_188 (by decide +kernel) ⟨by dsimp only; omega, by dsimp only; omega⟩) (j_preS hK hP hD [] rfl (by decide) (fun _ _ _ _ h => h) (fun _ _ _ => trivial)) rfl rfl hl.1 rfl (lv_room (Nat.le_of_ble_eq_true rfl)) d_Engine_runArray_68 ⟨Nat.le_of_ble_eq_true rfl, Nat.le_of_ble_eq_true rfl⟩) (fun rv4 u4 H locs hw4 hP hD hS => ?_)
    have hP : va_P D classes (cW T ad S1) H := hP
    have hD : va_D A (cW T ad S1) := hD
    have qhw4 : rv4.toInt < 256 := hw4
    have rrv4 := zt_rng rv4
    refine lv_icmp_ge (tgt := 118) hx hb d_Engine_runArray_71 (by decide) (fun c71_1 => ?_) (fun c71_1 => ?_)
    · have fc71_1 : rv4.toInt ≤ i.toInt := zt_le (show rv4.toInt = _ from rfl) (show i.toInt = _ from rfl) c71_1
      refine lv_aload_n hx hb d_Engine_runArray_118 rfl (lv_at hl 5 rfl) ?_
      refine lv_dup hx hb d_Engine_runArray_119 rfl ?_
      refine va_get (D := D) (ci := 7) (v := .int (f_xe_underWay S1)) (C := "PageScribe$Engine") (T := F_Engine) (N := 11) hx hb hts i_Engine hown hK hP 72 (ce_72 _ _ _) cl_7 8 (by decide) (hts _ k_2_32) (fun _ h9 => h9) rfl d_Engine_runArray_120 ?_
      refine lv_iconst (v := 1) hx hb d_Engine_runArray_123 (by decide) ?_
      refine lv_isub hx hb d_Engine_runArray_124 ?_
      refine lv_topi (fun x2 ex2 => ?_)
      have fx2 : x2.toInt = ((f_xe_underWay S1).toInt - 1) := by rw [ex2]; exact (zt_sub (show (f_xe_underWay S1).toInt = _ from rfl) tI_1 (by omega) (by omega)).trans (by omega)
      refine va_put (D := D) (ci := 7) (v := .int x2) (ty := .int) (C := "PageScribe$Engine") (T := F_Engine) (N := 11) hx hb hts i_Engine t_Engine t_Engine_ok n_Engine hown hK hP hD hS 72 (ce_72 _ _ _) cl_7 8 (by decide) (hts _ k_2_32) (fun _ h9 => h9) rfl (by decide +kernel) rfl rfl (Nat.le_of_ble_eq_true rfl) d_Engine_runArray_125 (fun H locs hP hD hS => ?_)
      rw [cp_xe_underWay] at hP hD
      have hP : va_P D classes (cW T ad ((S1.1, S1.2.1, S1.2.2.1, S1.2.2.2.1, S1.2.2.2.2.1, S1.2.2.2.2.2.1, S1.2.2.2.2.2.2.1, S1.2.2.2.2.2.2.2.1, ((f_xe_fuelGiven S1), (f_xe_stepsDone S1), (f_xe_latestFault S1), x2, (f_xe_reach S1), (f_xe_loops S1))) : CS)) H := hP
      have hD : va_D A (cW T ad ((S1.1, S1.2.1, S1.2.2.1, S1.2.2.2.1, S1.2.2.2.2.1, S1.2.2.2.2.2.1, S1.2.2.2.2.2.2.1, S1.2.2.2.2.2.2.2.1, ((f_xe_fuelGiven S1), (f_xe_stepsDone S1), (f_xe_latestFault S1), x2, (f_xe_reach S1), (f_xe_loops S1))) : CS)) := hD
      refine lv_aload_n hx hb d_Engine_runArray_128 rfl (lv_at hl 5 rfl) ?_
      refine lv_iload_n hx hb d_Engine_runArray_129 rfl (lv_at hl 4 rfl) ?_
      refine va_put (D := D) (ci := 7) (v := .int (f_xe_reach S)) (ty := .int) (C := "PageScribe$Engine") (T := F_Engine) (N := 11) hx hb hts i_Engine t_Engine t_Engine_ok n_Engine hown hK hP hD hS 72 (ce_72 _ _ _) cl_7 9 (by decide) (hts _ k_2_33) (fun _ h9 => h9) rfl (by decide +kernel) rfl rfl (Nat.le_of_ble_eq_true rfl) d_Engine_runArray_130 (fun H locs hP hD hS => ?_)
      rw [cp_xe_reach] at hP hD
      have hP : va_P D classes (cW T ad ((S1.1, S1.2.1, S1.2.2.1, S1.2.2.2.1, S1.2.2.2.2.1, S1.2.2.2.2.2.1, S1.2.2.2.2.2.2.1, S1.2.2.2.2.2.2.2.1, ((f_xe_fuelGiven S1), (f_xe_stepsDone S1), (f_xe_latestFault S1), x2, (f_xe_reach S), (f_xe_loops S1))) : CS)) H := hP
      have hD : va_D A (cW T ad ((S1.1, S1.2.1, S1.2.2.1, S1.2.2.2.1, S1.2.2.2.2.1, S1.2.2.2.2.2.1, S1.2.2.2.2.2.2.1, S1.2.2.2.2.2.2.2.1, ((f_xe_fuelGiven S1), (f_xe_stepsDone S1), (f_xe_latestFault S1), x2, (f_xe_reach S), (f_xe_loops S1))) : CS)) := hD
      refine lv_iload hx hb d_Engine_runArray_133 (lv_at hl 1 rfl) ?_
      exact j_iret F hr hlocks hK hS ((S1.1, S1.2.1, S1.2.2.1, S1.2.2.2.1, S1.2.2.2.2.1, S1.2.2.2.2.2.1, S1.2.2.2.2.2.2.1, S1.2.2.2.2.2.2.2.1, ((f_xe_fuelGiven S1), (f_xe_stepsDone S1), (f_xe_latestFault S1), x2, (f_xe_reach S), (f_xe_loops S1))) : CS) ⟨⟨i_vst, i_vc0, i_vc1, i_vc2, i_vc3, i_vv0, i_vv1, i_vv2, i_vv3, i_vg, i_wct, i_wln, i_sd0, i_sd1, i_sd2, i_sd3, i_rln, i_rtx, i_rpl, i_rtk, i_cnv, i_pts, i_cik, (show 0 ≤ x2.toInt ∧ x2.toInt ≤ 8 by omega)⟩, klcL_S1, klcP_S1, (show x2 = f_xe_underWay S from Int32.toInt_inj.mp (show x2.toInt = (f_xe_underWay S).toInt by omega)), klcW_S1⟩ hP hD d_Engine_runArray_135
    · have fc71_1 : i.toInt < rv4.toInt := Int.not_le.mp (zt_nle (show rv4.toInt = _ from rfl) (show i.toInt = _ from rfl) c71_1)
      refine lv_iload hx hb d_Engine_runArray_74 (lv_at hl 1 rfl) ?_
      refine lv_if_ne (tgt := 118) hx hb d_Engine_runArray_76 (by decide) (fun c76_1 => ?_) (fun c76_1 => ?_)
      · first | have fc76_1 : e.toInt < 0 := (by have := zt_ne (show e.toInt = _ from rfl) tI_0 c76_1; omega) | have fc76_1 : 0 < e.toInt := (by have := zt_ne (show e.toInt = _ from rfl) tI_0 c76_1; omega) | skip
        refine lv_aload_n hx hb d_Engine_runArray_118 rfl (lv_at hl 5 rfl) ?_
        refine lv_dup hx hb d_Engine_runArray_119 rfl ?_
        refine va_get (D := D) (ci := 7) (v := .int (f_xe_underWay S1)) (C := "PageScribe$Engine") (T := F_Engine) (N := 11) hx hb hts i_Engine hown hK hP 72 (ce_72 _ _ _) cl_7 8 (by decide) (hts _ k_2_32) (fun _ h9 => h9) rfl d_Engine_runArray_120 ?_
        refine lv_iconst (v := 1) hx hb d_Engine_runArray_123 (by decide) ?_
        refine lv_isub hx hb d_Engine_runArray_124 ?_
        refine lv_topi (fun x3 ex3 => ?_)
        have fx3 : x3.toInt = ((f_xe_underWay S1).toInt - 1) := by rw [ex3]; exact (zt_sub (show (f_xe_underWay S1).toInt = _ from rfl) tI_1 (by omega) (by omega)).trans (by omega)
        refine va_put (D := D) (ci := 7) (v := .int x3) (ty := .int) (C := "PageScribe$Engine") (T := F_Engine) (N := 11) hx hb hts i_Engine t_Engine t_Engine_ok n_Engine hown hK hP hD hS 72 (ce_72 _ _ _) cl_7 8 (by decide) (hts _ k_2_32) (fun _ h9 => h9) rfl (by decide +kernel) rfl rfl (Nat.le_of_ble_eq_true rfl) d_Engine_runArray_125 (fun H locs hP hD hS => ?_)
        rw [cp_xe_underWay] at hP hD
        have hP : va_P D classes (cW T ad ((S1.1, S1.2.1, S1.2.2.1, S1.2.2.2.1, S1.2.2.2.2.1, S1.2.2.2.2.2.1, S1.2.2.2.2.2.2.1, S1.2.2.2.2.2.2.2.1, ((f_xe_fuelGiven S1), (f_xe_stepsDone S1), (f_xe_latestFault S1), x3, (f_xe_reach S1), (f_xe_loops S1))) : CS)) H := hP
        have hD : va_D A (cW T ad ((S1.1, S1.2.1, S1.2.2.1, S1.2.2.2.1, S1.2.2.2.2.1, S1.2.2.2.2.2.1, S1.2.2.2.2.2.2.1, S1.2.2.2.2.2.2.2.1, ((f_xe_fuelGiven S1), (f_xe_stepsDone S1), (f_xe_latestFault S1), x3, (f_xe_reach S1), (f_xe_loops S1))) : CS)) := hD
        refine lv_aload_n hx hb d_Engine_runArray_128 rfl (lv_at hl 5 rfl) ?_
        refine lv_iload_n hx hb d_Engine_runArray_129 rfl (lv_at hl 4 rfl) ?_
        refine va_put (D := D) (ci := 7) (v := .int (f_xe_reach S)) (ty := .int) (C := "PageScribe$Engine") (T := F_Engine) (N := 11) hx hb hts i_Engine t_Engine t_Engine_ok n_Engine hown hK hP hD hS 72 (ce_72 _ _ _) cl_7 9 (by decide) (hts _ k_2_33) (fun _ h9 => h9) rfl (by decide +kernel) rfl rfl (Nat.le_of_ble_eq_true rfl) d_Engine_runArray_130 (fun H locs hP hD hS => ?_)
        rw [cp_xe_reach] at hP hD
        have hP : va_P D classes (cW T ad ((S1.1, S1.2.1, S1.2.2.1, S1.2.2.2.1, S1.2.2.2.2.1, S1.2.2.2.2.2.1, S1.2.2.2.2.2.2.1, S1.2.2.2.2.2.2.2.1, ((f_xe_fuelGiven S1), (f_xe_stepsDone S1), (f_xe_latestFault S1), x3, (f_xe_reach S), (f_xe_loops S1))) : CS)) H := hP
        have hD : va_D A (cW T ad ((S1.1, S1.2.1, S1.2.2.1, S1.2.2.2.1, S1.2.2.2.2.1, S1.2.2.2.2.2.1, S1.2.2.2.2.2.2.1, S1.2.2.2.2.2.2.2.1, ((f_xe_fuelGiven S1), (f_xe_stepsDone S1), (f_xe_latestFault S1), x3, (f_xe_reach S), (f_xe_loops S1))) : CS)) := hD
        refine lv_iload hx hb d_Engine_runArray_133 (lv_at hl 1 rfl) ?_
        exact j_iret F hr hlocks hK hS ((S1.1, S1.2.1, S1.2.2.1, S1.2.2.2.1, S1.2.2.2.2.1, S1.2.2.2.2.2.1, S1.2.2.2.2.2.2.1, S1.2.2.2.2.2.2.2.1, ((f_xe_fuelGiven S1), (f_xe_stepsDone S1), (f_xe_latestFault S1), x3, (f_xe_reach S), (f_xe_loops S1))) : CS) ⟨⟨i_vst, i_vc0, i_vc1, i_vc2, i_vc3, i_vv0, i_vv1, i_vv2, i_vv3, i_vg, i_wct, i_wln, i_sd0, i_sd1, i_sd2, i_sd3, i_rln, i_rtx, i_rpl, i_rtk, i_cnv, i_pts, i_cik, (show 0 ≤ x3.toInt ∧ x3.toInt ≤ 8 by omega)⟩, klcL_S1, klcP_S1, (show x3 = f_xe_underWay S from Int32.toInt_inj.mp (show x3.toInt = (f_xe_underWay S).toInt by omega)), klcW_S1⟩ hP hD d_Engine_runArray_135
      · have fc76_1 : e.toInt = 0 := zt_eq (show e.toInt = _ from rfl) tI_0 c76_1
        refine lv_aload_n hx hb d_Engine_runArray_79 rfl (lv_at hl 5 rfl) ?_
        refine lv_aload_n hx hb d_Engine_runArray_80 rfl (lv_at hl 3 rfl) ?_
        refine lv_iload hx hb d_Engine_runArray_81 (lv_at hl 2 rfl) ?_
        refine lv_iload hx hb d_Engine_runArray_83 (lv_at hl 0 rfl) ?_
        refine lv_iadd hx hb d_Engine_runArray_85 ?_
        refine lv_topi (fun x4 ex4 => ?_)
        have rx4 := zt_rng x4
        refine jc_ci (w := (fun _ => S1)) hK hP hD hS hA (va_runV (As := [.int x4]) (rest := [.ref (ad 72)]) F (c_Row_kindAt_13 l D T ad S1 x4  H.size) (j_cV (k := 1) (C := "PageScribe$Row") hts k_2_126 k_1_2 k_5_208 k_2_125 k_8_173 (by decide +kernel) ⟨by dsimp only; omega, by dsimp only; omega⟩) (j_preV (q0 := 13) (ci := 4) hK hP hD csc csc_all csc_nd cl_4 (ce_13 _ _ _) (fun _ _ _ _ h => h) (fun _ _ _ => trivial)) rfl rfl hl.1 rfl (lv_room (Nat.le_of_ble_eq_true rfl)) d_Engine_runArray_86 ⟨Nat.le_of_ble_eq_true rfl, Nat.le_of_ble_eq_true rfl⟩) (fun rv5 u5 H locs hw5 hP hD hS => ?_)
        have hP : va_P D classes (cW T ad S1) H := hP
        have hD : va_D A (cW T ad S1) := hD
        have rrv5 := zt_rng rv5
        refine lv_aload_n hx hb d_Engine_runArray_89 rfl (lv_at hl 3 rfl) ?_
        refine lv_iload hx hb d_Engine_runArray_90 (lv_at hl 2 rfl) ?_
        refine lv_iload hx hb d_Engine_runArray_92 (lv_at hl 0 rfl) ?_
        refine lv_iadd hx hb d_Engine_runArray_94 ?_
        refine lv_topi (fun x5 ex5 => ?_)
        have rx5 := zt_rng x5
        refine jc_ci (w := (fun _ => S1)) hK hP hD hS hA (va_runV (As := [.int x5]) (rest := [.int rv5, .ref (ad 72)]) F (c_Row_numberAt_13 l D T ad S1 x5  H.size) (j_cV (k := 1) (C := "PageScribe$Row") hts k_2_136 k_1_2 k_5_209 k_2_135 k_8_176 (by decide +kernel) ⟨by dsimp only; omega, by dsimp only; omega⟩) (j_preV (q0 := 13) (ci := 4) hK hP hD csc csc_all csc_nd cl_4 (ce_13 _ _ _) (fun _ _ _ _ h => h) (fun _ _ _ => trivial)) rfl rfl hl.1 rfl (lv_room (Nat.le_of_ble_eq_true rfl)) d_Engine_runArray_95 ⟨Nat.le_of_ble_eq_true rfl, Nat.le_of_ble_eq_true rfl⟩) (fun rv6 u6 H locs hw6 hP hD hS => ?_)
        have hP : va_P D classes (cW T ad S1) H := hP
        have hD : va_D A (cW T ad S1) := hD
        have rrv6 := zt_rng rv6
        refine lv_aload_n hx hb d_Engine_runArray_98 rfl (lv_at hl 3 rfl) ?_
        refine lv_iload hx hb d_Engine_runArray_99 (lv_at hl 2 rfl) ?_
        refine lv_iload hx hb d_Engine_runArray_101 (lv_at hl 0 rfl) ?_
        refine lv_iadd hx hb d_Engine_runArray_103 ?_
        refine lv_topi (fun x6 ex6 => ?_)
        have rx6 := zt_rng x6
        refine jc_cd (w := (fun _ => S1)) hK hP hD hS hA (va_runV (As := [.int x6]) (rest := [.int rv6, .int rv5, .ref (ad 72)]) F (c_Row_realAt_13 l D T ad S1 x6  H.size ⟨i_vst, i_vc0, i_vc1, i_vc2, i_vc3, i_vv0, i_vv1, i_vv2, i_vv3, i_vg, i_wct, i_wln, i_sd0, i_sd1, i_sd2, i_sd3, i_rln, i_rtx, i_rpl, i_rtk, i_cnv, i_pts, i_cik, i_und⟩) (j_cV (k := 1) (C := "PageScribe$Row") hts k_3_104 k_1_2 k_5_210 k_3_100 k_3_101 (by decide +kernel) ⟨by dsimp only; omega, by dsimp only; omega⟩) (j_preV (q0 := 13) (ci := 4) hK hP hD csc csc_all csc_nd cl_4 (ce_13 _ _ _) (fun _ _ _ _ h => h) (fun _ _ _ => trivial)) rfl rfl hl.1 rfl (lv_room (Nat.le_of_ble_eq_true rfl)) d_Engine_runArray_104 ⟨Nat.le_of_ble_eq_true rfl, Nat.le_of_ble_eq_true rfl⟩) (fun rv7 u7 H locs hw7 hP hD hS => ?_)
        have hP : va_P D classes (cW T ad S1) H := hP
        have hD : va_D A (cW T ad S1) := hD
        have qhw7 : dB rv7 := hw7
        refine jc_ci (w := (fun u => u)) hK hP hD hS hA (va_runV (As := [.int rv5, .int rv6, .double rv7]) (rest := []) F ((hdv (d - 1) (by omega)) S1 rv5 rv6 rv7  H.size ⟨i_vst, i_vc0, i_vc1, i_vc2, i_vc3, i_vv0, i_vv1, i_vv2, i_vv3, i_vg, i_wct, i_wln, i_sd0, i_sd1, i_sd2, i_sd3, i_rln, i_rtx, i_rpl, i_rtk, i_cnv, i_pts, i_cik, i_und⟩ (show 8 ≤ (f_xe_underWay S1).toInt + ((d - 1 : Nat) : Int) by omega) (show dB rv7 by omega)) (j_cV (k := 3) (C := "PageScribe$Engine") hts k_3_167 k_1_9 k_5_211 k_3_166 k_0_13 (by decide +kernel) ⟨by dsimp only; omega, by dsimp only; omega⟩) (j_preV (q0 := 72) (ci := 7) hK hP hD csc csc_all csc_nd cl_7 (ce_72 _ _ _) (fun _ _ _ _ h => EC.calling h) (fun U hU hW => EC.at hS hAB hU hW hE)) rfl rfl hl.1 rfl (lv_room (Nat.le_of_ble_eq_true rfl)) d_Engine_runArray_107 ⟨Nat.le_of_ble_eq_true rfl, Nat.le_of_ble_eq_true rfl⟩) (fun rv8 S2 H locs hw8 hP hD hS => ?_)
        have hP : va_P D classes (cW T ad S2) H := hP
        have hD : va_D A (cW T ad S2) := hD
        obtain ⟨⟨i_vst, i_vc0, i_vc1, i_vc2, i_vc3, i_vv0, i_vv1, i_vv2, i_vv3, i_vg, i_wct, i_wln, i_sd0, i_sd1, i_sd2, i_sd3, i_rln, i_rtx, i_rpl, i_rtk, i_cnv, i_pts, i_cik, i_und⟩, kpcL_S2, kpcP_S2, kpcU_S2, kpcW_S2⟩ := hw8
        have kScL_S2 : kcL S S2 := kcL_t (show kcL S S1 from klcL_S1) kpcL_S2
        have kScP_S2 : kcP S S2 := kcP_t (show kcP S S1 from klcP_S1) kpcP_S2
        have kScW_S2 : kcW S S2 := kcW_t (show kcW S S1 from klcW_S1) kpcW_S2
        have nxr_length_S2 : (f_xr_length S2).toInt = (f_xr_length S1).toInt := congrArg Int32.toInt kpcL_S2
        have nxr_length_S2 : (f_xr_length S2).toInt = (f_xr_length S1).toInt := congrArg Int32.toInt kpcP_S2.1
        have nxr_place_S2 : (f_xr_place S2).toInt = (f_xr_place S1).toInt := congrArg Int32.toInt kpcP_S2.2.1
        have nxe_underWay_S2 : (f_xe_underWay S2).toInt = (f_xe_underWay S1).toInt := congrArg Int32.toInt kpcU_S2
        have nxp_columns_S2 : (f_xp_columns S2).toInt = (f_xp_columns S1).toInt := congrArg Int32.toInt kpcW_S2.1
        have nxp_rows_S2 : (f_xp_rows S2).toInt = (f_xp_rows S1).toInt := congrArg Int32.toInt kpcW_S2.2
        have rrv8 := zt_rng rv8
        refine lv_istore (lv' := [(5, .int rv8), (6, .int i), (4, .int rv3), (3, .ref (ad 13)), (2, .int (f_xe_reach S)), (0, .ref (ad 72)), (1, .int p0)]) hx hb d_Engine_runArray_110 hl (by decide) rfl (fun ls hl => ?_)
        refine lv_iinc (v := (i + 1)) (lv' := [(6, .int (i + 1)), (5, .int rv8), (4, .int rv3), (3, .ref (ad 13)), (2, .int (f_xe_reach S)), (0, .ref (ad 72)), (1, .int p0)]) hx hb d_Engine_runArray_112 hl (k := 1) rfl (by first | rfl | decide) (by decide) rfl (fun ls hl => ?_)
        obtain ⟨x7, ex7⟩ : ∃ z, z = (i + 1) := ⟨_, rfl⟩
        rw [← ex7] at hl
        have fx7 : x7.toInt = (i.toInt + 1) := by rw [ex7]; exact (zt_add (show i.toInt = _ from rfl) tI_1 (by omega) (by omega)).trans (by omega)
        have hl : lv_has ls 7 [(6, .int x7), (5, .int rv8), (4, .int rv3), (3, .ref (ad 13)), (2, .int (f_xe_reach S)), (0, .ref (ad 72)), (1, .int p0)] := hl
        refine lv_goto (tgt := 65) hx hb d_Engine_runArray_115 (by decide) ?_
        exact ih (k - 1) (S2, rv8, x7) _ _ _ (by omega) ⟨(show 0 ≤ x7.toInt ∧ x7.toInt ≤ 256 ∧ 256 ≤ x7.toInt + (((k - 1) : Nat) : Int) ∧ (f_xe_underWay S2).toInt = (f_xe_underWay S).toInt + 1 by omega), ⟨i_vst, i_vc0, i_vc1, i_vc2, i_vc3, i_vv0, i_vv1, i_vv2, i_vv3, i_vg, i_wct, i_wln, i_sd0, i_sd1, i_sd2, i_sd3, i_rln, i_rtx, i_rpl, i_rtk, i_cnv, i_pts, i_cik, i_und⟩, (show kcL S S2 from kScL_S2), (show kcP S S2 from kScP_S2), (show kcW S S2 from kScW_S2), hP, hD, hS, lv_sub hl [0, 1, 2, 3, 4, 5, 6] rfl⟩
  · have fc6_1 : 8 ≤ (f_xe_underWay S).toInt := Int.not_lt.mp (zt_nlt (show (f_xe_underWay S).toInt = _ from rfl) tI_8 c6_1)
    refine lv_bipush (v := 12) hx hb d_Engine_runArray_9 (by decide) ?_
    exact j_iret F hr hlocks hK hS S ⟨⟨i_vst, i_vc0, i_vc1, i_vc2, i_vc3, i_vv0, i_vv1, i_vv2, i_vv3, i_vg, i_wct, i_wln, i_sd0, i_sd1, i_sd2, i_sd3, i_rln, i_rtx, i_rpl, i_rtk, i_cnv, i_pts, i_cik, i_und⟩, (kcL_r S), (kcP_r S), (kcU_r S), (kcW_r S)⟩ hP hD d_Engine_runArray_11
