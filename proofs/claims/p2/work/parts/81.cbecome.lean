theorem d_Row_become_0 : decode prog_8_method_9_code 0 = .ok (.aload_n 0, 1) := by decide +kernel
theorem d_Row_become_1 : decode prog_8_method_9_code 1 = .ok (.getfield 15, 3) := by decide +kernel
theorem d_Row_become_4 : decode prog_8_method_9_code 4 = .ok (.arraylength, 1) := by decide +kernel
theorem d_Row_become_5 : decode prog_8_method_9_code 5 = .ok (.aload_n 1, 1) := by decide +kernel
theorem d_Row_become_6 : decode prog_8_method_9_code 6 = .ok (.getfield 15, 3) := by decide +kernel
theorem d_Row_become_9 : decode prog_8_method_9_code 9 = .ok (.arraylength, 1) := by decide +kernel
theorem d_Row_become_10 : decode prog_8_method_9_code 10 = .ok (.invokestatic 47, 3) := by decide +kernel
theorem k_5_101 : Cond.methodLink "PageScribe$Row" 47 ⟨"java/lang/Math", "min", "(II)I"⟩ ∈ gw := gw_of (tb_5 (List.mem_of_getElem? (i := 101) (by decide +kernel))) (by decide +kernel)
theorem d_Row_become_13 : decode prog_8_method_9_code 13 = .ok (.istore_n 2, 1) := by decide +kernel
theorem d_Row_become_14 : decode prog_8_method_9_code 14 = .ok (.aload_n 1, 1) := by decide +kernel
theorem d_Row_become_15 : decode prog_8_method_9_code 15 = .ok (.getfield 15, 3) := by decide +kernel
theorem d_Row_become_18 : decode prog_8_method_9_code 18 = .ok (.iconst 0, 1) := by decide +kernel
theorem d_Row_become_19 : decode prog_8_method_9_code 19 = .ok (.aload_n 0, 1) := by decide +kernel
theorem d_Row_become_20 : decode prog_8_method_9_code 20 = .ok (.getfield 15, 3) := by decide +kernel
theorem d_Row_become_23 : decode prog_8_method_9_code 23 = .ok (.iconst 0, 1) := by decide +kernel
theorem d_Row_become_24 : decode prog_8_method_9_code 24 = .ok (.iload_n 2, 1) := by decide +kernel
theorem d_Row_become_25 : decode prog_8_method_9_code 25 = .ok (.invokestatic 50, 3) := by decide +kernel
theorem k_5_102 : Cond.methodLink "PageScribe$Row" 50 ⟨"java/lang/System", "arraycopy", "(Ljava/lang/Object;ILjava/lang/Object;II)V"⟩ ∈ gw := gw_of (tb_5 (List.mem_of_getElem? (i := 102) (by decide +kernel))) (by decide +kernel)
theorem k_5_104 : Cond.native ⟨"java/lang/System", "arraycopy", "(Ljava/lang/Object;ILjava/lang/Object;II)V"⟩ ∈ gw := gw_of (tb_5 (List.mem_of_getElem? (i := 104) (by decide +kernel))) (by decide +kernel)
theorem k_5_103 : Cond.static ⟨"java/lang/System", "arraycopy", "(Ljava/lang/Object;ILjava/lang/Object;II)V"⟩ ∈ gw := gw_of (tb_5 (List.mem_of_getElem? (i := 103) (by decide +kernel))) (by decide +kernel)
theorem k_1_26 : Cond.initialized "java/lang/System" ∈ gw := gw_of (tb_1 (List.mem_of_getElem? (i := 26) (by decide +kernel))) (by decide +kernel)
theorem d_Row_become_28 : decode prog_8_method_9_code 28 = .ok (.aload_n 1, 1) := by decide +kernel
theorem d_Row_become_29 : decode prog_8_method_9_code 29 = .ok (.getfield 19, 3) := by decide +kernel
theorem d_Row_become_32 : decode prog_8_method_9_code 32 = .ok (.iconst 0, 1) := by decide +kernel
theorem d_Row_become_33 : decode prog_8_method_9_code 33 = .ok (.aload_n 0, 1) := by decide +kernel
theorem d_Row_become_34 : decode prog_8_method_9_code 34 = .ok (.getfield 19, 3) := by decide +kernel
theorem d_Row_become_37 : decode prog_8_method_9_code 37 = .ok (.iconst 0, 1) := by decide +kernel
theorem d_Row_become_38 : decode prog_8_method_9_code 38 = .ok (.iload_n 2, 1) := by decide +kernel
theorem d_Row_become_39 : decode prog_8_method_9_code 39 = .ok (.invokestatic 50, 3) := by decide +kernel
theorem d_Row_become_42 : decode prog_8_method_9_code 42 = .ok (.aload_n 1, 1) := by decide +kernel
theorem d_Row_become_43 : decode prog_8_method_9_code 43 = .ok (.getfield 22, 3) := by decide +kernel
theorem d_Row_become_46 : decode prog_8_method_9_code 46 = .ok (.iconst 0, 1) := by decide +kernel
theorem d_Row_become_47 : decode prog_8_method_9_code 47 = .ok (.aload_n 0, 1) := by decide +kernel
theorem d_Row_become_48 : decode prog_8_method_9_code 48 = .ok (.getfield 22, 3) := by decide +kernel
theorem d_Row_become_51 : decode prog_8_method_9_code 51 = .ok (.iconst 0, 1) := by decide +kernel
theorem d_Row_become_52 : decode prog_8_method_9_code 52 = .ok (.iload_n 2, 1) := by decide +kernel
theorem d_Row_become_53 : decode prog_8_method_9_code 53 = .ok (.invokestatic 50, 3) := by decide +kernel
theorem d_Row_become_56 : decode prog_8_method_9_code 56 = .ok (.aload_n 0, 1) := by decide +kernel
theorem d_Row_become_57 : decode prog_8_method_9_code 57 = .ok (.aload_n 1, 1) := by decide +kernel
theorem d_Row_become_58 : decode prog_8_method_9_code 58 = .ok (.getfield 9, 3) := by decide +kernel
theorem d_Row_become_61 : decode prog_8_method_9_code 61 = .ok (.putfield 9, 3) := by decide +kernel
theorem d_Row_become_64 : decode prog_8_method_9_code 64 = .ok (.return_, 1) := by decide +kernel
set_option maxHeartbeats 4000000 in
set_option maxRecDepth 100000 in
theorem c_Row_become_25_13 (l : Launch) (D : va_G) (T : Nat → ClassId) (ad : Nat → Nat) (S : CS)  (sz : Nat)  (hI : CIv S) : Met l ⟨"PageScribe$Row", "become", "(LPageScribe$Row;)V"⟩ (wy ⟨"PageScribe$Row", "become", "(LPageScribe$Row;)V"⟩ prog_8_method_9_code 3 none) ({ frames := 1, cells := 0, slots := 0, locals := 70 }) (va_Pc [.ref (ad 25), .ref (ad 13)] (Pw D T (cW T ad S) sz E0)) (va_Qv (fun (u : CS) => CIv u ∧ kcL S u ∧ kcP S u ∧ kcU S u ∧ kcW S u) (fun u t => Bw D T (va_A (cW T ad S) sz) (cW T ad u) t) (va_A (cW T ad S) sz)) 0 0 (va_A (cW T ad S) sz) := by
  refine j_met (y := ⟨"PageScribe$Row", "become", "(LPageScribe$Row;)V"⟩) (b := prog_8_method_9_code) (n := 3) (ret := none) (av := [.ref (ad 25), .ref (ad 13)]) (Qc := fun A => va_Qv (fun (u : CS) => CIv u ∧ kcL S u ∧ kcP S u ∧ kcU S u ∧ kcW S u) (fun u t => Bw D T A (cW T ad u) t) A) (by decide +kernel) (Nat.le_of_ble_eq_true rfl) (fun p e s m args below meth c A ls F hr hlocks hnm hK hP hD hS hA hN hE hl => ?_)
  obtain ⟨hx, hb, hml, hown, hts⟩ := id F
  have hl : lv_has ls 3 [(0, .ref (ad 25)), (1, .ref (ad 13))] := hl
  obtain ⟨i_vst, i_vc0, i_vc1, i_vc2, i_vc3, i_vv0, i_vv1, i_vv2, i_vv3, i_vg, i_wct, i_wln, i_sd0, i_sd1, i_sd2, i_sd3, i_rln, i_rtx, i_rpl, i_rtk, i_cnv, i_pts, i_cik, i_und⟩ := id hI
  refine lv_aload_n hx hb d_Row_become_0 rfl (lv_at hl 0 rfl) ?_
  refine va_get (D := D) (ci := 4) (v := .ref (ad 26)) (C := "PageScribe$Row") (T := F_Row) (N := 4) hx hb hts i_Row hown hK hP 25 (ce_25 _ _ _) cl_4 0 (by decide) (hts _ k_1_46) (fun _ h9 => h9) rfl d_Row_become_1 ?_
  refine va_alen (v := 160) hx hb hK hP 26 0 (ce_26 _ _ _) rfl (show Int32.ofNat 160 = 160 from by decide +kernel) d_Row_become_4 ?_
  refine lv_aload_n hx hb d_Row_become_5 rfl (lv_at hl 1 rfl) ?_
  refine va_get (D := D) (ci := 4) (v := .ref (ad 14)) (C := "PageScribe$Row") (T := F_Row) (N := 4) hx hb hts i_Row hown hK hP 13 (ce_13 _ _ _) cl_4 0 (by decide) (hts _ k_1_46) (fun _ h9 => h9) rfl d_Row_become_6 ?_
  refine va_alen (v := 160) hx hb hK hP 14 0 (ce_14 _ _ _) rfl (show Int32.ofNat 160 = 160 from by decide +kernel) d_Row_become_9 ?_
  refine j_ci (wc := []) (wr := (cW T ad S)) hK hP hD hS hA [] csc rfl csc_all csc_nd (fun _ _ => List.not_mem_nil) (va_runS (As := [.int 160, .int 160]) (rest := []) F (c_Math_min l D T (160 : Int32) (160 : Int32)  s.heap.size) (j_cS (k := 2) hts k_3_221 k_1_21 k_5_101 k_3_220 (by decide +kernel) ⟨Nat.le_of_ble_eq_true rfl, Nat.le_of_ble_eq_true rfl⟩) (j_preS hK hP hD [] rfl (by decide) (fun _ _ _ _ h => h) (fun _ _ _ => trivial)) rfl rfl hl.1 rfl (lv_room (Nat.le_of_ble_eq_true rfl)) d_Row_become_10 ⟨Nat.le_of_ble_eq_true rfl, Nat.le_of_ble_eq_true rfl⟩) (fun rv1 u1 H locs hw1 hP hD hS => ?_)
  have hP : va_P D classes (cW T ad S) H := hP
  have hD : va_D A (cW T ad S) := hD
  have qhw1 : rv1.toInt ≤ 160 ∧ rv1.toInt ≤ 160 ∧ (rv1.toInt = 160 ∨ rv1.toInt = 160) := by simpa only [tI_160] using hw1
  have rrv1 := zt_rng rv1
  refine j_eqi (y := 160) (Int32.toInt_inj.mp (by have := tI_160; omega)) ?_
  refine lv_istore_n (lv' := [(2, .int 160), (0, .ref (ad 25)), (1, .ref (ad 13))]) hx hb d_Row_become_13 rfl hl (by decide) rfl (fun ls hl => ?_)
  refine lv_aload_n hx hb d_Row_become_14 rfl (lv_at hl 2 rfl) ?_
  refine va_get (D := D) (ci := 4) (v := .ref (ad 14)) (C := "PageScribe$Row") (T := F_Row) (N := 4) hx hb hts i_Row hown hK hP 13 (ce_13 _ _ _) cl_4 0 (by decide) (hts _ k_1_46) (fun _ h9 => h9) rfl d_Row_become_15 ?_
  refine lv_iconst (v := 0) hx hb d_Row_become_18 (by decide) ?_
  refine lv_aload_n hx hb d_Row_become_19 rfl (lv_at hl 1 rfl) ?_
  refine va_get (D := D) (ci := 4) (v := .ref (ad 26)) (C := "PageScribe$Row") (T := F_Row) (N := 4) hx hb hts i_Row hown hK hP 25 (ce_25 _ _ _) cl_4 0 (by decide) (hts _ k_1_46) (fun _ h9 => h9) rfl d_Row_become_20 ?_
  refine lv_iconst (v := 0) hx hb d_Row_become_23 (by decide) ?_
  refine lv_iload_n hx hb d_Row_become_24 rfl (lv_at hl 0 rfl) ?_
  refine va_copyi (sp := 0) (dp := 0) (n := 160) hx hb (hml.trans hl.1.symm) hown (hts _ k_5_102) (hts _ k_5_104) (hts _ k_5_103) (hts _ k_1_26) hK hP hD hS 14 26 0 0 (ce_14 _ _ _) (ce_26 _ _ _) rfl rfl rfl (by decide +kernel) (by decide +kernel) (by decide +kernel) (by decide +kernel) (by decide +kernel) (fun _ _ => rfl) (Nat.le_of_ble_eq_true rfl) (by decide +kernel) d_Row_become_25 (fun H locs hP hD hS => ?_)
  rw [cs_xc1_k] at hP hD
  have hP : va_P D classes (cW T ad ((S.1, S.2.1, S.2.2.1, ((va_cpy (a_xc0_k S) (a_xc1_k S) 0 0 160), (a_xc1_n S), (a_xc1_r S), (f_xc1_z S), (a_xd1_rooms S), (a_xd1_counts S), (a_xd1_names S), (a_xv1_k S), (a_xv1_n S), (a_xv1_r S), (f_xv1_z S)), S.2.2.2.2.1, S.2.2.2.2.2.1, S.2.2.2.2.2.2.1, S.2.2.2.2.2.2.2.1, S.2.2.2.2.2.2.2.2) : CS)) H := hP
  have hD : va_D A (cW T ad ((S.1, S.2.1, S.2.2.1, ((va_cpy (a_xc0_k S) (a_xc1_k S) 0 0 160), (a_xc1_n S), (a_xc1_r S), (f_xc1_z S), (a_xd1_rooms S), (a_xd1_counts S), (a_xd1_names S), (a_xv1_k S), (a_xv1_n S), (a_xv1_r S), (f_xv1_z S)), S.2.2.2.2.1, S.2.2.2.2.2.1, S.2.2.2.2.2.2.1, S.2.2.2.2.2.2.2.1, S.2.2.2.2.2.2.2.2) : CS)) := hD
  refine lv_aload_n hx hb d_Row_become_28 rfl (lv_at hl 2 rfl) ?_
  refine va_get (D := D) (ci := 4) (v := .ref (ad 15)) (C := "PageScribe$Row") (T := F_Row) (N := 4) hx hb hts i_Row hown hK hP 13 (ce_13 _ _ _) cl_4 1 (by decide) (hts _ k_1_47) (fun _ h9 => h9) rfl d_Row_become_29 ?_
  refine lv_iconst (v := 0) hx hb d_Row_become_32 (by decide) ?_
  refine lv_aload_n hx hb d_Row_become_33 rfl (lv_at hl 1 rfl) ?_
  refine va_get (D := D) (ci := 4) (v := .ref (ad 27)) (C := "PageScribe$Row") (T := F_Row) (N := 4) hx hb hts i_Row hown hK hP 25 (ce_25 _ _ _) cl_4 1 (by decide) (hts _ k_1_47) (fun _ h9 => h9) rfl d_Row_become_34 ?_
  refine lv_iconst (v := 0) hx hb d_Row_become_37 (by decide) ?_
  refine lv_iload_n hx hb d_Row_become_38 rfl (lv_at hl 0 rfl) ?_
  refine va_copyi (sp := 0) (dp := 0) (n := 160) hx hb (hml.trans hl.1.symm) hown (hts _ k_5_102) (hts _ k_5_104) (hts _ k_5_103) (hts _ k_1_26) hK hP hD hS 15 27 0 0 (ce_15 _ _ _) (ce_27 _ _ _) rfl rfl rfl (by decide +kernel) (by decide +kernel) (by decide +kernel) (by decide +kernel) (by decide +kernel) (fun _ _ => rfl) (Nat.le_of_ble_eq_true rfl) (by decide +kernel) d_Row_become_39 (fun H locs hP hD hS => ?_)
  rw [cs_xc1_n] at hP hD
  have hP : va_P D classes (cW T ad ((S.1, S.2.1, S.2.2.1, ((va_cpy (a_xc0_k S) (a_xc1_k S) 0 0 160), (va_cpy (a_xc0_n S) (a_xc1_n S) 0 0 160), (a_xc1_r S), (f_xc1_z S), (a_xd1_rooms S), (a_xd1_counts S), (a_xd1_names S), (a_xv1_k S), (a_xv1_n S), (a_xv1_r S), (f_xv1_z S)), S.2.2.2.2.1, S.2.2.2.2.2.1, S.2.2.2.2.2.2.1, S.2.2.2.2.2.2.2.1, S.2.2.2.2.2.2.2.2) : CS)) H := hP
  have hD : va_D A (cW T ad ((S.1, S.2.1, S.2.2.1, ((va_cpy (a_xc0_k S) (a_xc1_k S) 0 0 160), (va_cpy (a_xc0_n S) (a_xc1_n S) 0 0 160), (a_xc1_r S), (f_xc1_z S), (a_xd1_rooms S), (a_xd1_counts S), (a_xd1_names S), (a_xv1_k S), (a_xv1_n S), (a_xv1_r S), (f_xv1_z S)), S.2.2.2.2.1, S.2.2.2.2.2.1, S.2.2.2.2.2.2.1, S.2.2.2.2.2.2.2.1, S.2.2.2.2.2.2.2.2) : CS)) := hD
  refine lv_aload_n hx hb d_Row_become_42 rfl (lv_at hl 2 rfl) ?_
  refine va_get (D := D) (ci := 4) (v := .ref (ad 16)) (C := "PageScribe$Row") (T := F_Row) (N := 4) hx hb hts i_Row hown hK hP 13 (ce_13 _ _ _) cl_4 2 (by decide) (hts _ k_1_48) (fun _ h9 => h9) rfl d_Row_become_43 ?_
  refine lv_iconst (v := 0) hx hb d_Row_become_46 (by decide) ?_
  refine lv_aload_n hx hb d_Row_become_47 rfl (lv_at hl 1 rfl) ?_
  refine va_get (D := D) (ci := 4) (v := .ref (ad 28)) (C := "PageScribe$Row") (T := F_Row) (N := 4) hx hb hts i_Row hown hK hP 25 (ce_25 _ _ _) cl_4 2 (by decide) (hts _ k_1_48) (fun _ h9 => h9) rfl d_Row_become_48 ?_
  refine lv_iconst (v := 0) hx hb d_Row_become_51 (by decide) ?_
  refine lv_iload_n hx hb d_Row_become_52 rfl (lv_at hl 0 rfl) ?_
  refine va_copyd (sp := 0) (dp := 0) (n := 160) hx hb (hml.trans hl.1.symm) hown (hts _ k_5_102) (hts _ k_5_104) (hts _ k_5_103) (hts _ k_1_26) hK hP hD hS 16 28 3 3 (ce_16 _ _ _) (ce_28 _ _ _) rfl rfl rfl (by decide +kernel) (by decide +kernel) (by decide +kernel) (by decide +kernel) (by decide +kernel) (fun _ _ => rfl) (Nat.le_of_ble_eq_true rfl) (by decide +kernel) d_Row_become_53 (fun H locs hP hD hS => ?_)
  rw [cs_xc1_r] at hP hD
  have hP : va_P D classes (cW T ad ((S.1, S.2.1, S.2.2.1, ((va_cpy (a_xc0_k S) (a_xc1_k S) 0 0 160), (va_cpy (a_xc0_n S) (a_xc1_n S) 0 0 160), (va_cpy (a_xc0_r S) (a_xc1_r S) 0 0 160), (f_xc1_z S), (a_xd1_rooms S), (a_xd1_counts S), (a_xd1_names S), (a_xv1_k S), (a_xv1_n S), (a_xv1_r S), (f_xv1_z S)), S.2.2.2.2.1, S.2.2.2.2.2.1, S.2.2.2.2.2.2.1, S.2.2.2.2.2.2.2.1, S.2.2.2.2.2.2.2.2) : CS)) H := hP
  have hD : va_D A (cW T ad ((S.1, S.2.1, S.2.2.1, ((va_cpy (a_xc0_k S) (a_xc1_k S) 0 0 160), (va_cpy (a_xc0_n S) (a_xc1_n S) 0 0 160), (va_cpy (a_xc0_r S) (a_xc1_r S) 0 0 160), (f_xc1_z S), (a_xd1_rooms S), (a_xd1_counts S), (a_xd1_names S), (a_xv1_k S), (a_xv1_n S), (a_xv1_r S), (f_xv1_z S)), S.2.2.2.2.1, S.2.2.2.2.2.1, S.2.2.2.2.2.2.1, S.2.2.2.2.2.2.2.1, S.2.2.2.2.2.2.2.2) : CS)) := hD
  refine lv_aload_n hx hb d_Row_become_56 rfl (lv_at hl 1 rfl) ?_
  refine lv_aload_n hx hb d_Row_become_57 rfl (lv_at hl 2 rfl) ?_
  refine va_get (D := D) (ci := 4) (v := .int (f_xc0_z S)) (C := "PageScribe$Row") (T := F_Row) (N := 4) hx hb hts i_Row hown hK hP 13 (ce_13 _ _ _) cl_4 3 (by decide) (hts _ k_1_49) (fun _ h9 => h9) rfl d_Row_become_58 ?_
  refine va_put (D := D) (ci := 4) (v := .int (f_xc0_z S)) (ty := .int) (C := "PageScribe$Row") (T := F_Row) (N := 4) hx hb hts i_Row t_Row t_Row_ok n_Row hown hK hP hD hS 25 (ce_25 _ _ _) cl_4 3 (by decide) (hts _ k_1_49) (fun _ h9 => h9) rfl (by decide +kernel) rfl rfl (Nat.le_of_ble_eq_true rfl) d_Row_become_61 (fun H locs hP hD hS => ?_)
  rw [cp_xc1_z] at hP hD
  have hP : va_P D classes (cW T ad ((S.1, S.2.1, S.2.2.1, ((va_cpy (a_xc0_k S) (a_xc1_k S) 0 0 160), (va_cpy (a_xc0_n S) (a_xc1_n S) 0 0 160), (va_cpy (a_xc0_r S) (a_xc1_r S) 0 0 160), (f_xc0_z S), (a_xd1_rooms S), (a_xd1_counts S), (a_xd1_names S), (a_xv1_k S), (a_xv1_n S), (a_xv1_r S), (f_xv1_z S)), S.2.2.2.2.1, S.2.2.2.2.2.1, S.2.2.2.2.2.2.1, S.2.2.2.2.2.2.2.1, S.2.2.2.2.2.2.2.2) : CS)) H := hP
  have hD : va_D A (cW T ad ((S.1, S.2.1, S.2.2.1, ((va_cpy (a_xc0_k S) (a_xc1_k S) 0 0 160), (va_cpy (a_xc0_n S) (a_xc1_n S) 0 0 160), (va_cpy (a_xc0_r S) (a_xc1_r S) 0 0 160), (f_xc0_z S), (a_xd1_rooms S), (a_xd1_counts S), (a_xd1_names S), (a_xv1_k S), (a_xv1_n S), (a_xv1_r S), (f_xv1_z S)), S.2.2.2.2.1, S.2.2.2.2.2.1, S.2.2.2.2.2.2.1, S.2.2.2.2.2.2.2.1, S.2.2.2.2.2.2.2.2) : CS)) := hD
  exact j_vret F hr hlocks hK hS ((S.1, S.2.1, S.2.2.1, ((va_cpy (a_xc0_k S) (a_xc1_k S) 0 0 160), (va_cpy (a_xc0_n S) (a_xc1_n S) 0 0 160), (va_cpy (a_xc0_r S) (a_xc1_r S) 0 0 160), (f_xc0_z S), (a_xd1_rooms S), (a_xd1_counts S), (a_xd1_names S), (a_xv1_k S), (a_xv1_n S), (a_xv1_r S), (f_xv1_z S)), S.2.2.2.2.1, S.2.2.2.2.2.1, S.2.2.2.2.2.2.1, S.2.2.2.2.2.2.2.1, S.2.2.2.2.2.2.2.2) : CS) ⟨⟨i_vst, i_vc0, (cpy_dB i_vc0), i_vc2, i_vc3, i_vv0, i_vv1, i_vv2, i_vv3, i_vg, i_wct, i_wln, i_sd0, i_sd1, i_sd2, i_sd3, i_rln, i_rtx, i_rpl, i_rtk, i_cnv, i_pts, i_cik, i_und⟩, (kcL_r S), (kcP_r S), (kcU_r S), (kcW_r S)⟩ hP hD d_Row_become_64
set_option maxHeartbeats 4000000 in
set_option maxRecDepth 100000 in
theorem c_Row_become_32_20 (l : Launch) (D : va_G) (T : Nat → ClassId) (ad : Nat → Nat) (S : CS)  (sz : Nat)  (hI : CIv S) : Met l ⟨"PageScribe$Row", "become", "(LPageScribe$Row;)V"⟩ (wy ⟨"PageScribe$Row", "become", "(LPageScribe$Row;)V"⟩ prog_8_method_9_code 3 none) ({ frames := 1, cells := 0, slots := 0, locals := 70 }) (va_Pc [.ref (ad 32), .ref (ad 20)] (Pw D T (cW T ad S) sz E0)) (va_Qv (fun (u : CS) => CIv u ∧ kcL S u ∧ kcP S u ∧ kcU S u ∧ kcW S u) (fun u t => Bw D T (va_A (cW T ad S) sz) (cW T ad u) t) (va_A (cW T ad S) sz)) 0 0 (va_A (cW T ad S) sz) := by
  refine j_met (y := ⟨"PageScribe$Row", "become", "(LPageScribe$Row;)V"⟩) (b := prog_8_method_9_code) (n := 3) (ret := none) (av := [.ref (ad 32), .ref (ad 20)]) (Qc := fun A => va_Qv (fun (u : CS) => CIv u ∧ kcL S u ∧ kcP S u ∧ kcU S u ∧ kcW S u) (fun u t => Bw D T A (cW T ad u) t) A) (by decide +kernel) (Nat.le_of_ble_eq_true rfl) (fun p e s m args below meth c A ls F hr hlocks hnm hK hP hD hS hA hN hE hl => ?_)
  obtain ⟨hx, hb, hml, hown, hts⟩ := id F
  have hl : lv_has ls 3 [(0, .ref (ad 32)), (1, .ref (ad 20))] := hl
  obtain ⟨i_vst, i_vc0, i_vc1, i_vc2, i_vc3, i_vv0, i_vv1, i_vv2, i_vv3, i_vg, i_wct, i_wln, i_sd0, i_sd1, i_sd2, i_sd3, i_rln, i_rtx, i_rpl, i_rtk, i_cnv, i_pts, i_cik, i_und⟩ := id hI
  refine lv_aload_n hx hb d_Row_become_0 rfl (lv_at hl 0 rfl) ?_
  refine va_get (D := D) (ci := 4) (v := .ref (ad 33)) (C := "PageScribe$Row") (T := F_Row) (N := 4) hx hb hts i_Row hown hK hP 32 (ce_32 _ _ _) cl_4 0 (by decide) (hts _ k_1_46) (fun _ h9 => h9) rfl d_Row_become_1 ?_
  refine va_alen (v := 80) hx hb hK hP 33 0 (ce_33 _ _ _) rfl (show Int32.ofNat 80 = 80 from by decide +kernel) d_Row_become_4 ?_
  refine lv_aload_n hx hb d_Row_become_5 rfl (lv_at hl 1 rfl) ?_
  refine va_get (D := D) (ci := 4) (v := .ref (ad 21)) (C := "PageScribe$Row") (T := F_Row) (N := 4) hx hb hts i_Row hown hK hP 20 (ce_20 _ _ _) cl_4 0 (by decide) (hts _ k_1_46) (fun _ h9 => h9) rfl d_Row_become_6 ?_
  refine va_alen (v := 80) hx hb hK hP 21 0 (ce_21 _ _ _) rfl (show Int32.ofNat 80 = 80 from by decide +kernel) d_Row_become_9 ?_
  refine j_ci (wc := []) (wr := (cW T ad S)) hK hP hD hS hA [] csc rfl csc_all csc_nd (fun _ _ => List.not_mem_nil) (va_runS (As := [.int 80, .int 80]) (rest := []) F (c_Math_min l D T (80 : Int32) (80 : Int32)  s.heap.size) (j_cS (k := 2) hts k_3_221 k_1_21 k_5_101 k_3_220 (by decide +kernel) ⟨Nat.le_of_ble_eq_true rfl, Nat.le_of_ble_eq_true rfl⟩) (j_preS hK hP hD [] rfl (by decide) (fun _ _ _ _ h => h) (fun _ _ _ => trivial)) rfl rfl hl.1 rfl (lv_room (Nat.le_of_ble_eq_true rfl)) d_Row_become_10 ⟨Nat.le_of_ble_eq_true rfl, Nat.le_of_ble_eq_true rfl⟩) (fun rv1 u1 H locs hw1 hP hD hS => ?_)
  have hP : va_P D classes (cW T ad S) H := hP
  have hD : va_D A (cW T ad S) := hD
  have qhw1 : rv1.toInt ≤ 80 ∧ rv1.toInt ≤ 80 ∧ (rv1.toInt = 80 ∨ rv1.toInt = 80) := by simpa only [tI_80] using hw1
  have rrv1 := zt_rng rv1
  refine j_eqi (y := 80) (Int32.toInt_inj.mp (by have := tI_80; omega)) ?_
  refine lv_istore_n (lv' := [(2, .int 80), (0, .ref (ad 32)), (1, .ref (ad 20))]) hx hb d_Row_become_13 rfl hl (by decide) rfl (fun ls hl => ?_)
  refine lv_aload_n hx hb d_Row_become_14 rfl (lv_at hl 2 rfl) ?_
  refine va_get (D := D) (ci := 4) (v := .ref (ad 21)) (C := "PageScribe$Row") (T := F_Row) (N := 4) hx hb hts i_Row hown hK hP 20 (ce_20 _ _ _) cl_4 0 (by decide) (hts _ k_1_46) (fun _ h9 => h9) rfl d_Row_become_15 ?_
  refine lv_iconst (v := 0) hx hb d_Row_become_18 (by decide) ?_
  refine lv_aload_n hx hb d_Row_become_19 rfl (lv_at hl 1 rfl) ?_
  refine va_get (D := D) (ci := 4) (v := .ref (ad 33)) (C := "PageScribe$Row") (T := F_Row) (N := 4) hx hb hts i_Row hown hK hP 32 (ce_32 _ _ _) cl_4 0 (by decide) (hts _ k_1_46) (fun _ h9 => h9) rfl d_Row_become_20 ?_
  refine lv_iconst (v := 0) hx hb d_Row_become_23 (by decide) ?_
  refine lv_iload_n hx hb d_Row_become_24 rfl (lv_at hl 0 rfl) ?_
  refine va_copyi (sp := 0) (dp := 0) (n := 80) hx hb (hml.trans hl.1.symm) hown (hts _ k_5_102) (hts _ k_5_104) (hts _ k_5_103) (hts _ k_1_26) hK hP hD hS 21 33 0 0 (ce_21 _ _ _) (ce_33 _ _ _) rfl rfl rfl (by decide +kernel) (by decide +kernel) (by decide +kernel) (by decide +kernel) (by decide +kernel) (fun _ _ => rfl) (Nat.le_of_ble_eq_true rfl) (by decide +kernel) d_Row_become_25 (fun H locs hP hD hS => ?_)
  rw [cs_xv1_k] at hP hD
  have hP : va_P D classes (cW T ad ((S.1, S.2.1, S.2.2.1, ((a_xc1_k S), (a_xc1_n S), (a_xc1_r S), (f_xc1_z S), (a_xd1_rooms S), (a_xd1_counts S), (a_xd1_names S), (va_cpy (a_xv0_k S) (a_xv1_k S) 0 0 80), (a_xv1_n S), (a_xv1_r S), (f_xv1_z S)), S.2.2.2.2.1, S.2.2.2.2.2.1, S.2.2.2.2.2.2.1, S.2.2.2.2.2.2.2.1, S.2.2.2.2.2.2.2.2) : CS)) H := hP
  have hD : va_D A (cW T ad ((S.1, S.2.1, S.2.2.1, ((a_xc1_k S), (a_xc1_n S), (a_xc1_r S), (f_xc1_z S), (a_xd1_rooms S), (a_xd1_counts S), (a_xd1_names S), (va_cpy (a_xv0_k S) (a_xv1_k S) 0 0 80), (a_xv1_n S), (a_xv1_r S), (f_xv1_z S)), S.2.2.2.2.1, S.2.2.2.2.2.1, S.2.2.2.2.2.2.1, S.2.2.2.2.2.2.2.1, S.2.2.2.2.2.2.2.2) : CS)) := hD
  refine lv_aload_n hx hb d_Row_become_28 rfl (lv_at hl 2 rfl) ?_
  refine va_get (D := D) (ci := 4) (v := .ref (ad 22)) (C := "PageScribe$Row") (T := F_Row) (N := 4) hx hb hts i_Row hown hK hP 20 (ce_20 _ _ _) cl_4 1 (by decide) (hts _ k_1_47) (fun _ h9 => h9) rfl d_Row_become_29 ?_
  refine lv_iconst (v := 0) hx hb d_Row_become_32 (by decide) ?_
  refine lv_aload_n hx hb d_Row_become_33 rfl (lv_at hl 1 rfl) ?_
  refine va_get (D := D) (ci := 4) (v := .ref (ad 34)) (C := "PageScribe$Row") (T := F_Row) (N := 4) hx hb hts i_Row hown hK hP 32 (ce_32 _ _ _) cl_4 1 (by decide) (hts _ k_1_47) (fun _ h9 => h9) rfl d_Row_become_34 ?_
  refine lv_iconst (v := 0) hx hb d_Row_become_37 (by decide) ?_
  refine lv_iload_n hx hb d_Row_become_38 rfl (lv_at hl 0 rfl) ?_
  refine va_copyi (sp := 0) (dp := 0) (n := 80) hx hb (hml.trans hl.1.symm) hown (hts _ k_5_102) (hts _ k_5_104) (hts _ k_5_103) (hts _ k_1_26) hK hP hD hS 22 34 0 0 (ce_22 _ _ _) (ce_34 _ _ _) rfl rfl rfl (by decide +kernel) (by decide +kernel) (by decide +kernel) (by decide +kernel) (by decide +kernel) (fun _ _ => rfl) (Nat.le_of_ble_eq_true rfl) (by decide +kernel) d_Row_become_39 (fun H locs hP hD hS => ?_)
  rw [cs_xv1_n] at hP hD
  have hP : va_P D classes (cW T ad ((S.1, S.2.1, S.2.2.1, ((a_xc1_k S), (a_xc1_n S), (a_xc1_r S), (f_xc1_z S), (a_xd1_rooms S), (a_xd1_counts S), (a_xd1_names S), (va_cpy (a_xv0_k S) (a_xv1_k S) 0 0 80), (va_cpy (a_xv0_n S) (a_xv1_n S) 0 0 80), (a_xv1_r S), (f_xv1_z S)), S.2.2.2.2.1, S.2.2.2.2.2.1, S.2.2.2.2.2.2.1, S.2.2.2.2.2.2.2.1, S.2.2.2.2.2.2.2.2) : CS)) H := hP
  have hD : va_D A (cW T ad ((S.1, S.2.1, S.2.2.1, ((a_xc1_k S), (a_xc1_n S), (a_xc1_r S), (f_xc1_z S), (a_xd1_rooms S), (a_xd1_counts S), (a_xd1_names S), (va_cpy (a_xv0_k S) (a_xv1_k S) 0 0 80), (va_cpy (a_xv0_n S) (a_xv1_n S) 0 0 80), (a_xv1_r S), (f_xv1_z S)), S.2.2.2.2.1, S.2.2.2.2.2.1, S.2.2.2.2.2.2.1, S.2.2.2.2.2.2.2.1, S.2.2.2.2.2.2.2.2) : CS)) := hD
  refine lv_aload_n hx hb d_Row_become_42 rfl (lv_at hl 2 rfl) ?_
  refine va_get (D := D) (ci := 4) (v := .ref (ad 23)) (C := "PageScribe$Row") (T := F_Row) (N := 4) hx hb hts i_Row hown hK hP 20 (ce_20 _ _ _) cl_4 2 (by decide) (hts _ k_1_48) (fun _ h9 => h9) rfl d_Row_become_43 ?_
  refine lv_iconst (v := 0) hx hb d_Row_become_46 (by decide) ?_
  refine lv_aload_n hx hb d_Row_become_47 rfl (lv_at hl 1 rfl) ?_
  refine va_get (D := D) (ci := 4) (v := .ref (ad 35)) (C := "PageScribe$Row") (T := F_Row) (N := 4) hx hb hts i_Row hown hK hP 32 (ce_32 _ _ _) cl_4 2 (by decide) (hts _ k_1_48) (fun _ h9 => h9) rfl d_Row_become_48 ?_
  refine lv_iconst (v := 0) hx hb d_Row_become_51 (by decide) ?_
  refine lv_iload_n hx hb d_Row_become_52 rfl (lv_at hl 0 rfl) ?_
  refine va_copyd (sp := 0) (dp := 0) (n := 80) hx hb (hml.trans hl.1.symm) hown (hts _ k_5_102) (hts _ k_5_104) (hts _ k_5_103) (hts _ k_1_26) hK hP hD hS 23 35 3 3 (ce_23 _ _ _) (ce_35 _ _ _) rfl rfl rfl (by decide +kernel) (by decide +kernel) (by decide +kernel) (by decide +kernel) (by decide +kernel) (fun _ _ => rfl) (Nat.le_of_ble_eq_true rfl) (by decide +kernel) d_Row_become_53 (fun H locs hP hD hS => ?_)
  rw [cs_xv1_r] at hP hD
  have hP : va_P D classes (cW T ad ((S.1, S.2.1, S.2.2.1, ((a_xc1_k S), (a_xc1_n S), (a_xc1_r S), (f_xc1_z S), (a_xd1_rooms S), (a_xd1_counts S), (a_xd1_names S), (va_cpy (a_xv0_k S) (a_xv1_k S) 0 0 80), (va_cpy (a_xv0_n S) (a_xv1_n S) 0 0 80), (va_cpy (a_xv0_r S) (a_xv1_r S) 0 0 80), (f_xv1_z S)), S.2.2.2.2.1, S.2.2.2.2.2.1, S.2.2.2.2.2.2.1, S.2.2.2.2.2.2.2.1, S.2.2.2.2.2.2.2.2) : CS)) H := hP
  have hD : va_D A (cW T ad ((S.1, S.2.1, S.2.2.1, ((a_xc1_k S), (a_xc1_n S), (a_xc1_r S), (f_xc1_z S), (a_xd1_rooms S), (a_xd1_counts S), (a_xd1_names S), (va_cpy (a_xv0_k S) (a_xv1_k S) 0 0 80), (va_cpy (a_xv0_n S) (a_xv1_n S) 0 0 80), (va_cpy (a_xv0_r S) (a_xv1_r S) 0 0 80), (f_xv1_z S)), S.2.2.2.2.1, S.2.2.2.2.2.1, S.2.2.2.2.2.2.1, S.2.2.2.2.2.2.2.1, S.2.2.2.2.2.2.2.2) : CS)) := hD
  refine lv_aload_n hx hb d_Row_become_56 rfl (lv_at hl 1 rfl) ?_
  refine lv_aload_n hx hb d_Row_become_57 rfl (lv_at hl 2 rfl) ?_
  refine va_get (D := D) (ci := 4) (v := .int (f_xv0_z S)) (C := "PageScribe$Row") (T := F_Row) (N := 4) hx hb hts i_Row hown hK hP 20 (ce_20 _ _ _) cl_4 3 (by decide) (hts _ k_1_49) (fun _ h9 => h9) rfl d_Row_become_58 ?_
  refine va_put (D := D) (ci := 4) (v := .int (f_xv0_z S)) (ty := .int) (C := "PageScribe$Row") (T := F_Row) (N := 4) hx hb hts i_Row t_Row t_Row_ok n_Row hown hK hP hD hS 32 (ce_32 _ _ _) cl_4 3 (by decide) (hts _ k_1_49) (fun _ h9 => h9) rfl (by decide +kernel) rfl rfl (Nat.le_of_ble_eq_true rfl) d_Row_become_61 (fun H locs hP hD hS => ?_)
  rw [cp_xv1_z] at hP hD
  have hP : va_P D classes (cW T ad ((S.1, S.2.1, S.2.2.1, ((a_xc1_k S), (a_xc1_n S), (a_xc1_r S), (f_xc1_z S), (a_xd1_rooms S), (a_xd1_counts S), (a_xd1_names S), (va_cpy (a_xv0_k S) (a_xv1_k S) 0 0 80), (va_cpy (a_xv0_n S) (a_xv1_n S) 0 0 80), (va_cpy (a_xv0_r S) (a_xv1_r S) 0 0 80), (f_xv0_z S)), S.2.2.2.2.1, S.2.2.2.2.2.1, S.2.2.2.2.2.2.1, S.2.2.2.2.2.2.2.1, S.2.2.2.2.2.2.2.2) : CS)) H := hP
  have hD : va_D A (cW T ad ((S.1, S.2.1, S.2.2.1, ((a_xc1_k S), (a_xc1_n S), (a_xc1_r S), (f_xc1_z S), (a_xd1_rooms S), (a_xd1_counts S), (a_xd1_names S), (va_cpy (a_xv0_k S) (a_xv1_k S) 0 0 80), (va_cpy (a_xv0_n S) (a_xv1_n S) 0 0 80), (va_cpy (a_xv0_r S) (a_xv1_r S) 0 0 80), (f_xv0_z S)), S.2.2.2.2.1, S.2.2.2.2.2.1, S.2.2.2.2.2.2.1, S.2.2.2.2.2.2.2.1, S.2.2.2.2.2.2.2.2) : CS)) := hD
  exact j_vret F hr hlocks hK hS ((S.1, S.2.1, S.2.2.1, ((a_xc1_k S), (a_xc1_n S), (a_xc1_r S), (f_xc1_z S), (a_xd1_rooms S), (a_xd1_counts S), (a_xd1_names S), (va_cpy (a_xv0_k S) (a_xv1_k S) 0 0 80), (va_cpy (a_xv0_n S) (a_xv1_n S) 0 0 80), (va_cpy (a_xv0_r S) (a_xv1_r S) 0 0 80), (f_xv0_z S)), S.2.2.2.2.1, S.2.2.2.2.2.1, S.2.2.2.2.2.2.1, S.2.2.2.2.2.2.2.1, S.2.2.2.2.2.2.2.2) : CS) ⟨⟨i_vst, i_vc0, i_vc1, i_vc2, i_vc3, i_vv0, (cpy_dB i_vv0), i_vv2, i_vv3, i_vg, i_wct, i_wln, i_sd0, i_sd1, i_sd2, i_sd3, i_rln, i_rtx, i_rpl, i_rtk, i_cnv, i_pts, i_cik, i_und⟩, (kcL_r S), (kcP_r S), (kcU_r S), (kcW_r S)⟩ hP hD d_Row_become_64
theorem d_Store_become_0 : decode prog_10_method_2_code 0 = .ok (.aload_n 0, 1) := by decide +kernel
theorem d_Store_become_1 : decode prog_10_method_2_code 1 = .ok (.getfield 14, 3) := by decide +kernel
theorem d_Store_become_4 : decode prog_10_method_2_code 4 = .ok (.aload_n 1, 1) := by decide +kernel
theorem d_Store_become_5 : decode prog_10_method_2_code 5 = .ok (.getfield 14, 3) := by decide +kernel
theorem d_Store_become_8 : decode prog_10_method_2_code 8 = .ok (.invokevirtual 33, 3) := by decide +kernel
theorem k_5_100 : Cond.code ⟨"PageScribe$Row", "become", "(LPageScribe$Row;)V"⟩ prog_8_method_9_code 3 none ∈ gw := gw_of (tb_5 (List.mem_of_getElem? (i := 100) (by decide +kernel))) (by decide +kernel)
theorem k_5_95 : Cond.methodLink "PageScribe$Store" 33 ⟨"PageScribe$Row", "become", "(LPageScribe$Row;)V"⟩ ∈ gw := gw_of (tb_5 (List.mem_of_getElem? (i := 95) (by decide +kernel))) (by decide +kernel)
theorem k_5_96 : Cond.instanceMethod ⟨"PageScribe$Row", "become", "(LPageScribe$Row;)V"⟩ ∈ gw := gw_of (tb_5 (List.mem_of_getElem? (i := 96) (by decide +kernel))) (by decide +kernel)
theorem k_5_97 : Cond.selects "PageScribe$Row" ⟨"PageScribe$Row", "become", "(LPageScribe$Row;)V"⟩ ⟨"PageScribe$Row", "become", "(LPageScribe$Row;)V"⟩ ∈ gw := gw_of (tb_5 (List.mem_of_getElem? (i := 97) (by decide +kernel))) (by decide +kernel)
theorem d_Store_become_11 : decode prog_10_method_2_code 11 = .ok (.aload_n 0, 1) := by decide +kernel
theorem d_Store_become_12 : decode prog_10_method_2_code 12 = .ok (.getfield 30, 3) := by decide +kernel
theorem d_Store_become_15 : decode prog_10_method_2_code 15 = .ok (.aload_n 1, 1) := by decide +kernel
theorem d_Store_become_16 : decode prog_10_method_2_code 16 = .ok (.getfield 30, 3) := by decide +kernel
theorem d_Store_become_19 : decode prog_10_method_2_code 19 = .ok (.invokevirtual 33, 3) := by decide +kernel
theorem d_Store_become_22 : decode prog_10_method_2_code 22 = .ok (.aload_n 1, 1) := by decide +kernel
theorem d_Store_become_23 : decode prog_10_method_2_code 23 = .ok (.getfield 20, 3) := by decide +kernel
theorem d_Store_become_26 : decode prog_10_method_2_code 26 = .ok (.iconst 0, 1) := by decide +kernel
theorem d_Store_become_27 : decode prog_10_method_2_code 27 = .ok (.aload_n 0, 1) := by decide +kernel
theorem d_Store_become_28 : decode prog_10_method_2_code 28 = .ok (.getfield 20, 3) := by decide +kernel
theorem d_Store_become_31 : decode prog_10_method_2_code 31 = .ok (.iconst 0, 1) := by decide +kernel
theorem d_Store_become_32 : decode prog_10_method_2_code 32 = .ok (.bipush 7, 2) := by decide +kernel
theorem d_Store_become_34 : decode prog_10_method_2_code 34 = .ok (.invokestatic 37, 3) := by decide +kernel
theorem k_5_105 : Cond.methodLink "PageScribe$Store" 37 ⟨"java/lang/System", "arraycopy", "(Ljava/lang/Object;ILjava/lang/Object;II)V"⟩ ∈ gw := gw_of (tb_5 (List.mem_of_getElem? (i := 105) (by decide +kernel))) (by decide +kernel)
theorem d_Store_become_37 : decode prog_10_method_2_code 37 = .ok (.aload_n 1, 1) := by decide +kernel
theorem d_Store_become_38 : decode prog_10_method_2_code 38 = .ok (.getfield 24, 3) := by decide +kernel
theorem d_Store_become_41 : decode prog_10_method_2_code 41 = .ok (.iconst 0, 1) := by decide +kernel
theorem d_Store_become_42 : decode prog_10_method_2_code 42 = .ok (.aload_n 0, 1) := by decide +kernel
theorem d_Store_become_43 : decode prog_10_method_2_code 43 = .ok (.getfield 24, 3) := by decide +kernel
theorem d_Store_become_46 : decode prog_10_method_2_code 46 = .ok (.iconst 0, 1) := by decide +kernel
theorem d_Store_become_47 : decode prog_10_method_2_code 47 = .ok (.bipush 7, 2) := by decide +kernel
theorem d_Store_become_49 : decode prog_10_method_2_code 49 = .ok (.invokestatic 37, 3) := by decide +kernel
theorem d_Store_become_52 : decode prog_10_method_2_code 52 = .ok (.aload_n 1, 1) := by decide +kernel
theorem d_Store_become_53 : decode prog_10_method_2_code 53 = .ok (.getfield 27, 3) := by decide +kernel
theorem d_Store_become_56 : decode prog_10_method_2_code 56 = .ok (.iconst 0, 1) := by decide +kernel
theorem d_Store_become_57 : decode prog_10_method_2_code 57 = .ok (.aload_n 0, 1) := by decide +kernel
theorem d_Store_become_58 : decode prog_10_method_2_code 58 = .ok (.getfield 27, 3) := by decide +kernel
theorem d_Store_become_61 : decode prog_10_method_2_code 61 = .ok (.iconst 0, 1) := by decide +kernel
theorem d_Store_become_62 : decode prog_10_method_2_code 62 = .ok (.bipush 80, 2) := by decide +kernel
theorem d_Store_become_64 : decode prog_10_method_2_code 64 = .ok (.invokestatic 37, 3) := by decide +kernel
theorem d_Store_become_67 : decode prog_10_method_2_code 67 = .ok (.return_, 1) := by decide +kernel
set_option maxHeartbeats 4000000 in
set_option maxRecDepth 100000 in
theorem c_Store_become_24_12 (l : Launch) (D : va_G) (T : Nat → ClassId) (ad : Nat → Nat) (S : CS)  (sz : Nat)  (hI : CIv S) : Met l ⟨"PageScribe$Store", "become", "(LPageScribe$Store;)V"⟩ (wy ⟨"PageScribe$Store", "become", "(LPageScribe$Store;)V"⟩ prog_10_method_2_code 2 none) ({ frames := 2, cells := 0, slots := 0, locals := 140 }) (va_Pc [.ref (ad 24), .ref (ad 12)] (Pw D T (cW T ad S) sz E0)) (va_Qv (fun (u : CS) => CIv u ∧ kcL S u ∧ kcP S u ∧ kcU S u ∧ kcW S u) (fun u t => Bw D T (va_A (cW T ad S) sz) (cW T ad u) t) (va_A (cW T ad S) sz)) 0 0 (va_A (cW T ad S) sz) := by
  refine j_met (y := ⟨"PageScribe$Store", "become", "(LPageScribe$Store;)V"⟩) (b := prog_10_method_2_code) (n := 2) (ret := none) (av := [.ref (ad 24), .ref (ad 12)]) (Qc := fun A => va_Qv (fun (u : CS) => CIv u ∧ kcL S u ∧ kcP S u ∧ kcU S u ∧ kcW S u) (fun u t => Bw D T A (cW T ad u) t) A) (by decide +kernel) (Nat.le_of_ble_eq_true rfl) (fun p e s m args below meth c A ls F hr hlocks hnm hK hP hD hS hA hN hE hl => ?_)
  obtain ⟨hx, hb, hml, hown, hts⟩ := id F
  have hl : lv_has ls 2 [(0, .ref (ad 24)), (1, .ref (ad 12))] := hl
  obtain ⟨i_vst, i_vc0, i_vc1, i_vc2, i_vc3, i_vv0, i_vv1, i_vv2, i_vv3, i_vg, i_wct, i_wln, i_sd0, i_sd1, i_sd2, i_sd3, i_rln, i_rtx, i_rpl, i_rtk, i_cnv, i_pts, i_cik, i_und⟩ := id hI
  refine lv_aload_n hx hb d_Store_become_0 rfl (lv_at hl 0 rfl) ?_
  refine va_get (D := D) (ci := 3) (v := .ref (ad 25)) (C := "PageScribe$Store") (T := F_Store) (N := 5) hx hb hts i_Store hown hK hP 24 (ce_24 _ _ _) cl_3 0 (by decide) (hts _ k_1_107) (fun _ h9 => h9) rfl d_Store_become_1 ?_
  refine lv_aload_n hx hb d_Store_become_4 rfl (lv_at hl 1 rfl) ?_
  refine va_get (D := D) (ci := 3) (v := .ref (ad 13)) (C := "PageScribe$Store") (T := F_Store) (N := 5) hx hb hts i_Store hown hK hP 12 (ce_12 _ _ _) cl_3 0 (by decide) (hts _ k_1_107) (fun _ h9 => h9) rfl d_Store_become_5 ?_
  refine jc_cv (w := (fun u => u)) hK hP hD hS hA (va_runV (As := [.ref (ad 13)]) (rest := []) F (c_Row_become_25_13 l D T ad S  s.heap.size ⟨i_vst, i_vc0, i_vc1, i_vc2, i_vc3, i_vv0, i_vv1, i_vv2, i_vv3, i_vg, i_wct, i_wln, i_sd0, i_sd1, i_sd2, i_sd3, i_rln, i_rtx, i_rpl, i_rtk, i_cnv, i_pts, i_cik, i_und⟩) (j_cV (k := 1) (C := "PageScribe$Row") hts k_5_100 k_1_2 k_5_95 k_5_96 k_5_97 (by decide +kernel) ⟨Nat.le_of_ble_eq_true rfl, Nat.le_of_ble_eq_true rfl⟩) (j_preV (q0 := 25) (ci := 4) hK hP hD csc csc_all csc_nd cl_4 (ce_25 _ _ _) (fun _ _ _ _ h => h) (fun _ _ _ => trivial)) rfl rfl hl.1 rfl (lv_room (Nat.le_of_ble_eq_true rfl)) d_Store_become_8 ⟨Nat.le_of_ble_eq_true rfl, Nat.le_of_ble_eq_true rfl⟩) (fun S1 H locs hw1 hP hD hS => ?_)
  have hP : va_P D classes (cW T ad S1) H := hP
  have hD : va_D A (cW T ad S1) := hD
  obtain ⟨⟨i_vst, i_vc0, i_vc1, i_vc2, i_vc3, i_vv0, i_vv1, i_vv2, i_vv3, i_vg, i_wct, i_wln, i_sd0, i_sd1, i_sd2, i_sd3, i_rln, i_rtx, i_rpl, i_rtk, i_cnv, i_pts, i_cik, i_und⟩, kpcL_S1, kpcP_S1, kpcU_S1, kpcW_S1⟩ := hw1
  have kScL_S1 : kcL S S1 := kcL_t (show kcL S S from (kcL_r S)) kpcL_S1
  have kScP_S1 : kcP S S1 := kcP_t (show kcP S S from (kcP_r S)) kpcP_S1
  have kScU_S1 : kcU S S1 := kcU_t (show kcU S S from (kcU_r S)) kpcU_S1
  have kScW_S1 : kcW S S1 := kcW_t (show kcW S S from (kcW_r S)) kpcW_S1
  have nxr_length_S1 : (f_xr_length S1).toInt = (f_xr_length S).toInt := congrArg Int32.toInt kpcL_S1
  have nxr_length_S1 : (f_xr_length S1).toInt = (f_xr_length S).toInt := congrArg Int32.toInt kpcP_S1.1
  have nxr_place_S1 : (f_xr_place S1).toInt = (f_xr_place S).toInt := congrArg Int32.toInt kpcP_S1.2.1
  have nxe_underWay_S1 : (f_xe_underWay S1).toInt = (f_xe_underWay S).toInt := congrArg Int32.toInt kpcU_S1
  have nxp_columns_S1 : (f_xp_columns S1).toInt = (f_xp_columns S).toInt := congrArg Int32.toInt kpcW_S1.1
  have nxp_rows_S1 : (f_xp_rows S1).toInt = (f_xp_rows S).toInt := congrArg Int32.toInt kpcW_S1.2
  refine lv_aload_n hx hb d_Store_become_11 rfl (lv_at hl 0 rfl) ?_
  refine va_get (D := D) (ci := 3) (v := .ref (ad 32)) (C := "PageScribe$Store") (T := F_Store) (N := 5) hx hb hts i_Store hown hK hP 24 (ce_24 _ _ _) cl_3 4 (by decide) (hts _ k_1_114) (fun _ h9 => h9) rfl d_Store_become_12 ?_
  refine lv_aload_n hx hb d_Store_become_15 rfl (lv_at hl 1 rfl) ?_
  refine va_get (D := D) (ci := 3) (v := .ref (ad 20)) (C := "PageScribe$Store") (T := F_Store) (N := 5) hx hb hts i_Store hown hK hP 12 (ce_12 _ _ _) cl_3 4 (by decide) (hts _ k_1_114) (fun _ h9 => h9) rfl d_Store_become_16 ?_
  refine jc_cv (w := (fun u => u)) hK hP hD hS hA (va_runV (As := [.ref (ad 20)]) (rest := []) F (c_Row_become_32_20 l D T ad S1  H.size ⟨i_vst, i_vc0, i_vc1, i_vc2, i_vc3, i_vv0, i_vv1, i_vv2, i_vv3, i_vg, i_wct, i_wln, i_sd0, i_sd1, i_sd2, i_sd3, i_rln, i_rtx, i_rpl, i_rtk, i_cnv, i_pts, i_cik, i_und⟩) (j_cV (k := 1) (C := "PageScribe$Row") hts k_5_100 k_1_2 k_5_95 k_5_96 k_5_97 (by decide +kernel) ⟨Nat.le_of_ble_eq_true rfl, Nat.le_of_ble_eq_true rfl⟩) (j_preV (q0 := 32) (ci := 4) hK hP hD csc csc_all csc_nd cl_4 (ce_32 _ _ _) (fun _ _ _ _ h => h) (fun _ _ _ => trivial)) rfl rfl hl.1 rfl (lv_room (Nat.le_of_ble_eq_true rfl)) d_Store_become_19 ⟨Nat.le_of_ble_eq_true rfl, Nat.le_of_ble_eq_true rfl⟩) (fun S2 H locs hw2 hP hD hS => ?_)
  have hP : va_P D classes (cW T ad S2) H := hP
  have hD : va_D A (cW T ad S2) := hD
  obtain ⟨⟨i_vst, i_vc0, i_vc1, i_vc2, i_vc3, i_vv0, i_vv1, i_vv2, i_vv3, i_vg, i_wct, i_wln, i_sd0, i_sd1, i_sd2, i_sd3, i_rln, i_rtx, i_rpl, i_rtk, i_cnv, i_pts, i_cik, i_und⟩, kpcL_S2, kpcP_S2, kpcU_S2, kpcW_S2⟩ := hw2
  have kScL_S2 : kcL S S2 := kcL_t (show kcL S S1 from kScL_S1) kpcL_S2
  have kScP_S2 : kcP S S2 := kcP_t (show kcP S S1 from kScP_S1) kpcP_S2
  have kScU_S2 : kcU S S2 := kcU_t (show kcU S S1 from kScU_S1) kpcU_S2
  have kScW_S2 : kcW S S2 := kcW_t (show kcW S S1 from kScW_S1) kpcW_S2
  have nxr_length_S2 : (f_xr_length S2).toInt = (f_xr_length S1).toInt := congrArg Int32.toInt kpcL_S2
  have nxr_length_S2 : (f_xr_length S2).toInt = (f_xr_length S1).toInt := congrArg Int32.toInt kpcP_S2.1
  have nxr_place_S2 : (f_xr_place S2).toInt = (f_xr_place S1).toInt := congrArg Int32.toInt kpcP_S2.2.1
  have nxe_underWay_S2 : (f_xe_underWay S2).toInt = (f_xe_underWay S1).toInt := congrArg Int32.toInt kpcU_S2
  have nxp_columns_S2 : (f_xp_columns S2).toInt = (f_xp_columns S1).toInt := congrArg Int32.toInt kpcW_S2.1
  have nxp_rows_S2 : (f_xp_rows S2).toInt = (f_xp_rows S1).toInt := congrArg Int32.toInt kpcW_S2.2
  refine lv_aload_n hx hb d_Store_become_22 rfl (lv_at hl 1 rfl) ?_
  refine va_get (D := D) (ci := 3) (v := .ref (ad 17)) (C := "PageScribe$Store") (T := F_Store) (N := 5) hx hb hts i_Store hown hK hP 12 (ce_12 _ _ _) cl_3 1 (by decide) (hts _ k_1_111) (fun _ h9 => h9) rfl d_Store_become_23 ?_
  refine lv_iconst (v := 0) hx hb d_Store_become_26 (by decide) ?_
  refine lv_aload_n hx hb d_Store_become_27 rfl (lv_at hl 0 rfl) ?_
  refine va_get (D := D) (ci := 3) (v := .ref (ad 29)) (C := "PageScribe$Store") (T := F_Store) (N := 5) hx hb hts i_Store hown hK hP 24 (ce_24 _ _ _) cl_3 1 (by decide) (hts _ k_1_111) (fun _ h9 => h9) rfl d_Store_become_28 ?_
  refine lv_iconst (v := 0) hx hb d_Store_become_31 (by decide) ?_
  refine lv_bipush (v := 7) hx hb d_Store_become_32 (by decide) ?_
  refine va_copyi (sp := 0) (dp := 0) (n := 7) hx hb (hml.trans hl.1.symm) hown (hts _ k_5_105) (hts _ k_5_104) (hts _ k_5_103) (hts _ k_1_26) hK hP hD hS 17 29 0 0 (ce_17 _ _ _) (ce_29 _ _ _) rfl rfl rfl (by decide +kernel) (by decide +kernel) (by decide +kernel) (by decide +kernel) (by decide +kernel) (fun _ _ => rfl) (Nat.le_of_ble_eq_true rfl) (by decide +kernel) d_Store_become_34 (fun H locs hP hD hS => ?_)
  rw [cs_xd1_rooms] at hP hD
  have hP : va_P D classes (cW T ad ((S2.1, S2.2.1, S2.2.2.1, ((a_xc1_k S2), (a_xc1_n S2), (a_xc1_r S2), (f_xc1_z S2), (va_cpy (a_xd0_rooms S2) (a_xd1_rooms S2) 0 0 7), (a_xd1_counts S2), (a_xd1_names S2), (a_xv1_k S2), (a_xv1_n S2), (a_xv1_r S2), (f_xv1_z S2)), S2.2.2.2.2.1, S2.2.2.2.2.2.1, S2.2.2.2.2.2.2.1, S2.2.2.2.2.2.2.2.1, S2.2.2.2.2.2.2.2.2) : CS)) H := hP
  have hD : va_D A (cW T ad ((S2.1, S2.2.1, S2.2.2.1, ((a_xc1_k S2), (a_xc1_n S2), (a_xc1_r S2), (f_xc1_z S2), (va_cpy (a_xd0_rooms S2) (a_xd1_rooms S2) 0 0 7), (a_xd1_counts S2), (a_xd1_names S2), (a_xv1_k S2), (a_xv1_n S2), (a_xv1_r S2), (f_xv1_z S2)), S2.2.2.2.2.1, S2.2.2.2.2.2.1, S2.2.2.2.2.2.2.1, S2.2.2.2.2.2.2.2.1, S2.2.2.2.2.2.2.2.2) : CS)) := hD
  refine lv_aload_n hx hb d_Store_become_37 rfl (lv_at hl 1 rfl) ?_
  refine va_get (D := D) (ci := 3) (v := .ref (ad 18)) (C := "PageScribe$Store") (T := F_Store) (N := 5) hx hb hts i_Store hown hK hP 12 (ce_12 _ _ _) cl_3 2 (by decide) (hts _ k_1_112) (fun _ h9 => h9) rfl d_Store_become_38 ?_
  refine lv_iconst (v := 0) hx hb d_Store_become_41 (by decide) ?_
  refine lv_aload_n hx hb d_Store_become_42 rfl (lv_at hl 0 rfl) ?_
  refine va_get (D := D) (ci := 3) (v := .ref (ad 30)) (C := "PageScribe$Store") (T := F_Store) (N := 5) hx hb hts i_Store hown hK hP 24 (ce_24 _ _ _) cl_3 2 (by decide) (hts _ k_1_112) (fun _ h9 => h9) rfl d_Store_become_43 ?_
  refine lv_iconst (v := 0) hx hb d_Store_become_46 (by decide) ?_
  refine lv_bipush (v := 7) hx hb d_Store_become_47 (by decide) ?_
  refine va_copyi (sp := 0) (dp := 0) (n := 7) hx hb (hml.trans hl.1.symm) hown (hts _ k_5_105) (hts _ k_5_104) (hts _ k_5_103) (hts _ k_1_26) hK hP hD hS 18 30 0 0 (ce_18 _ _ _) (ce_30 _ _ _) rfl rfl rfl (by decide +kernel) (by decide +kernel) (by decide +kernel) (by decide +kernel) (by decide +kernel) (fun _ _ => rfl) (Nat.le_of_ble_eq_true rfl) (by decide +kernel) d_Store_become_49 (fun H locs hP hD hS => ?_)
  rw [cs_xd1_counts] at hP hD
  have hP : va_P D classes (cW T ad ((S2.1, S2.2.1, S2.2.2.1, ((a_xc1_k S2), (a_xc1_n S2), (a_xc1_r S2), (f_xc1_z S2), (va_cpy (a_xd0_rooms S2) (a_xd1_rooms S2) 0 0 7), (va_cpy (a_xd0_counts S2) (a_xd1_counts S2) 0 0 7), (a_xd1_names S2), (a_xv1_k S2), (a_xv1_n S2), (a_xv1_r S2), (f_xv1_z S2)), S2.2.2.2.2.1, S2.2.2.2.2.2.1, S2.2.2.2.2.2.2.1, S2.2.2.2.2.2.2.2.1, S2.2.2.2.2.2.2.2.2) : CS)) H := hP
  have hD : va_D A (cW T ad ((S2.1, S2.2.1, S2.2.2.1, ((a_xc1_k S2), (a_xc1_n S2), (a_xc1_r S2), (f_xc1_z S2), (va_cpy (a_xd0_rooms S2) (a_xd1_rooms S2) 0 0 7), (va_cpy (a_xd0_counts S2) (a_xd1_counts S2) 0 0 7), (a_xd1_names S2), (a_xv1_k S2), (a_xv1_n S2), (a_xv1_r S2), (f_xv1_z S2)), S2.2.2.2.2.1, S2.2.2.2.2.2.1, S2.2.2.2.2.2.2.1, S2.2.2.2.2.2.2.2.1, S2.2.2.2.2.2.2.2.2) : CS)) := hD
  refine lv_aload_n hx hb d_Store_become_52 rfl (lv_at hl 1 rfl) ?_
  refine va_get (D := D) (ci := 3) (v := .ref (ad 19)) (C := "PageScribe$Store") (T := F_Store) (N := 5) hx hb hts i_Store hown hK hP 12 (ce_12 _ _ _) cl_3 3 (by decide) (hts _ k_1_113) (fun _ h9 => h9) rfl d_Store_become_53 ?_
  refine lv_iconst (v := 0) hx hb d_Store_become_56 (by decide) ?_
  refine lv_aload_n hx hb d_Store_become_57 rfl (lv_at hl 0 rfl) ?_
  refine va_get (D := D) (ci := 3) (v := .ref (ad 31)) (C := "PageScribe$Store") (T := F_Store) (N := 5) hx hb hts i_Store hown hK hP 24 (ce_24 _ _ _) cl_3 3 (by decide) (hts _ k_1_113) (fun _ h9 => h9) rfl d_Store_become_58 ?_
  refine lv_iconst (v := 0) hx hb d_Store_become_61 (by decide) ?_
  refine lv_bipush (v := 80) hx hb d_Store_become_62 (by decide) ?_
  refine va_copyi (sp := 0) (dp := 0) (n := 80) hx hb (hml.trans hl.1.symm) hown (hts _ k_5_105) (hts _ k_5_104) (hts _ k_5_103) (hts _ k_1_26) hK hP hD hS 19 31 0 0 (ce_19 _ _ _) (ce_31 _ _ _) rfl rfl rfl (by decide +kernel) (by decide +kernel) (by decide +kernel) (by decide +kernel) (by decide +kernel) (fun _ _ => rfl) (Nat.le_of_ble_eq_true rfl) (by decide +kernel) d_Store_become_64 (fun H locs hP hD hS => ?_)
  rw [cs_xd1_names] at hP hD
  have hP : va_P D classes (cW T ad ((S2.1, S2.2.1, S2.2.2.1, ((a_xc1_k S2), (a_xc1_n S2), (a_xc1_r S2), (f_xc1_z S2), (va_cpy (a_xd0_rooms S2) (a_xd1_rooms S2) 0 0 7), (va_cpy (a_xd0_counts S2) (a_xd1_counts S2) 0 0 7), (va_cpy (a_xd0_names S2) (a_xd1_names S2) 0 0 80), (a_xv1_k S2), (a_xv1_n S2), (a_xv1_r S2), (f_xv1_z S2)), S2.2.2.2.2.1, S2.2.2.2.2.2.1, S2.2.2.2.2.2.2.1, S2.2.2.2.2.2.2.2.1, S2.2.2.2.2.2.2.2.2) : CS)) H := hP
  have hD : va_D A (cW T ad ((S2.1, S2.2.1, S2.2.2.1, ((a_xc1_k S2), (a_xc1_n S2), (a_xc1_r S2), (f_xc1_z S2), (va_cpy (a_xd0_rooms S2) (a_xd1_rooms S2) 0 0 7), (va_cpy (a_xd0_counts S2) (a_xd1_counts S2) 0 0 7), (va_cpy (a_xd0_names S2) (a_xd1_names S2) 0 0 80), (a_xv1_k S2), (a_xv1_n S2), (a_xv1_r S2), (f_xv1_z S2)), S2.2.2.2.2.1, S2.2.2.2.2.2.1, S2.2.2.2.2.2.2.1, S2.2.2.2.2.2.2.2.1, S2.2.2.2.2.2.2.2.2) : CS)) := hD
  exact j_vret F hr hlocks hK hS ((S2.1, S2.2.1, S2.2.2.1, ((a_xc1_k S2), (a_xc1_n S2), (a_xc1_r S2), (f_xc1_z S2), (va_cpy (a_xd0_rooms S2) (a_xd1_rooms S2) 0 0 7), (va_cpy (a_xd0_counts S2) (a_xd1_counts S2) 0 0 7), (va_cpy (a_xd0_names S2) (a_xd1_names S2) 0 0 80), (a_xv1_k S2), (a_xv1_n S2), (a_xv1_r S2), (f_xv1_z S2)), S2.2.2.2.2.1, S2.2.2.2.2.2.1, S2.2.2.2.2.2.2.1, S2.2.2.2.2.2.2.2.1, S2.2.2.2.2.2.2.2.2) : CS) ⟨⟨i_vst, i_vc0, i_vc1, i_vc2, i_vc3, i_vv0, i_vv1, i_vv2, i_vv3, i_vg, i_wct, i_wln, i_sd0, (cpy_sd i_sd0), i_sd2, i_sd3, i_rln, i_rtx, i_rpl, i_rtk, i_cnv, i_pts, i_cik, i_und⟩, kScL_S2, kScP_S2, kScU_S2, kScW_S2⟩ hP hD d_Store_become_67
set_option maxHeartbeats 4000000 in
set_option maxRecDepth 100000 in
theorem c_Row_become_13_25 (l : Launch) (D : va_G) (T : Nat → ClassId) (ad : Nat → Nat) (S : CS)  (sz : Nat)  (hI : CIv S) : Met l ⟨"PageScribe$Row", "become", "(LPageScribe$Row;)V"⟩ (wy ⟨"PageScribe$Row", "become", "(LPageScribe$Row;)V"⟩ prog_8_method_9_code 3 none) ({ frames := 1, cells := 0, slots := 0, locals := 70 }) (va_Pc [.ref (ad 13), .ref (ad 25)] (Pw D T (cW T ad S) sz E0)) (va_Qv (fun (u : CS) => CIv u ∧ kcL S u ∧ kcP S u ∧ kcU S u ∧ kcW S u) (fun u t => Bw D T (va_A (cW T ad S) sz) (cW T ad u) t) (va_A (cW T ad S) sz)) 0 0 (va_A (cW T ad S) sz) := by
  refine j_met (y := ⟨"PageScribe$Row", "become", "(LPageScribe$Row;)V"⟩) (b := prog_8_method_9_code) (n := 3) (ret := none) (av := [.ref (ad 13), .ref (ad 25)]) (Qc := fun A => va_Qv (fun (u : CS) => CIv u ∧ kcL S u ∧ kcP S u ∧ kcU S u ∧ kcW S u) (fun u t => Bw D T A (cW T ad u) t) A) (by decide +kernel) (Nat.le_of_ble_eq_true rfl) (fun p e s m args below meth c A ls F hr hlocks hnm hK hP hD hS hA hN hE hl => ?_)
  obtain ⟨hx, hb, hml, hown, hts⟩ := id F
  have hl : lv_has ls 3 [(0, .ref (ad 13)), (1, .ref (ad 25))] := hl
  obtain ⟨i_vst, i_vc0, i_vc1, i_vc2, i_vc3, i_vv0, i_vv1, i_vv2, i_vv3, i_vg, i_wct, i_wln, i_sd0, i_sd1, i_sd2, i_sd3, i_rln, i_rtx, i_rpl, i_rtk, i_cnv, i_pts, i_cik, i_und⟩ := id hI
  refine lv_aload_n hx hb d_Row_become_0 rfl (lv_at hl 0 rfl) ?_
  refine va_get (D := D) (ci := 4) (v := .ref (ad 14)) (C := "PageScribe$Row") (T := F_Row) (N := 4) hx hb hts i_Row hown hK hP 13 (ce_13 _ _ _) cl_4 0 (by decide) (hts _ k_1_46) (fun _ h9 => h9) rfl d_Row_become_1 ?_
  refine va_alen (v := 160) hx hb hK hP 14 0 (ce_14 _ _ _) rfl (show Int32.ofNat 160 = 160 from by decide +kernel) d_Row_become_4 ?_
  refine lv_aload_n hx hb d_Row_become_5 rfl (lv_at hl 1 rfl) ?_
  refine va_get (D := D) (ci := 4) (v := .ref (ad 26)) (C := "PageScribe$Row") (T := F_Row) (N := 4) hx hb hts i_Row hown hK hP 25 (ce_25 _ _ _) cl_4 0 (by decide) (hts _ k_1_46) (fun _ h9 => h9) rfl d_Row_become_6 ?_
  refine va_alen (v := 160) hx hb hK hP 26 0 (ce_26 _ _ _) rfl (show Int32.ofNat 160 = 160 from by decide +kernel) d_Row_become_9 ?_
  refine j_ci (wc := []) (wr := (cW T ad S)) hK hP hD hS hA [] csc rfl csc_all csc_nd (fun _ _ => List.not_mem_nil) (va_runS (As := [.int 160, .int 160]) (rest := []) F (c_Math_min l D T (160 : Int32) (160 : Int32)  s.heap.size) (j_cS (k := 2) hts k_3_221 k_1_21 k_5_101 k_3_220 (by decide +kernel) ⟨Nat.le_of_ble_eq_true rfl, Nat.le_of_ble_eq_true rfl⟩) (j_preS hK hP hD [] rfl (by decide) (fun _ _ _ _ h => h) (fun _ _ _ => trivial)) rfl rfl hl.1 rfl (lv_room (Nat.le_of_ble_eq_true rfl)) d_Row_become_10 ⟨Nat.le_of_ble_eq_true rfl, Nat.le_of_ble_eq_true rfl⟩) (fun rv1 u1 H locs hw1 hP hD hS => ?_)
  have hP : va_P D classes (cW T ad S) H := hP
  have hD : va_D A (cW T ad S) := hD
  have qhw1 : rv1.toInt ≤ 160 ∧ rv1.toInt ≤ 160 ∧ (rv1.toInt = 160 ∨ rv1.toInt = 160) := by simpa only [tI_160] using hw1
  have rrv1 := zt_rng rv1
  refine j_eqi (y := 160) (Int32.toInt_inj.mp (by have := tI_160; omega)) ?_
  refine lv_istore_n (lv' := [(2, .int 160), (0, .ref (ad 13)), (1, .ref (ad 25))]) hx hb d_Row_become_13 rfl hl (by decide) rfl (fun ls hl => ?_)
  refine lv_aload_n hx hb d_Row_become_14 rfl (lv_at hl 2 rfl) ?_
  refine va_get (D := D) (ci := 4) (v := .ref (ad 26)) (C := "PageScribe$Row") (T := F_Row) (N := 4) hx hb hts i_Row hown hK hP 25 (ce_25 _ _ _) cl_4 0 (by decide) (hts _ k_1_46) (fun _ h9 => h9) rfl d_Row_become_15 ?_
  refine lv_iconst (v := 0) hx hb d_Row_become_18 (by decide) ?_
  refine lv_aload_n hx hb d_Row_become_19 rfl (lv_at hl 1 rfl) ?_
  refine va_get (D := D) (ci := 4) (v := .ref (ad 14)) (C := "PageScribe$Row") (T := F_Row) (N := 4) hx hb hts i_Row hown hK hP 13 (ce_13 _ _ _) cl_4 0 (by decide) (hts _ k_1_46) (fun _ h9 => h9) rfl d_Row_become_20 ?_
  refine lv_iconst (v := 0) hx hb d_Row_become_23 (by decide) ?_
  refine lv_iload_n hx hb d_Row_become_24 rfl (lv_at hl 0 rfl) ?_
  refine va_copyi (sp := 0) (dp := 0) (n := 160) hx hb (hml.trans hl.1.symm) hown (hts _ k_5_102) (hts _ k_5_104) (hts _ k_5_103) (hts _ k_1_26) hK hP hD hS 26 14 0 0 (ce_26 _ _ _) (ce_14 _ _ _) rfl rfl rfl (by decide +kernel) (by decide +kernel) (by decide +kernel) (by decide +kernel) (by decide +kernel) (fun _ _ => rfl) (Nat.le_of_ble_eq_true rfl) (by decide +kernel) d_Row_become_25 (fun H locs hP hD hS => ?_)
  rw [cs_xc0_k] at hP hD
  have hP : va_P D classes (cW T ad ((S.1, S.2.1, ((va_cpy (a_xc1_k S) (a_xc0_k S) 0 0 160), (a_xc0_n S), (a_xc0_r S), (f_xc0_z S), (a_xd0_rooms S), (a_xd0_counts S), (a_xd0_names S), (a_xv0_k S), (a_xv0_n S), (a_xv0_r S), (f_xv0_z S)), S.2.2.2.1, S.2.2.2.2.1, S.2.2.2.2.2.1, S.2.2.2.2.2.2.1, S.2.2.2.2.2.2.2.1, S.2.2.2.2.2.2.2.2) : CS)) H := hP
  have hD : va_D A (cW T ad ((S.1, S.2.1, ((va_cpy (a_xc1_k S) (a_xc0_k S) 0 0 160), (a_xc0_n S), (a_xc0_r S), (f_xc0_z S), (a_xd0_rooms S), (a_xd0_counts S), (a_xd0_names S), (a_xv0_k S), (a_xv0_n S), (a_xv0_r S), (f_xv0_z S)), S.2.2.2.1, S.2.2.2.2.1, S.2.2.2.2.2.1, S.2.2.2.2.2.2.1, S.2.2.2.2.2.2.2.1, S.2.2.2.2.2.2.2.2) : CS)) := hD
  refine lv_aload_n hx hb d_Row_become_28 rfl (lv_at hl 2 rfl) ?_
  refine va_get (D := D) (ci := 4) (v := .ref (ad 27)) (C := "PageScribe$Row") (T := F_Row) (N := 4) hx hb hts i_Row hown hK hP 25 (ce_25 _ _ _) cl_4 1 (by decide) (hts _ k_1_47) (fun _ h9 => h9) rfl d_Row_become_29 ?_
  refine lv_iconst (v := 0) hx hb d_Row_become_32 (by decide) ?_
  refine lv_aload_n hx hb d_Row_become_33 rfl (lv_at hl 1 rfl) ?_
  refine va_get (D := D) (ci := 4) (v := .ref (ad 15)) (C := "PageScribe$Row") (T := F_Row) (N := 4) hx hb hts i_Row hown hK hP 13 (ce_13 _ _ _) cl_4 1 (by decide) (hts _ k_1_47) (fun _ h9 => h9) rfl d_Row_become_34 ?_
  refine lv_iconst (v := 0) hx hb d_Row_become_37 (by decide) ?_
  refine lv_iload_n hx hb d_Row_become_38 rfl (lv_at hl 0 rfl) ?_
  refine va_copyi (sp := 0) (dp := 0) (n := 160) hx hb (hml.trans hl.1.symm) hown (hts _ k_5_102) (hts _ k_5_104) (hts _ k_5_103) (hts _ k_1_26) hK hP hD hS 27 15 0 0 (ce_27 _ _ _) (ce_15 _ _ _) rfl rfl rfl (by decide +kernel) (by decide +kernel) (by decide +kernel) (by decide +kernel) (by decide +kernel) (fun _ _ => rfl) (Nat.le_of_ble_eq_true rfl) (by decide +kernel) d_Row_become_39 (fun H locs hP hD hS => ?_)
  rw [cs_xc0_n] at hP hD
  have hP : va_P D classes (cW T ad ((S.1, S.2.1, ((va_cpy (a_xc1_k S) (a_xc0_k S) 0 0 160), (va_cpy (a_xc1_n S) (a_xc0_n S) 0 0 160), (a_xc0_r S), (f_xc0_z S), (a_xd0_rooms S), (a_xd0_counts S), (a_xd0_names S), (a_xv0_k S), (a_xv0_n S), (a_xv0_r S), (f_xv0_z S)), S.2.2.2.1, S.2.2.2.2.1, S.2.2.2.2.2.1, S.2.2.2.2.2.2.1, S.2.2.2.2.2.2.2.1, S.2.2.2.2.2.2.2.2) : CS)) H := hP
  have hD : va_D A (cW T ad ((S.1, S.2.1, ((va_cpy (a_xc1_k S) (a_xc0_k S) 0 0 160), (va_cpy (a_xc1_n S) (a_xc0_n S) 0 0 160), (a_xc0_r S), (f_xc0_z S), (a_xd0_rooms S), (a_xd0_counts S), (a_xd0_names S), (a_xv0_k S), (a_xv0_n S), (a_xv0_r S), (f_xv0_z S)), S.2.2.2.1, S.2.2.2.2.1, S.2.2.2.2.2.1, S.2.2.2.2.2.2.1, S.2.2.2.2.2.2.2.1, S.2.2.2.2.2.2.2.2) : CS)) := hD
  refine lv_aload_n hx hb d_Row_become_42 rfl (lv_at hl 2 rfl) ?_
  refine va_get (D := D) (ci := 4) (v := .ref (ad 28)) (C := "PageScribe$Row") (T := F_Row) (N := 4) hx hb hts i_Row hown hK hP 25 (ce_25 _ _ _) cl_4 2 (by decide) (hts _ k_1_48) (fun _ h9 => h9) rfl d_Row_become_43 ?_
  refine lv_iconst (v := 0) hx hb d_Row_become_46 (by decide) ?_
  refine lv_aload_n hx hb d_Row_become_47 rfl (lv_at hl 1 rfl) ?_
  refine va_get (D := D) (ci := 4) (v := .ref (ad 16)) (C := "PageScribe$Row") (T := F_Row) (N := 4) hx hb hts i_Row hown hK hP 13 (ce_13 _ _ _) cl_4 2 (by decide) (hts _ k_1_48) (fun _ h9 => h9) rfl d_Row_become_48 ?_
  refine lv_iconst (v := 0) hx hb d_Row_become_51 (by decide) ?_
  refine lv_iload_n hx hb d_Row_become_52 rfl (lv_at hl 0 rfl) ?_
  refine va_copyd (sp := 0) (dp := 0) (n := 160) hx hb (hml.trans hl.1.symm) hown (hts _ k_5_102) (hts _ k_5_104) (hts _ k_5_103) (hts _ k_1_26) hK hP hD hS 28 16 3 3 (ce_28 _ _ _) (ce_16 _ _ _) rfl rfl rfl (by decide +kernel) (by decide +kernel) (by decide +kernel) (by decide +kernel) (by decide +kernel) (fun _ _ => rfl) (Nat.le_of_ble_eq_true rfl) (by decide +kernel) d_Row_become_53 (fun H locs hP hD hS => ?_)
  rw [cs_xc0_r] at hP hD
  have hP : va_P D classes (cW T ad ((S.1, S.2.1, ((va_cpy (a_xc1_k S) (a_xc0_k S) 0 0 160), (va_cpy (a_xc1_n S) (a_xc0_n S) 0 0 160), (va_cpy (a_xc1_r S) (a_xc0_r S) 0 0 160), (f_xc0_z S), (a_xd0_rooms S), (a_xd0_counts S), (a_xd0_names S), (a_xv0_k S), (a_xv0_n S), (a_xv0_r S), (f_xv0_z S)), S.2.2.2.1, S.2.2.2.2.1, S.2.2.2.2.2.1, S.2.2.2.2.2.2.1, S.2.2.2.2.2.2.2.1, S.2.2.2.2.2.2.2.2) : CS)) H := hP
  have hD : va_D A (cW T ad ((S.1, S.2.1, ((va_cpy (a_xc1_k S) (a_xc0_k S) 0 0 160), (va_cpy (a_xc1_n S) (a_xc0_n S) 0 0 160), (va_cpy (a_xc1_r S) (a_xc0_r S) 0 0 160), (f_xc0_z S), (a_xd0_rooms S), (a_xd0_counts S), (a_xd0_names S), (a_xv0_k S), (a_xv0_n S), (a_xv0_r S), (f_xv0_z S)), S.2.2.2.1, S.2.2.2.2.1, S.2.2.2.2.2.1, S.2.2.2.2.2.2.1, S.2.2.2.2.2.2.2.1, S.2.2.2.2.2.2.2.2) : CS)) := hD
  refine lv_aload_n hx hb d_Row_become_56 rfl (lv_at hl 1 rfl) ?_
  refine lv_aload_n hx hb d_Row_become_57 rfl (lv_at hl 2 rfl) ?_
  refine va_get (D := D) (ci := 4) (v := .int (f_xc1_z S)) (C := "PageScribe$Row") (T := F_Row) (N := 4) hx hb hts i_Row hown hK hP 25 (ce_25 _ _ _) cl_4 3 (by decide) (hts _ k_1_49) (fun _ h9 => h9) rfl d_Row_become_58 ?_
  refine va_put (D := D) (ci := 4) (v := .int (f_xc1_z S)) (ty := .int) (C := "PageScribe$Row") (T := F_Row) (N := 4) hx hb hts i_Row t_Row t_Row_ok n_Row hown hK hP hD hS 13 (ce_13 _ _ _) cl_4 3 (by decide) (hts _ k_1_49) (fun _ h9 => h9) rfl (by decide +kernel) rfl rfl (Nat.le_of_ble_eq_true rfl) d_Row_become_61 (fun H locs hP hD hS => ?_)
  rw [cp_xc0_z] at hP hD
  have hP : va_P D classes (cW T ad ((S.1, S.2.1, ((va_cpy (a_xc1_k S) (a_xc0_k S) 0 0 160), (va_cpy (a_xc1_n S) (a_xc0_n S) 0 0 160), (va_cpy (a_xc1_r S) (a_xc0_r S) 0 0 160), (f_xc1_z S), (a_xd0_rooms S), (a_xd0_counts S), (a_xd0_names S), (a_xv0_k S), (a_xv0_n S), (a_xv0_r S), (f_xv0_z S)), S.2.2.2.1, S.2.2.2.2.1, S.2.2.2.2.2.1, S.2.2.2.2.2.2.1, S.2.2.2.2.2.2.2.1, S.2.2.2.2.2.2.2.2) : CS)) H := hP
  have hD : va_D A (cW T ad ((S.1, S.2.1, ((va_cpy (a_xc1_k S) (a_xc0_k S) 0 0 160), (va_cpy (a_xc1_n S) (a_xc0_n S) 0 0 160), (va_cpy (a_xc1_r S) (a_xc0_r S) 0 0 160), (f_xc1_z S), (a_xd0_rooms S), (a_xd0_counts S), (a_xd0_names S), (a_xv0_k S), (a_xv0_n S), (a_xv0_r S), (f_xv0_z S)), S.2.2.2.1, S.2.2.2.2.1, S.2.2.2.2.2.1, S.2.2.2.2.2.2.1, S.2.2.2.2.2.2.2.1, S.2.2.2.2.2.2.2.2) : CS)) := hD
  exact j_vret F hr hlocks hK hS ((S.1, S.2.1, ((va_cpy (a_xc1_k S) (a_xc0_k S) 0 0 160), (va_cpy (a_xc1_n S) (a_xc0_n S) 0 0 160), (va_cpy (a_xc1_r S) (a_xc0_r S) 0 0 160), (f_xc1_z S), (a_xd0_rooms S), (a_xd0_counts S), (a_xd0_names S), (a_xv0_k S), (a_xv0_n S), (a_xv0_r S), (f_xv0_z S)), S.2.2.2.1, S.2.2.2.2.1, S.2.2.2.2.2.1, S.2.2.2.2.2.2.1, S.2.2.2.2.2.2.2.1, S.2.2.2.2.2.2.2.2) : CS) ⟨⟨i_vst, (cpy_dB i_vc1), i_vc1, i_vc2, i_vc3, i_vv0, i_vv1, i_vv2, i_vv3, i_vg, i_wct, i_wln, i_sd0, i_sd1, i_sd2, i_sd3, i_rln, i_rtx, i_rpl, i_rtk, i_cnv, i_pts, i_cik, i_und⟩, (kcL_r S), (kcP_r S), (kcU_r S), (kcW_r S)⟩ hP hD d_Row_become_64
set_option maxHeartbeats 4000000 in
set_option maxRecDepth 100000 in
theorem c_Row_become_20_32 (l : Launch) (D : va_G) (T : Nat → ClassId) (ad : Nat → Nat) (S : CS)  (sz : Nat)  (hI : CIv S) : Met l ⟨"PageScribe$Row", "become", "(LPageScribe$Row;)V"⟩ (wy ⟨"PageScribe$Row", "become", "(LPageScribe$Row;)V"⟩ prog_8_method_9_code 3 none) ({ frames := 1, cells := 0, slots := 0, locals := 70 }) (va_Pc [.ref (ad 20), .ref (ad 32)] (Pw D T (cW T ad S) sz E0)) (va_Qv (fun (u : CS) => CIv u ∧ kcL S u ∧ kcP S u ∧ kcU S u ∧ kcW S u) (fun u t => Bw D T (va_A (cW T ad S) sz) (cW T ad u) t) (va_A (cW T ad S) sz)) 0 0 (va_A (cW T ad S) sz) := by
  refine j_met (y := ⟨"PageScribe$Row", "become", "(LPageScribe$Row;)V"⟩) (b := prog_8_method_9_code) (n := 3) (ret := none) (av := [.ref (ad 20), .ref (ad 32)]) (Qc := fun A => va_Qv (fun (u : CS) => CIv u ∧ kcL S u ∧ kcP S u ∧ kcU S u ∧ kcW S u) (fun u t => Bw D T A (cW T ad u) t) A) (by decide +kernel) (Nat.le_of_ble_eq_true rfl) (fun p e s m args below meth c A ls F hr hlocks hnm hK hP hD hS hA hN hE hl => ?_)
  obtain ⟨hx, hb, hml, hown, hts⟩ := id F
  have hl : lv_has ls 3 [(0, .ref (ad 20)), (1, .ref (ad 32))] := hl
  obtain ⟨i_vst, i_vc0, i_vc1, i_vc2, i_vc3, i_vv0, i_vv1, i_vv2, i_vv3, i_vg, i_wct, i_wln, i_sd0, i_sd1, i_sd2, i_sd3, i_rln, i_rtx, i_rpl, i_rtk, i_cnv, i_pts, i_cik, i_und⟩ := id hI
  refine lv_aload_n hx hb d_Row_become_0 rfl (lv_at hl 0 rfl) ?_
  refine va_get (D := D) (ci := 4) (v := .ref (ad 21)) (C := "PageScribe$Row") (T := F_Row) (N := 4) hx hb hts i_Row hown hK hP 20 (ce_20 _ _ _) cl_4 0 (by decide) (hts _ k_1_46) (fun _ h9 => h9) rfl d_Row_become_1 ?_
  refine va_alen (v := 80) hx hb hK hP 21 0 (ce_21 _ _ _) rfl (show Int32.ofNat 80 = 80 from by decide +kernel) d_Row_become_4 ?_
  refine lv_aload_n hx hb d_Row_become_5 rfl (lv_at hl 1 rfl) ?_
  refine va_get (D := D) (ci := 4) (v := .ref (ad 33)) (C := "PageScribe$Row") (T := F_Row) (N := 4) hx hb hts i_Row hown hK hP 32 (ce_32 _ _ _) cl_4 0 (by decide) (hts _ k_1_46) (fun _ h9 => h9) rfl d_Row_become_6 ?_
  refine va_alen (v := 80) hx hb hK hP 33 0 (ce_33 _ _ _) rfl (show Int32.ofNat 80 = 80 from by decide +kernel) d_Row_become_9 ?_
  refine j_ci (wc := []) (wr := (cW T ad S)) hK hP hD hS hA [] csc rfl csc_all csc_nd (fun _ _ => List.not_mem_nil) (va_runS (As := [.int 80, .int 80]) (rest := []) F (c_Math_min l D T (80 : Int32) (80 : Int32)  s.heap.size) (j_cS (k := 2) hts k_3_221 k_1_21 k_5_101 k_3_220 (by decide +kernel) ⟨Nat.le_of_ble_eq_true rfl, Nat.le_of_ble_eq_true rfl⟩) (j_preS hK hP hD [] rfl (by decide) (fun _ _ _ _ h => h) (fun _ _ _ => trivial)) rfl rfl hl.1 rfl (lv_room (Nat.le_of_ble_eq_true rfl)) d_Row_become_10 ⟨Nat.le_of_ble_eq_true rfl, Nat.le_of_ble_eq_true rfl⟩) (fun rv1 u1 H locs hw1 hP hD hS => ?_)
  have hP : va_P D classes (cW T ad S) H := hP
  have hD : va_D A (cW T ad S) := hD
  have qhw1 : rv1.toInt ≤ 80 ∧ rv1.toInt ≤ 80 ∧ (rv1.toInt = 80 ∨ rv1.toInt = 80) := by simpa only [tI_80] using hw1
  have rrv1 := zt_rng rv1
  refine j_eqi (y := 80) (Int32.toInt_inj.mp (by have := tI_80; omega)) ?_
  refine lv_istore_n (lv' := [(2, .int 80), (0, .ref (ad 20)), (1, .ref (ad 32))]) hx hb d_Row_become_13 rfl hl (by decide) rfl (fun ls hl => ?_)
  refine lv_aload_n hx hb d_Row_become_14 rfl (lv_at hl 2 rfl) ?_
  refine va_get (D := D) (ci := 4) (v := .ref (ad 33)) (C := "PageScribe$Row") (T := F_Row) (N := 4) hx hb hts i_Row hown hK hP 32 (ce_32 _ _ _) cl_4 0 (by decide) (hts _ k_1_46) (fun _ h9 => h9) rfl d_Row_become_15 ?_
  refine lv_iconst (v := 0) hx hb d_Row_become_18 (by decide) ?_
  refine lv_aload_n hx hb d_Row_become_19 rfl (lv_at hl 1 rfl) ?_
  refine va_get (D := D) (ci := 4) (v := .ref (ad 21)) (C := "PageScribe$Row") (T := F_Row) (N := 4) hx hb hts i_Row hown hK hP 20 (ce_20 _ _ _) cl_4 0 (by decide) (hts _ k_1_46) (fun _ h9 => h9) rfl d_Row_become_20 ?_
  refine lv_iconst (v := 0) hx hb d_Row_become_23 (by decide) ?_
  refine lv_iload_n hx hb d_Row_become_24 rfl (lv_at hl 0 rfl) ?_
  refine va_copyi (sp := 0) (dp := 0) (n := 80) hx hb (hml.trans hl.1.symm) hown (hts _ k_5_102) (hts _ k_5_104) (hts _ k_5_103) (hts _ k_1_26) hK hP hD hS 33 21 0 0 (ce_33 _ _ _) (ce_21 _ _ _) rfl rfl rfl (by decide +kernel) (by decide +kernel) (by decide +kernel) (by decide +kernel) (by decide +kernel) (fun _ _ => rfl) (Nat.le_of_ble_eq_true rfl) (by decide +kernel) d_Row_become_25 (fun H locs hP hD hS => ?_)
  rw [cs_xv0_k] at hP hD
  have hP : va_P D classes (cW T ad ((S.1, S.2.1, ((a_xc0_k S), (a_xc0_n S), (a_xc0_r S), (f_xc0_z S), (a_xd0_rooms S), (a_xd0_counts S), (a_xd0_names S), (va_cpy (a_xv1_k S) (a_xv0_k S) 0 0 80), (a_xv0_n S), (a_xv0_r S), (f_xv0_z S)), S.2.2.2.1, S.2.2.2.2.1, S.2.2.2.2.2.1, S.2.2.2.2.2.2.1, S.2.2.2.2.2.2.2.1, S.2.2.2.2.2.2.2.2) : CS)) H := hP
  have hD : va_D A (cW T ad ((S.1, S.2.1, ((a_xc0_k S), (a_xc0_n S), (a_xc0_r S), (f_xc0_z S), (a_xd0_rooms S), (a_xd0_counts S), (a_xd0_names S), (va_cpy (a_xv1_k S) (a_xv0_k S) 0 0 80), (a_xv0_n S), (a_xv0_r S), (f_xv0_z S)), S.2.2.2.1, S.2.2.2.2.1, S.2.2.2.2.2.1, S.2.2.2.2.2.2.1, S.2.2.2.2.2.2.2.1, S.2.2.2.2.2.2.2.2) : CS)) := hD
  refine lv_aload_n hx hb d_Row_become_28 rfl (lv_at hl 2 rfl) ?_
  refine va_get (D := D) (ci := 4) (v := .ref (ad 34)) (C := "PageScribe$Row") (T := F_Row) (N := 4) hx hb hts i_Row hown hK hP 32 (ce_32 _ _ _) cl_4 1 (by decide) (hts _ k_1_47) (fun _ h9 => h9) rfl d_Row_become_29 ?_
  refine lv_iconst (v := 0) hx hb d_Row_become_32 (by decide) ?_
  refine lv_aload_n hx hb d_Row_become_33 rfl (lv_at hl 1 rfl) ?_
  refine va_get (D := D) (ci := 4) (v := .ref (ad 22)) (C := "PageScribe$Row") (T := F_Row) (N := 4) hx hb hts i_Row hown hK hP 20 (ce_20 _ _ _) cl_4 1 (by decide) (hts _ k_1_47) (fun _ h9 => h9) rfl d_Row_become_34 ?_
  refine lv_iconst (v := 0) hx hb d_Row_become_37 (by decide) ?_
  refine lv_iload_n hx hb d_Row_become_38 rfl (lv_at hl 0 rfl) ?_
  refine va_copyi (sp := 0) (dp := 0) (n := 80) hx hb (hml.trans hl.1.symm) hown (hts _ k_5_102) (hts _ k_5_104) (hts _ k_5_103) (hts _ k_1_26) hK hP hD hS 34 22 0 0 (ce_34 _ _ _) (ce_22 _ _ _) rfl rfl rfl (by decide +kernel) (by decide +kernel) (by decide +kernel) (by decide +kernel) (by decide +kernel) (fun _ _ => rfl) (Nat.le_of_ble_eq_true rfl) (by decide +kernel) d_Row_become_39 (fun H locs hP hD hS => ?_)
  rw [cs_xv0_n] at hP hD
  have hP : va_P D classes (cW T ad ((S.1, S.2.1, ((a_xc0_k S), (a_xc0_n S), (a_xc0_r S), (f_xc0_z S), (a_xd0_rooms S), (a_xd0_counts S), (a_xd0_names S), (va_cpy (a_xv1_k S) (a_xv0_k S) 0 0 80), (va_cpy (a_xv1_n S) (a_xv0_n S) 0 0 80), (a_xv0_r S), (f_xv0_z S)), S.2.2.2.1, S.2.2.2.2.1, S.2.2.2.2.2.1, S.2.2.2.2.2.2.1, S.2.2.2.2.2.2.2.1, S.2.2.2.2.2.2.2.2) : CS)) H := hP
  have hD : va_D A (cW T ad ((S.1, S.2.1, ((a_xc0_k S), (a_xc0_n S), (a_xc0_r S), (f_xc0_z S), (a_xd0_rooms S), (a_xd0_counts S), (a_xd0_names S), (va_cpy (a_xv1_k S) (a_xv0_k S) 0 0 80), (va_cpy (a_xv1_n S) (a_xv0_n S) 0 0 80), (a_xv0_r S), (f_xv0_z S)), S.2.2.2.1, S.2.2.2.2.1, S.2.2.2.2.2.1, S.2.2.2.2.2.2.1, S.2.2.2.2.2.2.2.1, S.2.2.2.2.2.2.2.2) : CS)) := hD
  refine lv_aload_n hx hb d_Row_become_42 rfl (lv_at hl 2 rfl) ?_
  refine va_get (D := D) (ci := 4) (v := .ref (ad 35)) (C := "PageScribe$Row") (T := F_Row) (N := 4) hx hb hts i_Row hown hK hP 32 (ce_32 _ _ _) cl_4 2 (by decide) (hts _ k_1_48) (fun _ h9 => h9) rfl d_Row_become_43 ?_
  refine lv_iconst (v := 0) hx hb d_Row_become_46 (by decide) ?_
  refine lv_aload_n hx hb d_Row_become_47 rfl (lv_at hl 1 rfl) ?_
  refine va_get (D := D) (ci := 4) (v := .ref (ad 23)) (C := "PageScribe$Row") (T := F_Row) (N := 4) hx hb hts i_Row hown hK hP 20 (ce_20 _ _ _) cl_4 2 (by decide) (hts _ k_1_48) (fun _ h9 => h9) rfl d_Row_become_48 ?_
  refine lv_iconst (v := 0) hx hb d_Row_become_51 (by decide) ?_
  refine lv_iload_n hx hb d_Row_become_52 rfl (lv_at hl 0 rfl) ?_
  refine va_copyd (sp := 0) (dp := 0) (n := 80) hx hb (hml.trans hl.1.symm) hown (hts _ k_5_102) (hts _ k_5_104) (hts _ k_5_103) (hts _ k_1_26) hK hP hD hS 35 23 3 3 (ce_35 _ _ _) (ce_23 _ _ _) rfl rfl rfl (by decide +kernel) (by decide +kernel) (by decide +kernel) (by decide +kernel) (by decide +kernel) (fun _ _ => rfl) (Nat.le_of_ble_eq_true rfl) (by decide +kernel) d_Row_become_53 (fun H locs hP hD hS => ?_)
  rw [cs_xv0_r] at hP hD
  have hP : va_P D classes (cW T ad ((S.1, S.2.1, ((a_xc0_k S), (a_xc0_n S), (a_xc0_r S), (f_xc0_z S), (a_xd0_rooms S), (a_xd0_counts S), (a_xd0_names S), (va_cpy (a_xv1_k S) (a_xv0_k S) 0 0 80), (va_cpy (a_xv1_n S) (a_xv0_n S) 0 0 80), (va_cpy (a_xv1_r S) (a_xv0_r S) 0 0 80), (f_xv0_z S)), S.2.2.2.1, S.2.2.2.2.1, S.2.2.2.2.2.1, S.2.2.2.2.2.2.1, S.2.2.2.2.2.2.2.1, S.2.2.2.2.2.2.2.2) : CS)) H := hP
  have hD : va_D A (cW T ad ((S.1, S.2.1, ((a_xc0_k S), (a_xc0_n S), (a_xc0_r S), (f_xc0_z S), (a_xd0_rooms S), (a_xd0_counts S), (a_xd0_names S), (va_cpy (a_xv1_k S) (a_xv0_k S) 0 0 80), (va_cpy (a_xv1_n S) (a_xv0_n S) 0 0 80), (va_cpy (a_xv1_r S) (a_xv0_r S) 0 0 80), (f_xv0_z S)), S.2.2.2.1, S.2.2.2.2.1, S.2.2.2.2.2.1, S.2.2.2.2.2.2.1, S.2.2.2.2.2.2.2.1, S.2.2.2.2.2.2.2.2) : CS)) := hD
  refine lv_aload_n hx hb d_Row_become_56 rfl (lv_at hl 1 rfl) ?_
  refine lv_aload_n hx hb d_Row_become_57 rfl (lv_at hl 2 rfl) ?_
  refine va_get (D := D) (ci := 4) (v := .int (f_xv1_z S)) (C := "PageScribe$Row") (T := F_Row) (N := 4) hx hb hts i_Row hown hK hP 32 (ce_32 _ _ _) cl_4 3 (by decide) (hts _ k_1_49) (fun _ h9 => h9) rfl d_Row_become_58 ?_
  refine va_put (D := D) (ci := 4) (v := .int (f_xv1_z S)) (ty := .int) (C := "PageScribe$Row") (T := F_Row) (N := 4) hx hb hts i_Row t_Row t_Row_ok n_Row hown hK hP hD hS 20 (ce_20 _ _ _) cl_4 3 (by decide) (hts _ k_1_49) (fun _ h9 => h9) rfl (by decide +kernel) rfl rfl (Nat.le_of_ble_eq_true rfl) d_Row_become_61 (fun H locs hP hD hS => ?_)
  rw [cp_xv0_z] at hP hD
  have hP : va_P D classes (cW T ad ((S.1, S.2.1, ((a_xc0_k S), (a_xc0_n S), (a_xc0_r S), (f_xc0_z S), (a_xd0_rooms S), (a_xd0_counts S), (a_xd0_names S), (va_cpy (a_xv1_k S) (a_xv0_k S) 0 0 80), (va_cpy (a_xv1_n S) (a_xv0_n S) 0 0 80), (va_cpy (a_xv1_r S) (a_xv0_r S) 0 0 80), (f_xv1_z S)), S.2.2.2.1, S.2.2.2.2.1, S.2.2.2.2.2.1, S.2.2.2.2.2.2.1, S.2.2.2.2.2.2.2.1, S.2.2.2.2.2.2.2.2) : CS)) H := hP
  have hD : va_D A (cW T ad ((S.1, S.2.1, ((a_xc0_k S), (a_xc0_n S), (a_xc0_r S), (f_xc0_z S), (a_xd0_rooms S), (a_xd0_counts S), (a_xd0_names S), (va_cpy (a_xv1_k S) (a_xv0_k S) 0 0 80), (va_cpy (a_xv1_n S) (a_xv0_n S) 0 0 80), (va_cpy (a_xv1_r S) (a_xv0_r S) 0 0 80), (f_xv1_z S)), S.2.2.2.1, S.2.2.2.2.1, S.2.2.2.2.2.1, S.2.2.2.2.2.2.1, S.2.2.2.2.2.2.2.1, S.2.2.2.2.2.2.2.2) : CS)) := hD
  exact j_vret F hr hlocks hK hS ((S.1, S.2.1, ((a_xc0_k S), (a_xc0_n S), (a_xc0_r S), (f_xc0_z S), (a_xd0_rooms S), (a_xd0_counts S), (a_xd0_names S), (va_cpy (a_xv1_k S) (a_xv0_k S) 0 0 80), (va_cpy (a_xv1_n S) (a_xv0_n S) 0 0 80), (va_cpy (a_xv1_r S) (a_xv0_r S) 0 0 80), (f_xv1_z S)), S.2.2.2.1, S.2.2.2.2.1, S.2.2.2.2.2.1, S.2.2.2.2.2.2.1, S.2.2.2.2.2.2.2.1, S.2.2.2.2.2.2.2.2) : CS) ⟨⟨i_vst, i_vc0, i_vc1, i_vc2, i_vc3, (cpy_dB i_vv1), i_vv1, i_vv2, i_vv3, i_vg, i_wct, i_wln, i_sd0, i_sd1, i_sd2, i_sd3, i_rln, i_rtx, i_rpl, i_rtk, i_cnv, i_pts, i_cik, i_und⟩, (kcL_r S), (kcP_r S), (kcU_r S), (kcW_r S)⟩ hP hD d_Row_become_64
set_option maxHeartbeats 4000000 in
set_option maxRecDepth 100000 in
theorem c_Store_become_12_24 (l : Launch) (D : va_G) (T : Nat → ClassId) (ad : Nat → Nat) (S : CS)  (sz : Nat)  (hI : CIv S) : Met l ⟨"PageScribe$Store", "become", "(LPageScribe$Store;)V"⟩ (wy ⟨"PageScribe$Store", "become", "(LPageScribe$Store;)V"⟩ prog_10_method_2_code 2 none) ({ frames := 2, cells := 0, slots := 0, locals := 140 }) (va_Pc [.ref (ad 12), .ref (ad 24)] (Pw D T (cW T ad S) sz E0)) (va_Qv (fun (u : CS) => CIv u ∧ kcL S u ∧ kcP S u ∧ kcU S u ∧ kcW S u) (fun u t => Bw D T (va_A (cW T ad S) sz) (cW T ad u) t) (va_A (cW T ad S) sz)) 0 0 (va_A (cW T ad S) sz) := by
  refine j_met (y := ⟨"PageScribe$Store", "become", "(LPageScribe$Store;)V"⟩) (b := prog_10_method_2_code) (n := 2) (ret := none) (av := [.ref (ad 12), .ref (ad 24)]) (Qc := fun A => va_Qv (fun (u : CS) => CIv u ∧ kcL S u ∧ kcP S u ∧ kcU S u ∧ kcW S u) (fun u t => Bw D T A (cW T ad u) t) A) (by decide +kernel) (Nat.le_of_ble_eq_true rfl) (fun p e s m args below meth c A ls F hr hlocks hnm hK hP hD hS hA hN hE hl => ?_)
  obtain ⟨hx, hb, hml, hown, hts⟩ := id F
  have hl : lv_has ls 2 [(0, .ref (ad 12)), (1, .ref (ad 24))] := hl
  obtain ⟨i_vst, i_vc0, i_vc1, i_vc2, i_vc3, i_vv0, i_vv1, i_vv2, i_vv3, i_vg, i_wct, i_wln, i_sd0, i_sd1, i_sd2, i_sd3, i_rln, i_rtx, i_rpl, i_rtk, i_cnv, i_pts, i_cik, i_und⟩ := id hI
  refine lv_aload_n hx hb d_Store_become_0 rfl (lv_at hl 0 rfl) ?_
  refine va_get (D := D) (ci := 3) (v := .ref (ad 13)) (C := "PageScribe$Store") (T := F_Store) (N := 5) hx hb hts i_Store hown hK hP 12 (ce_12 _ _ _) cl_3 0 (by decide) (hts _ k_1_107) (fun _ h9 => h9) rfl d_Store_become_1 ?_
  refine lv_aload_n hx hb d_Store_become_4 rfl (lv_at hl 1 rfl) ?_
  refine va_get (D := D) (ci := 3) (v := .ref (ad 25)) (C := "PageScribe$Store") (T := F_Store) (N := 5) hx hb hts i_Store hown hK hP 24 (ce_24 _ _ _) cl_3 0 (by decide) (hts _ k_1_107) (fun _ h9 => h9) rfl d_Store_become_5 ?_
  refine jc_cv (w := (fun u => u)) hK hP hD hS hA (va_runV (As := [.ref (ad 25)]) (rest := []) F (c_Row_become_13_25 l D T ad S  s.heap.size ⟨i_vst, i_vc0, i_vc1, i_vc2, i_vc3, i_vv0, i_vv1, i_vv2, i_vv3, i_vg, i_wct, i_wln, i_sd0, i_sd1, i_sd2, i_sd3, i_rln, i_rtx, i_rpl, i_rtk, i_cnv, i_pts, i_cik, i_und⟩) (j_cV (k := 1) (C := "PageScribe$Row") hts k_5_100 k_1_2 k_5_95 k_5_96 k_5_97 (by decide +kernel) ⟨Nat.le_of_ble_eq_true rfl, Nat.le_of_ble_eq_true rfl⟩) (j_preV (q0 := 13) (ci := 4) hK hP hD csc csc_all csc_nd cl_4 (ce_13 _ _ _) (fun _ _ _ _ h => h) (fun _ _ _ => trivial)) rfl rfl hl.1 rfl (lv_room (Nat.le_of_ble_eq_true rfl)) d_Store_become_8 ⟨Nat.le_of_ble_eq_true rfl, Nat.le_of_ble_eq_true rfl⟩) (fun S1 H locs hw1 hP hD hS => ?_)
  have hP : va_P D classes (cW T ad S1) H := hP
  have hD : va_D A (cW T ad S1) := hD
  obtain ⟨⟨i_vst, i_vc0, i_vc1, i_vc2, i_vc3, i_vv0, i_vv1, i_vv2, i_vv3, i_vg, i_wct, i_wln, i_sd0, i_sd1, i_sd2, i_sd3, i_rln, i_rtx, i_rpl, i_rtk, i_cnv, i_pts, i_cik, i_und⟩, kpcL_S1, kpcP_S1, kpcU_S1, kpcW_S1⟩ := hw1
  have kScL_S1 : kcL S S1 := kcL_t (show kcL S S from (kcL_r S)) kpcL_S1
  have kScP_S1 : kcP S S1 := kcP_t (show kcP S S from (kcP_r S)) kpcP_S1
  have kScU_S1 : kcU S S1 := kcU_t (show kcU S S from (kcU_r S)) kpcU_S1
  have kScW_S1 : kcW S S1 := kcW_t (show kcW S S from (kcW_r S)) kpcW_S1
  have nxr_length_S1 : (f_xr_length S1).toInt = (f_xr_length S).toInt := congrArg Int32.toInt kpcL_S1
  have nxr_length_S1 : (f_xr_length S1).toInt = (f_xr_length S).toInt := congrArg Int32.toInt kpcP_S1.1
  have nxr_place_S1 : (f_xr_place S1).toInt = (f_xr_place S).toInt := congrArg Int32.toInt kpcP_S1.2.1
  have nxe_underWay_S1 : (f_xe_underWay S1).toInt = (f_xe_underWay S).toInt := congrArg Int32.toInt kpcU_S1
  have nxp_columns_S1 : (f_xp_columns S1).toInt = (f_xp_columns S).toInt := congrArg Int32.toInt kpcW_S1.1
  have nxp_rows_S1 : (f_xp_rows S1).toInt = (f_xp_rows S).toInt := congrArg Int32.toInt kpcW_S1.2
  refine lv_aload_n hx hb d_Store_become_11 rfl (lv_at hl 0 rfl) ?_
  refine va_get (D := D) (ci := 3) (v := .ref (ad 20)) (C := "PageScribe$Store") (T := F_Store) (N := 5) hx hb hts i_Store hown hK hP 12 (ce_12 _ _ _) cl_3 4 (by decide) (hts _ k_1_114) (fun _ h9 => h9) rfl d_Store_become_12 ?_
  refine lv_aload_n hx hb d_Store_become_15 rfl (lv_at hl 1 rfl) ?_
  refine va_get (D := D) (ci := 3) (v := .ref (ad 32)) (C := "PageScribe$Store") (T := F_Store) (N := 5) hx hb hts i_Store hown hK hP 24 (ce_24 _ _ _) cl_3 4 (by decide) (hts _ k_1_114) (fun _ h9 => h9) rfl d_Store_become_16 ?_
  refine jc_cv (w := (fun u => u)) hK hP hD hS hA (va_runV (As := [.ref (ad 32)]) (rest := []) F (c_Row_become_20_32 l D T ad S1  H.size ⟨i_vst, i_vc0, i_vc1, i_vc2, i_vc3, i_vv0, i_vv1, i_vv2, i_vv3, i_vg, i_wct, i_wln, i_sd0, i_sd1, i_sd2, i_sd3, i_rln, i_rtx, i_rpl, i_rtk, i_cnv, i_pts, i_cik, i_und⟩) (j_cV (k := 1) (C := "PageScribe$Row") hts k_5_100 k_1_2 k_5_95 k_5_96 k_5_97 (by decide +kernel) ⟨Nat.le_of_ble_eq_true rfl, Nat.le_of_ble_eq_true rfl⟩) (j_preV (q0 := 20) (ci := 4) hK hP hD csc csc_all csc_nd cl_4 (ce_20 _ _ _) (fun _ _ _ _ h => h) (fun _ _ _ => trivial)) rfl rfl hl.1 rfl (lv_room (Nat.le_of_ble_eq_true rfl)) d_Store_become_19 ⟨Nat.le_of_ble_eq_true rfl, Nat.le_of_ble_eq_true rfl⟩) (fun S2 H locs hw2 hP hD hS => ?_)
  have hP : va_P D classes (cW T ad S2) H := hP
  have hD : va_D A (cW T ad S2) := hD
  obtain ⟨⟨i_vst, i_vc0, i_vc1, i_vc2, i_vc3, i_vv0, i_vv1, i_vv2, i_vv3, i_vg, i_wct, i_wln, i_sd0, i_sd1, i_sd2, i_sd3, i_rln, i_rtx, i_rpl, i_rtk, i_cnv, i_pts, i_cik, i_und⟩, kpcL_S2, kpcP_S2, kpcU_S2, kpcW_S2⟩ := hw2
  have kScL_S2 : kcL S S2 := kcL_t (show kcL S S1 from kScL_S1) kpcL_S2
  have kScP_S2 : kcP S S2 := kcP_t (show kcP S S1 from kScP_S1) kpcP_S2
  have kScU_S2 : kcU S S2 := kcU_t (show kcU S S1 from kScU_S1) kpcU_S2
  have kScW_S2 : kcW S S2 := kcW_t (show kcW S S1 from kScW_S1) kpcW_S2
  have nxr_length_S2 : (f_xr_length S2).toInt = (f_xr_length S1).toInt := congrArg Int32.toInt kpcL_S2
  have nxr_length_S2 : (f_xr_length S2).toInt = (f_xr_length S1).toInt := congrArg Int32.toInt kpcP_S2.1
  have nxr_place_S2 : (f_xr_place S2).toInt = (f_xr_place S1).toInt := congrArg Int32.toInt kpcP_S2.2.1
  have nxe_underWay_S2 : (f_xe_underWay S2).toInt = (f_xe_underWay S1).toInt := congrArg Int32.toInt kpcU_S2
  have nxp_columns_S2 : (f_xp_columns S2).toInt = (f_xp_columns S1).toInt := congrArg Int32.toInt kpcW_S2.1
  have nxp_rows_S2 : (f_xp_rows S2).toInt = (f_xp_rows S1).toInt := congrArg Int32.toInt kpcW_S2.2
  refine lv_aload_n hx hb d_Store_become_22 rfl (lv_at hl 1 rfl) ?_
  refine va_get (D := D) (ci := 3) (v := .ref (ad 29)) (C := "PageScribe$Store") (T := F_Store) (N := 5) hx hb hts i_Store hown hK hP 24 (ce_24 _ _ _) cl_3 1 (by decide) (hts _ k_1_111) (fun _ h9 => h9) rfl d_Store_become_23 ?_
  refine lv_iconst (v := 0) hx hb d_Store_become_26 (by decide) ?_
  refine lv_aload_n hx hb d_Store_become_27 rfl (lv_at hl 0 rfl) ?_
  refine va_get (D := D) (ci := 3) (v := .ref (ad 17)) (C := "PageScribe$Store") (T := F_Store) (N := 5) hx hb hts i_Store hown hK hP 12 (ce_12 _ _ _) cl_3 1 (by decide) (hts _ k_1_111) (fun _ h9 => h9) rfl d_Store_become_28 ?_
  refine lv_iconst (v := 0) hx hb d_Store_become_31 (by decide) ?_
  refine lv_bipush (v := 7) hx hb d_Store_become_32 (by decide) ?_
  refine va_copyi (sp := 0) (dp := 0) (n := 7) hx hb (hml.trans hl.1.symm) hown (hts _ k_5_105) (hts _ k_5_104) (hts _ k_5_103) (hts _ k_1_26) hK hP hD hS 29 17 0 0 (ce_29 _ _ _) (ce_17 _ _ _) rfl rfl rfl (by decide +kernel) (by decide +kernel) (by decide +kernel) (by decide +kernel) (by decide +kernel) (fun _ _ => rfl) (Nat.le_of_ble_eq_true rfl) (by decide +kernel) d_Store_become_34 (fun H locs hP hD hS => ?_)
  rw [cs_xd0_rooms] at hP hD
  have hP : va_P D classes (cW T ad ((S2.1, S2.2.1, ((a_xc0_k S2), (a_xc0_n S2), (a_xc0_r S2), (f_xc0_z S2), (va_cpy (a_xd1_rooms S2) (a_xd0_rooms S2) 0 0 7), (a_xd0_counts S2), (a_xd0_names S2), (a_xv0_k S2), (a_xv0_n S2), (a_xv0_r S2), (f_xv0_z S2)), S2.2.2.2.1, S2.2.2.2.2.1, S2.2.2.2.2.2.1, S2.2.2.2.2.2.2.1, S2.2.2.2.2.2.2.2.1, S2.2.2.2.2.2.2.2.2) : CS)) H := hP
  have hD : va_D A (cW T ad ((S2.1, S2.2.1, ((a_xc0_k S2), (a_xc0_n S2), (a_xc0_r S2), (f_xc0_z S2), (va_cpy (a_xd1_rooms S2) (a_xd0_rooms S2) 0 0 7), (a_xd0_counts S2), (a_xd0_names S2), (a_xv0_k S2), (a_xv0_n S2), (a_xv0_r S2), (f_xv0_z S2)), S2.2.2.2.1, S2.2.2.2.2.1, S2.2.2.2.2.2.1, S2.2.2.2.2.2.2.1, S2.2.2.2.2.2.2.2.1, S2.2.2.2.2.2.2.2.2) : CS)) := hD
  refine lv_aload_n hx hb d_Store_become_37 rfl (lv_at hl 1 rfl) ?_
  refine va_get (D := D) (ci := 3) (v := .ref (ad 30)) (C := "PageScribe$Store") (T := F_Store) (N := 5) hx hb hts i_Store hown hK hP 24 (ce_24 _ _ _) cl_3 2 (by decide) (hts _ k_1_112) (fun _ h9 => h9) rfl d_Store_become_38 ?_
  refine lv_iconst (v := 0) hx hb d_Store_become_41 (by decide) ?_
  refine lv_aload_n hx hb d_Store_become_42 rfl (lv_at hl 0 rfl) ?_
  refine va_get (D := D) (ci := 3) (v := .ref (ad 18)) (C := "PageScribe$Store") (T := F_Store) (N := 5) hx hb hts i_Store hown hK hP 12 (ce_12 _ _ _) cl_3 2 (by decide) (hts _ k_1_112) (fun _ h9 => h9) rfl d_Store_become_43 ?_
  refine lv_iconst (v := 0) hx hb d_Store_become_46 (by decide) ?_
  refine lv_bipush (v := 7) hx hb d_Store_become_47 (by decide) ?_
  refine va_copyi (sp := 0) (dp := 0) (n := 7) hx hb (hml.trans hl.1.symm) hown (hts _ k_5_105) (hts _ k_5_104) (hts _ k_5_103) (hts _ k_1_26) hK hP hD hS 30 18 0 0 (ce_30 _ _ _) (ce_18 _ _ _) rfl rfl rfl (by decide +kernel) (by decide +kernel) (by decide +kernel) (by decide +kernel) (by decide +kernel) (fun _ _ => rfl) (Nat.le_of_ble_eq_true rfl) (by decide +kernel) d_Store_become_49 (fun H locs hP hD hS => ?_)
  rw [cs_xd0_counts] at hP hD
  have hP : va_P D classes (cW T ad ((S2.1, S2.2.1, ((a_xc0_k S2), (a_xc0_n S2), (a_xc0_r S2), (f_xc0_z S2), (va_cpy (a_xd1_rooms S2) (a_xd0_rooms S2) 0 0 7), (va_cpy (a_xd1_counts S2) (a_xd0_counts S2) 0 0 7), (a_xd0_names S2), (a_xv0_k S2), (a_xv0_n S2), (a_xv0_r S2), (f_xv0_z S2)), S2.2.2.2.1, S2.2.2.2.2.1, S2.2.2.2.2.2.1, S2.2.2.2.2.2.2.1, S2.2.2.2.2.2.2.2.1, S2.2.2.2.2.2.2.2.2) : CS)) H := hP
  have hD : va_D A (cW T ad ((S2.1, S2.2.1, ((a_xc0_k S2), (a_xc0_n S2), (a_xc0_r S2), (f_xc0_z S2), (va_cpy (a_xd1_rooms S2) (a_xd0_rooms S2) 0 0 7), (va_cpy (a_xd1_counts S2) (a_xd0_counts S2) 0 0 7), (a_xd0_names S2), (a_xv0_k S2), (a_xv0_n S2), (a_xv0_r S2), (f_xv0_z S2)), S2.2.2.2.1, S2.2.2.2.2.1, S2.2.2.2.2.2.1, S2.2.2.2.2.2.2.1, S2.2.2.2.2.2.2.2.1, S2.2.2.2.2.2.2.2.2) : CS)) := hD
  refine lv_aload_n hx hb d_Store_become_52 rfl (lv_at hl 1 rfl) ?_
  refine va_get (D := D) (ci := 3) (v := .ref (ad 31)) (C := "PageScribe$Store") (T := F_Store) (N := 5) hx hb hts i_Store hown hK hP 24 (ce_24 _ _ _) cl_3 3 (by decide) (hts _ k_1_113) (fun _ h9 => h9) rfl d_Store_become_53 ?_
  refine lv_iconst (v := 0) hx hb d_Store_become_56 (by decide) ?_
  refine lv_aload_n hx hb d_Store_become_57 rfl (lv_at hl 0 rfl) ?_
  refine va_get (D := D) (ci := 3) (v := .ref (ad 19)) (C := "PageScribe$Store") (T := F_Store) (N := 5) hx hb hts i_Store hown hK hP 12 (ce_12 _ _ _) cl_3 3 (by decide) (hts _ k_1_113) (fun _ h9 => h9) rfl d_Store_become_58 ?_
  refine lv_iconst (v := 0) hx hb d_Store_become_61 (by decide) ?_
  refine lv_bipush (v := 80) hx hb d_Store_become_62 (by decide) ?_
  refine va_copyi (sp := 0) (dp := 0) (n := 80) hx hb (hml.trans hl.1.symm) hown (hts _ k_5_105) (hts _ k_5_104) (hts _ k_5_103) (hts _ k_1_26) hK hP hD hS 31 19 0 0 (ce_31 _ _ _) (ce_19 _ _ _) rfl rfl rfl (by decide +kernel) (by decide +kernel) (by decide +kernel) (by decide +kernel) (by decide +kernel) (fun _ _ => rfl) (Nat.le_of_ble_eq_true rfl) (by decide +kernel) d_Store_become_64 (fun H locs hP hD hS => ?_)
  rw [cs_xd0_names] at hP hD
  have hP : va_P D classes (cW T ad ((S2.1, S2.2.1, ((a_xc0_k S2), (a_xc0_n S2), (a_xc0_r S2), (f_xc0_z S2), (va_cpy (a_xd1_rooms S2) (a_xd0_rooms S2) 0 0 7), (va_cpy (a_xd1_counts S2) (a_xd0_counts S2) 0 0 7), (va_cpy (a_xd1_names S2) (a_xd0_names S2) 0 0 80), (a_xv0_k S2), (a_xv0_n S2), (a_xv0_r S2), (f_xv0_z S2)), S2.2.2.2.1, S2.2.2.2.2.1, S2.2.2.2.2.2.1, S2.2.2.2.2.2.2.1, S2.2.2.2.2.2.2.2.1, S2.2.2.2.2.2.2.2.2) : CS)) H := hP
  have hD : va_D A (cW T ad ((S2.1, S2.2.1, ((a_xc0_k S2), (a_xc0_n S2), (a_xc0_r S2), (f_xc0_z S2), (va_cpy (a_xd1_rooms S2) (a_xd0_rooms S2) 0 0 7), (va_cpy (a_xd1_counts S2) (a_xd0_counts S2) 0 0 7), (va_cpy (a_xd1_names S2) (a_xd0_names S2) 0 0 80), (a_xv0_k S2), (a_xv0_n S2), (a_xv0_r S2), (f_xv0_z S2)), S2.2.2.2.1, S2.2.2.2.2.1, S2.2.2.2.2.2.1, S2.2.2.2.2.2.2.1, S2.2.2.2.2.2.2.2.1, S2.2.2.2.2.2.2.2.2) : CS)) := hD
  exact j_vret F hr hlocks hK hS ((S2.1, S2.2.1, ((a_xc0_k S2), (a_xc0_n S2), (a_xc0_r S2), (f_xc0_z S2), (va_cpy (a_xd1_rooms S2) (a_xd0_rooms S2) 0 0 7), (va_cpy (a_xd1_counts S2) (a_xd0_counts S2) 0 0 7), (va_cpy (a_xd1_names S2) (a_xd0_names S2) 0 0 80), (a_xv0_k S2), (a_xv0_n S2), (a_xv0_r S2), (f_xv0_z S2)), S2.2.2.2.1, S2.2.2.2.2.1, S2.2.2.2.2.2.1, S2.2.2.2.2.2.2.1, S2.2.2.2.2.2.2.2.1, S2.2.2.2.2.2.2.2.2) : CS) ⟨⟨i_vst, i_vc0, i_vc1, i_vc2, i_vc3, i_vv0, i_vv1, i_vv2, i_vv3, i_vg, i_wct, i_wln, (cpy_sd i_sd1), i_sd1, i_sd2, i_sd3, i_rln, i_rtx, i_rpl, i_rtk, i_cnv, i_pts, i_cik, i_und⟩, kScL_S2, kScP_S2, kScU_S2, kScW_S2⟩ hP hD d_Store_become_67
set_option maxHeartbeats 4000000 in
set_option maxRecDepth 100000 in
theorem c_Row_become_37_13 (l : Launch) (D : va_G) (T : Nat → ClassId) (ad : Nat → Nat) (S : CS)  (sz : Nat)  (hI : CIv S) : Met l ⟨"PageScribe$Row", "become", "(LPageScribe$Row;)V"⟩ (wy ⟨"PageScribe$Row", "become", "(LPageScribe$Row;)V"⟩ prog_8_method_9_code 3 none) ({ frames := 1, cells := 0, slots := 0, locals := 70 }) (va_Pc [.ref (ad 37), .ref (ad 13)] (Pw D T (cW T ad S) sz E0)) (va_Qv (fun (u : CS) => CIv u ∧ kcL S u ∧ kcP S u ∧ kcU S u ∧ kcW S u) (fun u t => Bw D T (va_A (cW T ad S) sz) (cW T ad u) t) (va_A (cW T ad S) sz)) 0 0 (va_A (cW T ad S) sz) := by
  refine j_met (y := ⟨"PageScribe$Row", "become", "(LPageScribe$Row;)V"⟩) (b := prog_8_method_9_code) (n := 3) (ret := none) (av := [.ref (ad 37), .ref (ad 13)]) (Qc := fun A => va_Qv (fun (u : CS) => CIv u ∧ kcL S u ∧ kcP S u ∧ kcU S u ∧ kcW S u) (fun u t => Bw D T A (cW T ad u) t) A) (by decide +kernel) (Nat.le_of_ble_eq_true rfl) (fun p e s m args below meth c A ls F hr hlocks hnm hK hP hD hS hA hN hE hl => ?_)
  obtain ⟨hx, hb, hml, hown, hts⟩ := id F
  have hl : lv_has ls 3 [(0, .ref (ad 37)), (1, .ref (ad 13))] := hl
  obtain ⟨i_vst, i_vc0, i_vc1, i_vc2, i_vc3, i_vv0, i_vv1, i_vv2, i_vv3, i_vg, i_wct, i_wln, i_sd0, i_sd1, i_sd2, i_sd3, i_rln, i_rtx, i_rpl, i_rtk, i_cnv, i_pts, i_cik, i_und⟩ := id hI
  refine lv_aload_n hx hb d_Row_become_0 rfl (lv_at hl 0 rfl) ?_
  refine va_get (D := D) (ci := 4) (v := .ref (ad 38)) (C := "PageScribe$Row") (T := F_Row) (N := 4) hx hb hts i_Row hown hK hP 37 (ce_37 _ _ _) cl_4 0 (by decide) (hts _ k_1_46) (fun _ h9 => h9) rfl d_Row_become_1 ?_
  refine va_alen (v := 160) hx hb hK hP 38 0 (ce_38 _ _ _) rfl (show Int32.ofNat 160 = 160 from by decide +kernel) d_Row_become_4 ?_
  refine lv_aload_n hx hb d_Row_become_5 rfl (lv_at hl 1 rfl) ?_
  refine va_get (D := D) (ci := 4) (v := .ref (ad 14)) (C := "PageScribe$Row") (T := F_Row) (N := 4) hx hb hts i_Row hown hK hP 13 (ce_13 _ _ _) cl_4 0 (by decide) (hts _ k_1_46) (fun _ h9 => h9) rfl d_Row_become_6 ?_
  refine va_alen (v := 160) hx hb hK hP 14 0 (ce_14 _ _ _) rfl (show Int32.ofNat 160 = 160 from by decide +kernel) d_Row_become_9 ?_
  refine j_ci (wc := []) (wr := (cW T ad S)) hK hP hD hS hA [] csc rfl csc_all csc_nd (fun _ _ => List.not_mem_nil) (va_runS (As := [.int 160, .int 160]) (rest := []) F (c_Math_min l D T (160 : Int32) (160 : Int32)  s.heap.size) (j_cS (k := 2) hts k_3_221 k_1_21 k_5_101 k_3_220 (by decide +kernel) ⟨Nat.le_of_ble_eq_true rfl, Nat.le_of_ble_eq_true rfl⟩) (j_preS hK hP hD [] rfl (by decide) (fun _ _ _ _ h => h) (fun _ _ _ => trivial)) rfl rfl hl.1 rfl (lv_room (Nat.le_of_ble_eq_true rfl)) d_Row_become_10 ⟨Nat.le_of_ble_eq_true rfl, Nat.le_of_ble_eq_true rfl⟩) (fun rv1 u1 H locs hw1 hP hD hS => ?_)
  have hP : va_P D classes (cW T ad S) H := hP
  have hD : va_D A (cW T ad S) := hD
  have qhw1 : rv1.toInt ≤ 160 ∧ rv1.toInt ≤ 160 ∧ (rv1.toInt = 160 ∨ rv1.toInt = 160) := by simpa only [tI_160] using hw1
  have rrv1 := zt_rng rv1
  refine j_eqi (y := 160) (Int32.toInt_inj.mp (by have := tI_160; omega)) ?_
  refine lv_istore_n (lv' := [(2, .int 160), (0, .ref (ad 37)), (1, .ref (ad 13))]) hx hb d_Row_become_13 rfl hl (by decide) rfl (fun ls hl => ?_)
  refine lv_aload_n hx hb d_Row_become_14 rfl (lv_at hl 2 rfl) ?_
  refine va_get (D := D) (ci := 4) (v := .ref (ad 14)) (C := "PageScribe$Row") (T := F_Row) (N := 4) hx hb hts i_Row hown hK hP 13 (ce_13 _ _ _) cl_4 0 (by decide) (hts _ k_1_46) (fun _ h9 => h9) rfl d_Row_become_15 ?_
  refine lv_iconst (v := 0) hx hb d_Row_become_18 (by decide) ?_
  refine lv_aload_n hx hb d_Row_become_19 rfl (lv_at hl 1 rfl) ?_
  refine va_get (D := D) (ci := 4) (v := .ref (ad 38)) (C := "PageScribe$Row") (T := F_Row) (N := 4) hx hb hts i_Row hown hK hP 37 (ce_37 _ _ _) cl_4 0 (by decide) (hts _ k_1_46) (fun _ h9 => h9) rfl d_Row_become_20 ?_
  refine lv_iconst (v := 0) hx hb d_Row_become_23 (by decide) ?_
  refine lv_iload_n hx hb d_Row_become_24 rfl (lv_at hl 0 rfl) ?_
  refine va_copyi (sp := 0) (dp := 0) (n := 160) hx hb (hml.trans hl.1.symm) hown (hts _ k_5_102) (hts _ k_5_104) (hts _ k_5_103) (hts _ k_1_26) hK hP hD hS 14 38 0 0 (ce_14 _ _ _) (ce_38 _ _ _) rfl rfl rfl (by decide +kernel) (by decide +kernel) (by decide +kernel) (by decide +kernel) (by decide +kernel) (fun _ _ => rfl) (Nat.le_of_ble_eq_true rfl) (by decide +kernel) d_Row_become_25 (fun H locs hP hD hS => ?_)
  rw [cs_xc2_k] at hP hD
  have hP : va_P D classes (cW T ad ((S.1, S.2.1, S.2.2.1, S.2.2.2.1, ((va_cpy (a_xc0_k S) (a_xc2_k S) 0 0 160), (a_xc2_n S), (a_xc2_r S), (f_xc2_z S), (a_xd2_rooms S), (a_xd2_counts S), (a_xd2_names S), (a_xv2_k S), (a_xv2_n S), (a_xv2_r S), (f_xv2_z S)), S.2.2.2.2.2.1, S.2.2.2.2.2.2.1, S.2.2.2.2.2.2.2.1, S.2.2.2.2.2.2.2.2) : CS)) H := hP
  have hD : va_D A (cW T ad ((S.1, S.2.1, S.2.2.1, S.2.2.2.1, ((va_cpy (a_xc0_k S) (a_xc2_k S) 0 0 160), (a_xc2_n S), (a_xc2_r S), (f_xc2_z S), (a_xd2_rooms S), (a_xd2_counts S), (a_xd2_names S), (a_xv2_k S), (a_xv2_n S), (a_xv2_r S), (f_xv2_z S)), S.2.2.2.2.2.1, S.2.2.2.2.2.2.1, S.2.2.2.2.2.2.2.1, S.2.2.2.2.2.2.2.2) : CS)) := hD
  refine lv_aload_n hx hb d_Row_become_28 rfl (lv_at hl 2 rfl) ?_
  refine va_get (D := D) (ci := 4) (v := .ref (ad 15)) (C := "PageScribe$Row") (T := F_Row) (N := 4) hx hb hts i_Row hown hK hP 13 (ce_13 _ _ _) cl_4 1 (by decide) (hts _ k_1_47) (fun _ h9 => h9) rfl d_Row_become_29 ?_
  refine lv_iconst (v := 0) hx hb d_Row_become_32 (by decide) ?_
  refine lv_aload_n hx hb d_Row_become_33 rfl (lv_at hl 1 rfl) ?_
  refine va_get (D := D) (ci := 4) (v := .ref (ad 39)) (C := "PageScribe$Row") (T := F_Row) (N := 4) hx hb hts i_Row hown hK hP 37 (ce_37 _ _ _) cl_4 1 (by decide) (hts _ k_1_47) (fun _ h9 => h9) rfl d_Row_become_34 ?_
  refine lv_iconst (v := 0) hx hb d_Row_become_37 (by decide) ?_
  refine lv_iload_n hx hb d_Row_become_38 rfl (lv_at hl 0 rfl) ?_
  refine va_copyi (sp := 0) (dp := 0) (n := 160) hx hb (hml.trans hl.1.symm) hown (hts _ k_5_102) (hts _ k_5_104) (hts _ k_5_103) (hts _ k_1_26) hK hP hD hS 15 39 0 0 (ce_15 _ _ _) (ce_39 _ _ _) rfl rfl rfl (by decide +kernel) (by decide +kernel) (by decide +kernel) (by decide +kernel) (by decide +kernel) (fun _ _ => rfl) (Nat.le_of_ble_eq_true rfl) (by decide +kernel) d_Row_become_39 (fun H locs hP hD hS => ?_)
  rw [cs_xc2_n] at hP hD
  have hP : va_P D classes (cW T ad ((S.1, S.2.1, S.2.2.1, S.2.2.2.1, ((va_cpy (a_xc0_k S) (a_xc2_k S) 0 0 160), (va_cpy (a_xc0_n S) (a_xc2_n S) 0 0 160), (a_xc2_r S), (f_xc2_z S), (a_xd2_rooms S), (a_xd2_counts S), (a_xd2_names S), (a_xv2_k S), (a_xv2_n S), (a_xv2_r S), (f_xv2_z S)), S.2.2.2.2.2.1, S.2.2.2.2.2.2.1, S.2.2.2.2.2.2.2.1, S.2.2.2.2.2.2.2.2) : CS)) H := hP
  have hD : va_D A (cW T ad ((S.1, S.2.1, S.2.2.1, S.2.2.2.1, ((va_cpy (a_xc0_k S) (a_xc2_k S) 0 0 160), (va_cpy (a_xc0_n S) (a_xc2_n S) 0 0 160), (a_xc2_r S), (f_xc2_z S), (a_xd2_rooms S), (a_xd2_counts S), (a_xd2_names S), (a_xv2_k S), (a_xv2_n S), (a_xv2_r S), (f_xv2_z S)), S.2.2.2.2.2.1, S.2.2.2.2.2.2.1, S.2.2.2.2.2.2.2.1, S.2.2.2.2.2.2.2.2) : CS)) := hD
  refine lv_aload_n hx hb d_Row_become_42 rfl (lv_at hl 2 rfl) ?_
  refine va_get (D := D) (ci := 4) (v := .ref (ad 16)) (C := "PageScribe$Row") (T := F_Row) (N := 4) hx hb hts i_Row hown hK hP 13 (ce_13 _ _ _) cl_4 2 (by decide) (hts _ k_1_48) (fun _ h9 => h9) rfl d_Row_become_43 ?_
  refine lv_iconst (v := 0) hx hb d_Row_become_46 (by decide) ?_
  refine lv_aload_n hx hb d_Row_become_47 rfl (lv_at hl 1 rfl) ?_
  refine va_get (D := D) (ci := 4) (v := .ref (ad 40)) (C := "PageScribe$Row") (T := F_Row) (N := 4) hx hb hts i_Row hown hK hP 37 (ce_37 _ _ _) cl_4 2 (by decide) (hts _ k_1_48) (fun _ h9 => h9) rfl d_Row_become_48 ?_
  refine lv_iconst (v := 0) hx hb d_Row_become_51 (by decide) ?_
  refine lv_iload_n hx hb d_Row_become_52 rfl (lv_at hl 0 rfl) ?_
  refine va_copyd (sp := 0) (dp := 0) (n := 160) hx hb (hml.trans hl.1.symm) hown (hts _ k_5_102) (hts _ k_5_104) (hts _ k_5_103) (hts _ k_1_26) hK hP hD hS 16 40 3 3 (ce_16 _ _ _) (ce_40 _ _ _) rfl rfl rfl (by decide +kernel) (by decide +kernel) (by decide +kernel) (by decide +kernel) (by decide +kernel) (fun _ _ => rfl) (Nat.le_of_ble_eq_true rfl) (by decide +kernel) d_Row_become_53 (fun H locs hP hD hS => ?_)
  rw [cs_xc2_r] at hP hD
  have hP : va_P D classes (cW T ad ((S.1, S.2.1, S.2.2.1, S.2.2.2.1, ((va_cpy (a_xc0_k S) (a_xc2_k S) 0 0 160), (va_cpy (a_xc0_n S) (a_xc2_n S) 0 0 160), (va_cpy (a_xc0_r S) (a_xc2_r S) 0 0 160), (f_xc2_z S), (a_xd2_rooms S), (a_xd2_counts S), (a_xd2_names S), (a_xv2_k S), (a_xv2_n S), (a_xv2_r S), (f_xv2_z S)), S.2.2.2.2.2.1, S.2.2.2.2.2.2.1, S.2.2.2.2.2.2.2.1, S.2.2.2.2.2.2.2.2) : CS)) H := hP
  have hD : va_D A (cW T ad ((S.1, S.2.1, S.2.2.1, S.2.2.2.1, ((va_cpy (a_xc0_k S) (a_xc2_k S) 0 0 160), (va_cpy (a_xc0_n S) (a_xc2_n S) 0 0 160), (va_cpy (a_xc0_r S) (a_xc2_r S) 0 0 160), (f_xc2_z S), (a_xd2_rooms S), (a_xd2_counts S), (a_xd2_names S), (a_xv2_k S), (a_xv2_n S), (a_xv2_r S), (f_xv2_z S)), S.2.2.2.2.2.1, S.2.2.2.2.2.2.1, S.2.2.2.2.2.2.2.1, S.2.2.2.2.2.2.2.2) : CS)) := hD
  refine lv_aload_n hx hb d_Row_become_56 rfl (lv_at hl 1 rfl) ?_
  refine lv_aload_n hx hb d_Row_become_57 rfl (lv_at hl 2 rfl) ?_
  refine va_get (D := D) (ci := 4) (v := .int (f_xc0_z S)) (C := "PageScribe$Row") (T := F_Row) (N := 4) hx hb hts i_Row hown hK hP 13 (ce_13 _ _ _) cl_4 3 (by decide) (hts _ k_1_49) (fun _ h9 => h9) rfl d_Row_become_58 ?_
  refine va_put (D := D) (ci := 4) (v := .int (f_xc0_z S)) (ty := .int) (C := "PageScribe$Row") (T := F_Row) (N := 4) hx hb hts i_Row t_Row t_Row_ok n_Row hown hK hP hD hS 37 (ce_37 _ _ _) cl_4 3 (by decide) (hts _ k_1_49) (fun _ h9 => h9) rfl (by decide +kernel) rfl rfl (Nat.le_of_ble_eq_true rfl) d_Row_become_61 (fun H locs hP hD hS => ?_)
  rw [cp_xc2_z] at hP hD
  have hP : va_P D classes (cW T ad ((S.1, S.2.1, S.2.2.1, S.2.2.2.1, ((va_cpy (a_xc0_k S) (a_xc2_k S) 0 0 160), (va_cpy (a_xc0_n S) (a_xc2_n S) 0 0 160), (va_cpy (a_xc0_r S) (a_xc2_r S) 0 0 160), (f_xc0_z S), (a_xd2_rooms S), (a_xd2_counts S), (a_xd2_names S), (a_xv2_k S), (a_xv2_n S), (a_xv2_r S), (f_xv2_z S)), S.2.2.2.2.2.1, S.2.2.2.2.2.2.1, S.2.2.2.2.2.2.2.1, S.2.2.2.2.2.2.2.2) : CS)) H := hP
  have hD : va_D A (cW T ad ((S.1, S.2.1, S.2.2.1, S.2.2.2.1, ((va_cpy (a_xc0_k S) (a_xc2_k S) 0 0 160), (va_cpy (a_xc0_n S) (a_xc2_n S) 0 0 160), (va_cpy (a_xc0_r S) (a_xc2_r S) 0 0 160), (f_xc0_z S), (a_xd2_rooms S), (a_xd2_counts S), (a_xd2_names S), (a_xv2_k S), (a_xv2_n S), (a_xv2_r S), (f_xv2_z S)), S.2.2.2.2.2.1, S.2.2.2.2.2.2.1, S.2.2.2.2.2.2.2.1, S.2.2.2.2.2.2.2.2) : CS)) := hD
  exact j_vret F hr hlocks hK hS ((S.1, S.2.1, S.2.2.1, S.2.2.2.1, ((va_cpy (a_xc0_k S) (a_xc2_k S) 0 0 160), (va_cpy (a_xc0_n S) (a_xc2_n S) 0 0 160), (va_cpy (a_xc0_r S) (a_xc2_r S) 0 0 160), (f_xc0_z S), (a_xd2_rooms S), (a_xd2_counts S), (a_xd2_names S), (a_xv2_k S), (a_xv2_n S), (a_xv2_r S), (f_xv2_z S)), S.2.2.2.2.2.1, S.2.2.2.2.2.2.1, S.2.2.2.2.2.2.2.1, S.2.2.2.2.2.2.2.2) : CS) ⟨⟨i_vst, i_vc0, i_vc1, (cpy_dB i_vc0), i_vc3, i_vv0, i_vv1, i_vv2, i_vv3, i_vg, i_wct, i_wln, i_sd0, i_sd1, i_sd2, i_sd3, i_rln, i_rtx, i_rpl, i_rtk, i_cnv, i_pts, i_cik, i_und⟩, (kcL_r S), (kcP_r S), (kcU_r S), (kcW_r S)⟩ hP hD d_Row_become_64
set_option maxHeartbeats 4000000 in
set_option maxRecDepth 100000 in
theorem c_Row_become_44_20 (l : Launch) (D : va_G) (T : Nat → ClassId) (ad : Nat → Nat) (S : CS)  (sz : Nat)  (hI : CIv S) : Met l ⟨"PageScribe$Row", "become", "(LPageScribe$Row;)V"⟩ (wy ⟨"PageScribe$Row", "become", "(LPageScribe$Row;)V"⟩ prog_8_method_9_code 3 none) ({ frames := 1, cells := 0, slots := 0, locals := 70 }) (va_Pc [.ref (ad 44), .ref (ad 20)] (Pw D T (cW T ad S) sz E0)) (va_Qv (fun (u : CS) => CIv u ∧ kcL S u ∧ kcP S u ∧ kcU S u ∧ kcW S u) (fun u t => Bw D T (va_A (cW T ad S) sz) (cW T ad u) t) (va_A (cW T ad S) sz)) 0 0 (va_A (cW T ad S) sz) := by
  refine j_met (y := ⟨"PageScribe$Row", "become", "(LPageScribe$Row;)V"⟩) (b := prog_8_method_9_code) (n := 3) (ret := none) (av := [.ref (ad 44), .ref (ad 20)]) (Qc := fun A => va_Qv (fun (u : CS) => CIv u ∧ kcL S u ∧ kcP S u ∧ kcU S u ∧ kcW S u) (fun u t => Bw D T A (cW T ad u) t) A) (by decide +kernel) (Nat.le_of_ble_eq_true rfl) (fun p e s m args below meth c A ls F hr hlocks hnm hK hP hD hS hA hN hE hl => ?_)
  obtain ⟨hx, hb, hml, hown, hts⟩ := id F
  have hl : lv_has ls 3 [(0, .ref (ad 44)), (1, .ref (ad 20))] := hl
  obtain ⟨i_vst, i_vc0, i_vc1, i_vc2, i_vc3, i_vv0, i_vv1, i_vv2, i_vv3, i_vg, i_wct, i_wln, i_sd0, i_sd1, i_sd2, i_sd3, i_rln, i_rtx, i_rpl, i_rtk, i_cnv, i_pts, i_cik, i_und⟩ := id hI
  refine lv_aload_n hx hb d_Row_become_0 rfl (lv_at hl 0 rfl) ?_
  refine va_get (D := D) (ci := 4) (v := .ref (ad 45)) (C := "PageScribe$Row") (T := F_Row) (N := 4) hx hb hts i_Row hown hK hP 44 (ce_44 _ _ _) cl_4 0 (by decide) (hts _ k_1_46) (fun _ h9 => h9) rfl d_Row_become_1 ?_
  refine va_alen (v := 80) hx hb hK hP 45 0 (ce_45 _ _ _) rfl (show Int32.ofNat 80 = 80 from by decide +kernel) d_Row_become_4 ?_
  refine lv_aload_n hx hb d_Row_become_5 rfl (lv_at hl 1 rfl) ?_
  refine va_get (D := D) (ci := 4) (v := .ref (ad 21)) (C := "PageScribe$Row") (T := F_Row) (N := 4) hx hb hts i_Row hown hK hP 20 (ce_20 _ _ _) cl_4 0 (by decide) (hts _ k_1_46) (fun _ h9 => h9) rfl d_Row_become_6 ?_
  refine va_alen (v := 80) hx hb hK hP 21 0 (ce_21 _ _ _) rfl (show Int32.ofNat 80 = 80 from by decide +kernel) d_Row_become_9 ?_
  refine j_ci (wc := []) (wr := (cW T ad S)) hK hP hD hS hA [] csc rfl csc_all csc_nd (fun _ _ => List.not_mem_nil) (va_runS (As := [.int 80, .int 80]) (rest := []) F (c_Math_min l D T (80 : Int32) (80 : Int32)  s.heap.size) (j_cS (k := 2) hts k_3_221 k_1_21 k_5_101 k_3_220 (by decide +kernel) ⟨Nat.le_of_ble_eq_true rfl, Nat.le_of_ble_eq_true rfl⟩) (j_preS hK hP hD [] rfl (by decide) (fun _ _ _ _ h => h) (fun _ _ _ => trivial)) rfl rfl hl.1 rfl (lv_room (Nat.le_of_ble_eq_true rfl)) d_Row_become_10 ⟨Nat.le_of_ble_eq_true rfl, Nat.le_of_ble_eq_true rfl⟩) (fun rv1 u1 H locs hw1 hP hD hS => ?_)
  have hP : va_P D classes (cW T ad S) H := hP
  have hD : va_D A (cW T ad S) := hD
  have qhw1 : rv1.toInt ≤ 80 ∧ rv1.toInt ≤ 80 ∧ (rv1.toInt = 80 ∨ rv1.toInt = 80) := by simpa only [tI_80] using hw1
  have rrv1 := zt_rng rv1
  refine j_eqi (y := 80) (Int32.toInt_inj.mp (by have := tI_80; omega)) ?_
  refine lv_istore_n (lv' := [(2, .int 80), (0, .ref (ad 44)), (1, .ref (ad 20))]) hx hb d_Row_become_13 rfl hl (by decide) rfl (fun ls hl => ?_)
  refine lv_aload_n hx hb d_Row_become_14 rfl (lv_at hl 2 rfl) ?_
  refine va_get (D := D) (ci := 4) (v := .ref (ad 21)) (C := "PageScribe$Row") (T := F_Row) (N := 4) hx hb hts i_Row hown hK hP 20 (ce_20 _ _ _) cl_4 0 (by decide) (hts _ k_1_46) (fun _ h9 => h9) rfl d_Row_become_15 ?_
  refine lv_iconst (v := 0) hx hb d_Row_become_18 (by decide) ?_
  refine lv_aload_n hx hb d_Row_become_19 rfl (lv_at hl 1 rfl) ?_
  refine va_get (D := D) (ci := 4) (v := .ref (ad 45)) (C := "PageScribe$Row") (T := F_Row) (N := 4) hx hb hts i_Row hown hK hP 44 (ce_44 _ _ _) cl_4 0 (by decide) (hts _ k_1_46) (fun _ h9 => h9) rfl d_Row_become_20 ?_
  refine lv_iconst (v := 0) hx hb d_Row_become_23 (by decide) ?_
  refine lv_iload_n hx hb d_Row_become_24 rfl (lv_at hl 0 rfl) ?_
  refine va_copyi (sp := 0) (dp := 0) (n := 80) hx hb (hml.trans hl.1.symm) hown (hts _ k_5_102) (hts _ k_5_104) (hts _ k_5_103) (hts _ k_1_26) hK hP hD hS 21 45 0 0 (ce_21 _ _ _) (ce_45 _ _ _) rfl rfl rfl (by decide +kernel) (by decide +kernel) (by decide +kernel) (by decide +kernel) (by decide +kernel) (fun _ _ => rfl) (Nat.le_of_ble_eq_true rfl) (by decide +kernel) d_Row_become_25 (fun H locs hP hD hS => ?_)
  rw [cs_xv2_k] at hP hD
  have hP : va_P D classes (cW T ad ((S.1, S.2.1, S.2.2.1, S.2.2.2.1, ((a_xc2_k S), (a_xc2_n S), (a_xc2_r S), (f_xc2_z S), (a_xd2_rooms S), (a_xd2_counts S), (a_xd2_names S), (va_cpy (a_xv0_k S) (a_xv2_k S) 0 0 80), (a_xv2_n S), (a_xv2_r S), (f_xv2_z S)), S.2.2.2.2.2.1, S.2.2.2.2.2.2.1, S.2.2.2.2.2.2.2.1, S.2.2.2.2.2.2.2.2) : CS)) H := hP
  have hD : va_D A (cW T ad ((S.1, S.2.1, S.2.2.1, S.2.2.2.1, ((a_xc2_k S), (a_xc2_n S), (a_xc2_r S), (f_xc2_z S), (a_xd2_rooms S), (a_xd2_counts S), (a_xd2_names S), (va_cpy (a_xv0_k S) (a_xv2_k S) 0 0 80), (a_xv2_n S), (a_xv2_r S), (f_xv2_z S)), S.2.2.2.2.2.1, S.2.2.2.2.2.2.1, S.2.2.2.2.2.2.2.1, S.2.2.2.2.2.2.2.2) : CS)) := hD
  refine lv_aload_n hx hb d_Row_become_28 rfl (lv_at hl 2 rfl) ?_
  refine va_get (D := D) (ci := 4) (v := .ref (ad 22)) (C := "PageScribe$Row") (T := F_Row) (N := 4) hx hb hts i_Row hown hK hP 20 (ce_20 _ _ _) cl_4 1 (by decide) (hts _ k_1_47) (fun _ h9 => h9) rfl d_Row_become_29 ?_
  refine lv_iconst (v := 0) hx hb d_Row_become_32 (by decide) ?_
  refine lv_aload_n hx hb d_Row_become_33 rfl (lv_at hl 1 rfl) ?_
  refine va_get (D := D) (ci := 4) (v := .ref (ad 46)) (C := "PageScribe$Row") (T := F_Row) (N := 4) hx hb hts i_Row hown hK hP 44 (ce_44 _ _ _) cl_4 1 (by decide) (hts _ k_1_47) (fun _ h9 => h9) rfl d_Row_become_34 ?_
  refine lv_iconst (v := 0) hx hb d_Row_become_37 (by decide) ?_
  refine lv_iload_n hx hb d_Row_become_38 rfl (lv_at hl 0 rfl) ?_
  refine va_copyi (sp := 0) (dp := 0) (n := 80) hx hb (hml.trans hl.1.symm) hown (hts _ k_5_102) (hts _ k_5_104) (hts _ k_5_103) (hts _ k_1_26) hK hP hD hS 22 46 0 0 (ce_22 _ _ _) (ce_46 _ _ _) rfl rfl rfl (by decide +kernel) (by decide +kernel) (by decide +kernel) (by decide +kernel) (by decide +kernel) (fun _ _ => rfl) (Nat.le_of_ble_eq_true rfl) (by decide +kernel) d_Row_become_39 (fun H locs hP hD hS => ?_)
  rw [cs_xv2_n] at hP hD
  have hP : va_P D classes (cW T ad ((S.1, S.2.1, S.2.2.1, S.2.2.2.1, ((a_xc2_k S), (a_xc2_n S), (a_xc2_r S), (f_xc2_z S), (a_xd2_rooms S), (a_xd2_counts S), (a_xd2_names S), (va_cpy (a_xv0_k S) (a_xv2_k S) 0 0 80), (va_cpy (a_xv0_n S) (a_xv2_n S) 0 0 80), (a_xv2_r S), (f_xv2_z S)), S.2.2.2.2.2.1, S.2.2.2.2.2.2.1, S.2.2.2.2.2.2.2.1, S.2.2.2.2.2.2.2.2) : CS)) H := hP
  have hD : va_D A (cW T ad ((S.1, S.2.1, S.2.2.1, S.2.2.2.1, ((a_xc2_k S), (a_xc2_n S), (a_xc2_r S), (f_xc2_z S), (a_xd2_rooms S), (a_xd2_counts S), (a_xd2_names S), (va_cpy (a_xv0_k S) (a_xv2_k S) 0 0 80), (va_cpy (a_xv0_n S) (a_xv2_n S) 0 0 80), (a_xv2_r S), (f_xv2_z S)), S.2.2.2.2.2.1, S.2.2.2.2.2.2.1, S.2.2.2.2.2.2.2.1, S.2.2.2.2.2.2.2.2) : CS)) := hD
  refine lv_aload_n hx hb d_Row_become_42 rfl (lv_at hl 2 rfl) ?_
  refine va_get (D := D) (ci := 4) (v := .ref (ad 23)) (C := "PageScribe$Row") (T := F_Row) (N := 4) hx hb hts i_Row hown hK hP 20 (ce_20 _ _ _) cl_4 2 (by decide) (hts _ k_1_48) (fun _ h9 => h9) rfl d_Row_become_43 ?_
  refine lv_iconst (v := 0) hx hb d_Row_become_46 (by decide) ?_
  refine lv_aload_n hx hb d_Row_become_47 rfl (lv_at hl 1 rfl) ?_
  refine va_get (D := D) (ci := 4) (v := .ref (ad 47)) (C := "PageScribe$Row") (T := F_Row) (N := 4) hx hb hts i_Row hown hK hP 44 (ce_44 _ _ _) cl_4 2 (by decide) (hts _ k_1_48) (fun _ h9 => h9) rfl d_Row_become_48 ?_
  refine lv_iconst (v := 0) hx hb d_Row_become_51 (by decide) ?_
  refine lv_iload_n hx hb d_Row_become_52 rfl (lv_at hl 0 rfl) ?_
  refine va_copyd (sp := 0) (dp := 0) (n := 80) hx hb (hml.trans hl.1.symm) hown (hts _ k_5_102) (hts _ k_5_104) (hts _ k_5_103) (hts _ k_1_26) hK hP hD hS 23 47 3 3 (ce_23 _ _ _) (ce_47 _ _ _) rfl rfl rfl (by decide +kernel) (by decide +kernel) (by decide +kernel) (by decide +kernel) (by decide +kernel) (fun _ _ => rfl) (Nat.le_of_ble_eq_true rfl) (by decide +kernel) d_Row_become_53 (fun H locs hP hD hS => ?_)
  rw [cs_xv2_r] at hP hD
  have hP : va_P D classes (cW T ad ((S.1, S.2.1, S.2.2.1, S.2.2.2.1, ((a_xc2_k S), (a_xc2_n S), (a_xc2_r S), (f_xc2_z S), (a_xd2_rooms S), (a_xd2_counts S), (a_xd2_names S), (va_cpy (a_xv0_k S) (a_xv2_k S) 0 0 80), (va_cpy (a_xv0_n S) (a_xv2_n S) 0 0 80), (va_cpy (a_xv0_r S) (a_xv2_r S) 0 0 80), (f_xv2_z S)), S.2.2.2.2.2.1, S.2.2.2.2.2.2.1, S.2.2.2.2.2.2.2.1, S.2.2.2.2.2.2.2.2) : CS)) H := hP
  have hD : va_D A (cW T ad ((S.1, S.2.1, S.2.2.1, S.2.2.2.1, ((a_xc2_k S), (a_xc2_n S), (a_xc2_r S), (f_xc2_z S), (a_xd2_rooms S), (a_xd2_counts S), (a_xd2_names S), (va_cpy (a_xv0_k S) (a_xv2_k S) 0 0 80), (va_cpy (a_xv0_n S) (a_xv2_n S) 0 0 80), (va_cpy (a_xv0_r S) (a_xv2_r S) 0 0 80), (f_xv2_z S)), S.2.2.2.2.2.1, S.2.2.2.2.2.2.1, S.2.2.2.2.2.2.2.1, S.2.2.2.2.2.2.2.2) : CS)) := hD
  refine lv_aload_n hx hb d_Row_become_56 rfl (lv_at hl 1 rfl) ?_
  refine lv_aload_n hx hb d_Row_become_57 rfl (lv_at hl 2 rfl) ?_
  refine va_get (D := D) (ci := 4) (v := .int (f_xv0_z S)) (C := "PageScribe$Row") (T := F_Row) (N := 4) hx hb hts i_Row hown hK hP 20 (ce_20 _ _ _) cl_4 3 (by decide) (hts _ k_1_49) (fun _ h9 => h9) rfl d_Row_become_58 ?_
  refine va_put (D := D) (ci := 4) (v := .int (f_xv0_z S)) (ty := .int) (C := "PageScribe$Row") (T := F_Row) (N := 4) hx hb hts i_Row t_Row t_Row_ok n_Row hown hK hP hD hS 44 (ce_44 _ _ _) cl_4 3 (by decide) (hts _ k_1_49) (fun _ h9 => h9) rfl (by decide +kernel) rfl rfl (Nat.le_of_ble_eq_true rfl) d_Row_become_61 (fun H locs hP hD hS => ?_)
  rw [cp_xv2_z] at hP hD
  have hP : va_P D classes (cW T ad ((S.1, S.2.1, S.2.2.1, S.2.2.2.1, ((a_xc2_k S), (a_xc2_n S), (a_xc2_r S), (f_xc2_z S), (a_xd2_rooms S), (a_xd2_counts S), (a_xd2_names S), (va_cpy (a_xv0_k S) (a_xv2_k S) 0 0 80), (va_cpy (a_xv0_n S) (a_xv2_n S) 0 0 80), (va_cpy (a_xv0_r S) (a_xv2_r S) 0 0 80), (f_xv0_z S)), S.2.2.2.2.2.1, S.2.2.2.2.2.2.1, S.2.2.2.2.2.2.2.1, S.2.2.2.2.2.2.2.2) : CS)) H := hP
  have hD : va_D A (cW T ad ((S.1, S.2.1, S.2.2.1, S.2.2.2.1, ((a_xc2_k S), (a_xc2_n S), (a_xc2_r S), (f_xc2_z S), (a_xd2_rooms S), (a_xd2_counts S), (a_xd2_names S), (va_cpy (a_xv0_k S) (a_xv2_k S) 0 0 80), (va_cpy (a_xv0_n S) (a_xv2_n S) 0 0 80), (va_cpy (a_xv0_r S) (a_xv2_r S) 0 0 80), (f_xv0_z S)), S.2.2.2.2.2.1, S.2.2.2.2.2.2.1, S.2.2.2.2.2.2.2.1, S.2.2.2.2.2.2.2.2) : CS)) := hD
  exact j_vret F hr hlocks hK hS ((S.1, S.2.1, S.2.2.1, S.2.2.2.1, ((a_xc2_k S), (a_xc2_n S), (a_xc2_r S), (f_xc2_z S), (a_xd2_rooms S), (a_xd2_counts S), (a_xd2_names S), (va_cpy (a_xv0_k S) (a_xv2_k S) 0 0 80), (va_cpy (a_xv0_n S) (a_xv2_n S) 0 0 80), (va_cpy (a_xv0_r S) (a_xv2_r S) 0 0 80), (f_xv0_z S)), S.2.2.2.2.2.1, S.2.2.2.2.2.2.1, S.2.2.2.2.2.2.2.1, S.2.2.2.2.2.2.2.2) : CS) ⟨⟨i_vst, i_vc0, i_vc1, i_vc2, i_vc3, i_vv0, i_vv1, (cpy_dB i_vv0), i_vv3, i_vg, i_wct, i_wln, i_sd0, i_sd1, i_sd2, i_sd3, i_rln, i_rtx, i_rpl, i_rtk, i_cnv, i_pts, i_cik, i_und⟩, (kcL_r S), (kcP_r S), (kcU_r S), (kcW_r S)⟩ hP hD d_Row_become_64
set_option maxHeartbeats 4000000 in
set_option maxRecDepth 100000 in
theorem c_Store_become_36_12 (l : Launch) (D : va_G) (T : Nat → ClassId) (ad : Nat → Nat) (S : CS)  (sz : Nat)  (hI : CIv S) : Met l ⟨"PageScribe$Store", "become", "(LPageScribe$Store;)V"⟩ (wy ⟨"PageScribe$Store", "become", "(LPageScribe$Store;)V"⟩ prog_10_method_2_code 2 none) ({ frames := 2, cells := 0, slots := 0, locals := 140 }) (va_Pc [.ref (ad 36), .ref (ad 12)] (Pw D T (cW T ad S) sz E0)) (va_Qv (fun (u : CS) => CIv u ∧ kcL S u ∧ kcP S u ∧ kcU S u ∧ kcW S u) (fun u t => Bw D T (va_A (cW T ad S) sz) (cW T ad u) t) (va_A (cW T ad S) sz)) 0 0 (va_A (cW T ad S) sz) := by
  refine j_met (y := ⟨"PageScribe$Store", "become", "(LPageScribe$Store;)V"⟩) (b := prog_10_method_2_code) (n := 2) (ret := none) (av := [.ref (ad 36), .ref (ad 12)]) (Qc := fun A => va_Qv (fun (u : CS) => CIv u ∧ kcL S u ∧ kcP S u ∧ kcU S u ∧ kcW S u) (fun u t => Bw D T A (cW T ad u) t) A) (by decide +kernel) (Nat.le_of_ble_eq_true rfl) (fun p e s m args below meth c A ls F hr hlocks hnm hK hP hD hS hA hN hE hl => ?_)
  obtain ⟨hx, hb, hml, hown, hts⟩ := id F
  have hl : lv_has ls 2 [(0, .ref (ad 36)), (1, .ref (ad 12))] := hl
  obtain ⟨i_vst, i_vc0, i_vc1, i_vc2, i_vc3, i_vv0, i_vv1, i_vv2, i_vv3, i_vg, i_wct, i_wln, i_sd0, i_sd1, i_sd2, i_sd3, i_rln, i_rtx, i_rpl, i_rtk, i_cnv, i_pts, i_cik, i_und⟩ := id hI
  refine lv_aload_n hx hb d_Store_become_0 rfl (lv_at hl 0 rfl) ?_
  refine va_get (D := D) (ci := 3) (v := .ref (ad 37)) (C := "PageScribe$Store") (T := F_Store) (N := 5) hx hb hts i_Store hown hK hP 36 (ce_36 _ _ _) cl_3 0 (by decide) (hts _ k_1_107) (fun _ h9 => h9) rfl d_Store_become_1 ?_
  refine lv_aload_n hx hb d_Store_become_4 rfl (lv_at hl 1 rfl) ?_
  refine va_get (D := D) (ci := 3) (v := .ref (ad 13)) (C := "PageScribe$Store") (T := F_Store) (N := 5) hx hb hts i_Store hown hK hP 12 (ce_12 _ _ _) cl_3 0 (by decide) (hts _ k_1_107) (fun _ h9 => h9) rfl d_Store_become_5 ?_
  refine jc_cv (w := (fun u => u)) hK hP hD hS hA (va_runV (As := [.ref (ad 13)]) (rest := []) F (c_Row_become_37_13 l D T ad S  s.heap.size ⟨i_vst, i_vc0, i_vc1, i_vc2, i_vc3, i_vv0, i_vv1, i_vv2, i_vv3, i_vg, i_wct, i_wln, i_sd0, i_sd1, i_sd2, i_sd3, i_rln, i_rtx, i_rpl, i_rtk, i_cnv, i_pts, i_cik, i_und⟩) (j_cV (k := 1) (C := "PageScribe$Row") hts k_5_100 k_1_2 k_5_95 k_5_96 k_5_97 (by decide +kernel) ⟨Nat.le_of_ble_eq_true rfl, Nat.le_of_ble_eq_true rfl⟩) (j_preV (q0 := 37) (ci := 4) hK hP hD csc csc_all csc_nd cl_4 (ce_37 _ _ _) (fun _ _ _ _ h => h) (fun _ _ _ => trivial)) rfl rfl hl.1 rfl (lv_room (Nat.le_of_ble_eq_true rfl)) d_Store_become_8 ⟨Nat.le_of_ble_eq_true rfl, Nat.le_of_ble_eq_true rfl⟩) (fun S1 H locs hw1 hP hD hS => ?_)
  have hP : va_P D classes (cW T ad S1) H := hP
  have hD : va_D A (cW T ad S1) := hD
  obtain ⟨⟨i_vst, i_vc0, i_vc1, i_vc2, i_vc3, i_vv0, i_vv1, i_vv2, i_vv3, i_vg, i_wct, i_wln, i_sd0, i_sd1, i_sd2, i_sd3, i_rln, i_rtx, i_rpl, i_rtk, i_cnv, i_pts, i_cik, i_und⟩, kpcL_S1, kpcP_S1, kpcU_S1, kpcW_S1⟩ := hw1
  have kScL_S1 : kcL S S1 := kcL_t (show kcL S S from (kcL_r S)) kpcL_S1
  have kScP_S1 : kcP S S1 := kcP_t (show kcP S S from (kcP_r S)) kpcP_S1
  have kScU_S1 : kcU S S1 := kcU_t (show kcU S S from (kcU_r S)) kpcU_S1
  have kScW_S1 : kcW S S1 := kcW_t (show kcW S S from (kcW_r S)) kpcW_S1
  have nxr_length_S1 : (f_xr_length S1).toInt = (f_xr_length S).toInt := congrArg Int32.toInt kpcL_S1
  have nxr_length_S1 : (f_xr_length S1).toInt = (f_xr_length S).toInt := congrArg Int32.toInt kpcP_S1.1
  have nxr_place_S1 : (f_xr_place S1).toInt = (f_xr_place S).toInt := congrArg Int32.toInt kpcP_S1.2.1
  have nxe_underWay_S1 : (f_xe_underWay S1).toInt = (f_xe_underWay S).toInt := congrArg Int32.toInt kpcU_S1
  have nxp_columns_S1 : (f_xp_columns S1).toInt = (f_xp_columns S).toInt := congrArg Int32.toInt kpcW_S1.1
  have nxp_rows_S1 : (f_xp_rows S1).toInt = (f_xp_rows S).toInt := congrArg Int32.toInt kpcW_S1.2
  refine lv_aload_n hx hb d_Store_become_11 rfl (lv_at hl 0 rfl) ?_
  refine va_get (D := D) (ci := 3) (v := .ref (ad 44)) (C := "PageScribe$Store") (T := F_Store) (N := 5) hx hb hts i_Store hown hK hP 36 (ce_36 _ _ _) cl_3 4 (by decide) (hts _ k_1_114) (fun _ h9 => h9) rfl d_Store_become_12 ?_
  refine lv_aload_n hx hb d_Store_become_15 rfl (lv_at hl 1 rfl) ?_
  refine va_get (D := D) (ci := 3) (v := .ref (ad 20)) (C := "PageScribe$Store") (T := F_Store) (N := 5) hx hb hts i_Store hown hK hP 12 (ce_12 _ _ _) cl_3 4 (by decide) (hts _ k_1_114) (fun _ h9 => h9) rfl d_Store_become_16 ?_
  refine jc_cv (w := (fun u => u)) hK hP hD hS hA (va_runV (As := [.ref (ad 20)]) (rest := []) F (c_Row_become_44_20 l D T ad S1  H.size ⟨i_vst, i_vc0, i_vc1, i_vc2, i_vc3, i_vv0, i_vv1, i_vv2, i_vv3, i_vg, i_wct, i_wln, i_sd0, i_sd1, i_sd2, i_sd3, i_rln, i_rtx, i_rpl, i_rtk, i_cnv, i_pts, i_cik, i_und⟩) (j_cV (k := 1) (C := "PageScribe$Row") hts k_5_100 k_1_2 k_5_95 k_5_96 k_5_97 (by decide +kernel) ⟨Nat.le_of_ble_eq_true rfl, Nat.le_of_ble_eq_true rfl⟩) (j_preV (q0 := 44) (ci := 4) hK hP hD csc csc_all csc_nd cl_4 (ce_44 _ _ _) (fun _ _ _ _ h => h) (fun _ _ _ => trivial)) rfl rfl hl.1 rfl (lv_room (Nat.le_of_ble_eq_true rfl)) d_Store_become_19 ⟨Nat.le_of_ble_eq_true rfl, Nat.le_of_ble_eq_true rfl⟩) (fun S2 H locs hw2 hP hD hS => ?_)
  have hP : va_P D classes (cW T ad S2) H := hP
  have hD : va_D A (cW T ad S2) := hD
  obtain ⟨⟨i_vst, i_vc0, i_vc1, i_vc2, i_vc3, i_vv0, i_vv1, i_vv2, i_vv3, i_vg, i_wct, i_wln, i_sd0, i_sd1, i_sd2, i_sd3, i_rln, i_rtx, i_rpl, i_rtk, i_cnv, i_pts, i_cik, i_und⟩, kpcL_S2, kpcP_S2, kpcU_S2, kpcW_S2⟩ := hw2
  have kScL_S2 : kcL S S2 := kcL_t (show kcL S S1 from kScL_S1) kpcL_S2
  have kScP_S2 : kcP S S2 := kcP_t (show kcP S S1 from kScP_S1) kpcP_S2
  have kScU_S2 : kcU S S2 := kcU_t (show kcU S S1 from kScU_S1) kpcU_S2
  have kScW_S2 : kcW S S2 := kcW_t (show kcW S S1 from kScW_S1) kpcW_S2
  have nxr_length_S2 : (f_xr_length S2).toInt = (f_xr_length S1).toInt := congrArg Int32.toInt kpcL_S2
  have nxr_length_S2 : (f_xr_length S2).toInt = (f_xr_length S1).toInt := congrArg Int32.toInt kpcP_S2.1
  have nxr_place_S2 : (f_xr_place S2).toInt = (f_xr_place S1).toInt := congrArg Int32.toInt kpcP_S2.2.1
  have nxe_underWay_S2 : (f_xe_underWay S2).toInt = (f_xe_underWay S1).toInt := congrArg Int32.toInt kpcU_S2
  have nxp_columns_S2 : (f_xp_columns S2).toInt = (f_xp_columns S1).toInt := congrArg Int32.toInt kpcW_S2.1
  have nxp_rows_S2 : (f_xp_rows S2).toInt = (f_xp_rows S1).toInt := congrArg Int32.toInt kpcW_S2.2
  refine lv_aload_n hx hb d_Store_become_22 rfl (lv_at hl 1 rfl) ?_
  refine va_get (D := D) (ci := 3) (v := .ref (ad 17)) (C := "PageScribe$Store") (T := F_Store) (N := 5) hx hb hts i_Store hown hK hP 12 (ce_12 _ _ _) cl_3 1 (by decide) (hts _ k_1_111) (fun _ h9 => h9) rfl d_Store_become_23 ?_
  refine lv_iconst (v := 0) hx hb d_Store_become_26 (by decide) ?_
  refine lv_aload_n hx hb d_Store_become_27 rfl (lv_at hl 0 rfl) ?_
  refine va_get (D := D) (ci := 3) (v := .ref (ad 41)) (C := "PageScribe$Store") (T := F_Store) (N := 5) hx hb hts i_Store hown hK hP 36 (ce_36 _ _ _) cl_3 1 (by decide) (hts _ k_1_111) (fun _ h9 => h9) rfl d_Store_become_28 ?_
  refine lv_iconst (v := 0) hx hb d_Store_become_31 (by decide) ?_
  refine lv_bipush (v := 7) hx hb d_Store_become_32 (by decide) ?_
  refine va_copyi (sp := 0) (dp := 0) (n := 7) hx hb (hml.trans hl.1.symm) hown (hts _ k_5_105) (hts _ k_5_104) (hts _ k_5_103) (hts _ k_1_26) hK hP hD hS 17 41 0 0 (ce_17 _ _ _) (ce_41 _ _ _) rfl rfl rfl (by decide +kernel) (by decide +kernel) (by decide +kernel) (by decide +kernel) (by decide +kernel) (fun _ _ => rfl) (Nat.le_of_ble_eq_true rfl) (by decide +kernel) d_Store_become_34 (fun H locs hP hD hS => ?_)
  rw [cs_xd2_rooms] at hP hD
  have hP : va_P D classes (cW T ad ((S2.1, S2.2.1, S2.2.2.1, S2.2.2.2.1, ((a_xc2_k S2), (a_xc2_n S2), (a_xc2_r S2), (f_xc2_z S2), (va_cpy (a_xd0_rooms S2) (a_xd2_rooms S2) 0 0 7), (a_xd2_counts S2), (a_xd2_names S2), (a_xv2_k S2), (a_xv2_n S2), (a_xv2_r S2), (f_xv2_z S2)), S2.2.2.2.2.2.1, S2.2.2.2.2.2.2.1, S2.2.2.2.2.2.2.2.1, S2.2.2.2.2.2.2.2.2) : CS)) H := hP
  have hD : va_D A (cW T ad ((S2.1, S2.2.1, S2.2.2.1, S2.2.2.2.1, ((a_xc2_k S2), (a_xc2_n S2), (a_xc2_r S2), (f_xc2_z S2), (va_cpy (a_xd0_rooms S2) (a_xd2_rooms S2) 0 0 7), (a_xd2_counts S2), (a_xd2_names S2), (a_xv2_k S2), (a_xv2_n S2), (a_xv2_r S2), (f_xv2_z S2)), S2.2.2.2.2.2.1, S2.2.2.2.2.2.2.1, S2.2.2.2.2.2.2.2.1, S2.2.2.2.2.2.2.2.2) : CS)) := hD
  refine lv_aload_n hx hb d_Store_become_37 rfl (lv_at hl 1 rfl) ?_
  refine va_get (D := D) (ci := 3) (v := .ref (ad 18)) (C := "PageScribe$Store") (T := F_Store) (N := 5) hx hb hts i_Store hown hK hP 12 (ce_12 _ _ _) cl_3 2 (by decide) (hts _ k_1_112) (fun _ h9 => h9) rfl d_Store_become_38 ?_
  refine lv_iconst (v := 0) hx hb d_Store_become_41 (by decide) ?_
  refine lv_aload_n hx hb d_Store_become_42 rfl (lv_at hl 0 rfl) ?_
  refine va_get (D := D) (ci := 3) (v := .ref (ad 42)) (C := "PageScribe$Store") (T := F_Store) (N := 5) hx hb hts i_Store hown hK hP 36 (ce_36 _ _ _) cl_3 2 (by decide) (hts _ k_1_112) (fun _ h9 => h9) rfl d_Store_become_43 ?_
  refine lv_iconst (v := 0) hx hb d_Store_become_46 (by decide) ?_
  refine lv_bipush (v := 7) hx hb d_Store_become_47 (by decide) ?_
  refine va_copyi (sp := 0) (dp := 0) (n := 7) hx hb (hml.trans hl.1.symm) hown (hts _ k_5_105) (hts _ k_5_104) (hts _ k_5_103) (hts _ k_1_26) hK hP hD hS 18 42 0 0 (ce_18 _ _ _) (ce_42 _ _ _) rfl rfl rfl (by decide +kernel) (by decide +kernel) (by decide +kernel) (by decide +kernel) (by decide +kernel) (fun _ _ => rfl) (Nat.le_of_ble_eq_true rfl) (by decide +kernel) d_Store_become_49 (fun H locs hP hD hS => ?_)
  rw [cs_xd2_counts] at hP hD
  have hP : va_P D classes (cW T ad ((S2.1, S2.2.1, S2.2.2.1, S2.2.2.2.1, ((a_xc2_k S2), (a_xc2_n S2), (a_xc2_r S2), (f_xc2_z S2), (va_cpy (a_xd0_rooms S2) (a_xd2_rooms S2) 0 0 7), (va_cpy (a_xd0_counts S2) (a_xd2_counts S2) 0 0 7), (a_xd2_names S2), (a_xv2_k S2), (a_xv2_n S2), (a_xv2_r S2), (f_xv2_z S2)), S2.2.2.2.2.2.1, S2.2.2.2.2.2.2.1, S2.2.2.2.2.2.2.2.1, S2.2.2.2.2.2.2.2.2) : CS)) H := hP
  have hD : va_D A (cW T ad ((S2.1, S2.2.1, S2.2.2.1, S2.2.2.2.1, ((a_xc2_k S2), (a_xc2_n S2), (a_xc2_r S2), (f_xc2_z S2), (va_cpy (a_xd0_rooms S2) (a_xd2_rooms S2) 0 0 7), (va_cpy (a_xd0_counts S2) (a_xd2_counts S2) 0 0 7), (a_xd2_names S2), (a_xv2_k S2), (a_xv2_n S2), (a_xv2_r S2), (f_xv2_z S2)), S2.2.2.2.2.2.1, S2.2.2.2.2.2.2.1, S2.2.2.2.2.2.2.2.1, S2.2.2.2.2.2.2.2.2) : CS)) := hD
  refine lv_aload_n hx hb d_Store_become_52 rfl (lv_at hl 1 rfl) ?_
  refine va_get (D := D) (ci := 3) (v := .ref (ad 19)) (C := "PageScribe$Store") (T := F_Store) (N := 5) hx hb hts i_Store hown hK hP 12 (ce_12 _ _ _) cl_3 3 (by decide) (hts _ k_1_113) (fun _ h9 => h9) rfl d_Store_become_53 ?_
  refine lv_iconst (v := 0) hx hb d_Store_become_56 (by decide) ?_
  refine lv_aload_n hx hb d_Store_become_57 rfl (lv_at hl 0 rfl) ?_
  refine va_get (D := D) (ci := 3) (v := .ref (ad 43)) (C := "PageScribe$Store") (T := F_Store) (N := 5) hx hb hts i_Store hown hK hP 36 (ce_36 _ _ _) cl_3 3 (by decide) (hts _ k_1_113) (fun _ h9 => h9) rfl d_Store_become_58 ?_
  refine lv_iconst (v := 0) hx hb d_Store_become_61 (by decide) ?_
  refine lv_bipush (v := 80) hx hb d_Store_become_62 (by decide) ?_
  refine va_copyi (sp := 0) (dp := 0) (n := 80) hx hb (hml.trans hl.1.symm) hown (hts _ k_5_105) (hts _ k_5_104) (hts _ k_5_103) (hts _ k_1_26) hK hP hD hS 19 43 0 0 (ce_19 _ _ _) (ce_43 _ _ _) rfl rfl rfl (by decide +kernel) (by decide +kernel) (by decide +kernel) (by decide +kernel) (by decide +kernel) (fun _ _ => rfl) (Nat.le_of_ble_eq_true rfl) (by decide +kernel) d_Store_become_64 (fun H locs hP hD hS => ?_)
  rw [cs_xd2_names] at hP hD
  have hP : va_P D classes (cW T ad ((S2.1, S2.2.1, S2.2.2.1, S2.2.2.2.1, ((a_xc2_k S2), (a_xc2_n S2), (a_xc2_r S2), (f_xc2_z S2), (va_cpy (a_xd0_rooms S2) (a_xd2_rooms S2) 0 0 7), (va_cpy (a_xd0_counts S2) (a_xd2_counts S2) 0 0 7), (va_cpy (a_xd0_names S2) (a_xd2_names S2) 0 0 80), (a_xv2_k S2), (a_xv2_n S2), (a_xv2_r S2), (f_xv2_z S2)), S2.2.2.2.2.2.1, S2.2.2.2.2.2.2.1, S2.2.2.2.2.2.2.2.1, S2.2.2.2.2.2.2.2.2) : CS)) H := hP
  have hD : va_D A (cW T ad ((S2.1, S2.2.1, S2.2.2.1, S2.2.2.2.1, ((a_xc2_k S2), (a_xc2_n S2), (a_xc2_r S2), (f_xc2_z S2), (va_cpy (a_xd0_rooms S2) (a_xd2_rooms S2) 0 0 7), (va_cpy (a_xd0_counts S2) (a_xd2_counts S2) 0 0 7), (va_cpy (a_xd0_names S2) (a_xd2_names S2) 0 0 80), (a_xv2_k S2), (a_xv2_n S2), (a_xv2_r S2), (f_xv2_z S2)), S2.2.2.2.2.2.1, S2.2.2.2.2.2.2.1, S2.2.2.2.2.2.2.2.1, S2.2.2.2.2.2.2.2.2) : CS)) := hD
  exact j_vret F hr hlocks hK hS ((S2.1, S2.2.1, S2.2.2.1, S2.2.2.2.1, ((a_xc2_k S2), (a_xc2_n S2), (a_xc2_r S2), (f_xc2_z S2), (va_cpy (a_xd0_rooms S2) (a_xd2_rooms S2) 0 0 7), (va_cpy (a_xd0_counts S2) (a_xd2_counts S2) 0 0 7), (va_cpy (a_xd0_names S2) (a_xd2_names S2) 0 0 80), (a_xv2_k S2), (a_xv2_n S2), (a_xv2_r S2), (f_xv2_z S2)), S2.2.2.2.2.2.1, S2.2.2.2.2.2.2.1, S2.2.2.2.2.2.2.2.1, S2.2.2.2.2.2.2.2.2) : CS) ⟨⟨i_vst, i_vc0, i_vc1, i_vc2, i_vc3, i_vv0, i_vv1, i_vv2, i_vv3, i_vg, i_wct, i_wln, i_sd0, i_sd1, (cpy_sd i_sd0), i_sd3, i_rln, i_rtx, i_rpl, i_rtk, i_cnv, i_pts, i_cik, i_und⟩, kScL_S2, kScP_S2, kScU_S2, kScW_S2⟩ hP hD d_Store_become_67
set_option maxHeartbeats 4000000 in
set_option maxRecDepth 100000 in
theorem c_Row_become_13_37 (l : Launch) (D : va_G) (T : Nat → ClassId) (ad : Nat → Nat) (S : CS)  (sz : Nat)  (hI : CIv S) : Met l ⟨"PageScribe$Row", "become", "(LPageScribe$Row;)V"⟩ (wy ⟨"PageScribe$Row", "become", "(LPageScribe$Row;)V"⟩ prog_8_method_9_code 3 none) ({ frames := 1, cells := 0, slots := 0, locals := 70 }) (va_Pc [.ref (ad 13), .ref (ad 37)] (Pw D T (cW T ad S) sz E0)) (va_Qv (fun (u : CS) => CIv u ∧ kcL S u ∧ kcP S u ∧ kcU S u ∧ kcW S u) (fun u t => Bw D T (va_A (cW T ad S) sz) (cW T ad u) t) (va_A (cW T ad S) sz)) 0 0 (va_A (cW T ad S) sz) := by
  refine j_met (y := ⟨"PageScribe$Row", "become", "(LPageScribe$Row;)V"⟩) (b := prog_8_method_9_code) (n := 3) (ret := none) (av := [.ref (ad 13), .ref (ad 37)]) (Qc := fun A => va_Qv (fun (u : CS) => CIv u ∧ kcL S u ∧ kcP S u ∧ kcU S u ∧ kcW S u) (fun u t => Bw D T A (cW T ad u) t) A) (by decide +kernel) (Nat.le_of_ble_eq_true rfl) (fun p e s m args below meth c A ls F hr hlocks hnm hK hP hD hS hA hN hE hl => ?_)
  obtain ⟨hx, hb, hml, hown, hts⟩ := id F
  have hl : lv_has ls 3 [(0, .ref (ad 13)), (1, .ref (ad 37))] := hl
  obtain ⟨i_vst, i_vc0, i_vc1, i_vc2, i_vc3, i_vv0, i_vv1, i_vv2, i_vv3, i_vg, i_wct, i_wln, i_sd0, i_sd1, i_sd2, i_sd3, i_rln, i_rtx, i_rpl, i_rtk, i_cnv, i_pts, i_cik, i_und⟩ := id hI
  refine lv_aload_n hx hb d_Row_become_0 rfl (lv_at hl 0 rfl) ?_
  refine va_get (D := D) (ci := 4) (v := .ref (ad 14)) (C := "PageScribe$Row") (T := F_Row) (N := 4) hx hb hts i_Row hown hK hP 13 (ce_13 _ _ _) cl_4 0 (by decide) (hts _ k_1_46) (fun _ h9 => h9) rfl d_Row_become_1 ?_
  refine va_alen (v := 160) hx hb hK hP 14 0 (ce_14 _ _ _) rfl (show Int32.ofNat 160 = 160 from by decide +kernel) d_Row_become_4 ?_
  refine lv_aload_n hx hb d_Row_become_5 rfl (lv_at hl 1 rfl) ?_
  refine va_get (D := D) (ci := 4) (v := .ref (ad 38)) (C := "PageScribe$Row") (T := F_Row) (N := 4) hx hb hts i_Row hown hK hP 37 (ce_37 _ _ _) cl_4 0 (by decide) (hts _ k_1_46) (fun _ h9 => h9) rfl d_Row_become_6 ?_
  refine va_alen (v := 160) hx hb hK hP 38 0 (ce_38 _ _ _) rfl (show Int32.ofNat 160 = 160 from by decide +kernel) d_Row_become_9 ?_
  refine j_ci (wc := []) (wr := (cW T ad S)) hK hP hD hS hA [] csc rfl csc_all csc_nd (fun _ _ => List.not_mem_nil) (va_runS (As := [.int 160, .int 160]) (rest := []) F (c_Math_min l D T (160 : Int32) (160 : Int32)  s.heap.size) (j_cS (k := 2) hts k_3_221 k_1_21 k_5_101 k_3_220 (by decide +kernel) ⟨Nat.le_of_ble_eq_true rfl, Nat.le_of_ble_eq_true rfl⟩) (j_preS hK hP hD [] rfl (by decide) (fun _ _ _ _ h => h) (fun _ _ _ => trivial)) rfl rfl hl.1 rfl (lv_room (Nat.le_of_ble_eq_true rfl)) d_Row_become_10 ⟨Nat.le_of_ble_eq_true rfl, Nat.le_of_ble_eq_true rfl⟩) (fun rv1 u1 H locs hw1 hP hD hS => ?_)
  have hP : va_P D classes (cW T ad S) H := hP
  have hD : va_D A (cW T ad S) := hD
  have qhw1 : rv1.toInt ≤ 160 ∧ rv1.toInt ≤ 160 ∧ (rv1.toInt = 160 ∨ rv1.toInt = 160) := by simpa only [tI_160] using hw1
  have rrv1 := zt_rng rv1
  refine j_eqi (y := 160) (Int32.toInt_inj.mp (by have := tI_160; omega)) ?_
  refine lv_istore_n (lv' := [(2, .int 160), (0, .ref (ad 13)), (1, .ref (ad 37))]) hx hb d_Row_become_13 rfl hl (by decide) rfl (fun ls hl => ?_)
  refine lv_aload_n hx hb d_Row_become_14 rfl (lv_at hl 2 rfl) ?_
  refine va_get (D := D) (ci := 4) (v := .ref (ad 38)) (C := "PageScribe$Row") (T := F_Row) (N := 4) hx hb hts i_Row hown hK hP 37 (ce_37 _ _ _) cl_4 0 (by decide) (hts _ k_1_46) (fun _ h9 => h9) rfl d_Row_become_15 ?_
  refine lv_iconst (v := 0) hx hb d_Row_become_18 (by decide) ?_
  refine lv_aload_n hx hb d_Row_become_19 rfl (lv_at hl 1 rfl) ?_
  refine va_get (D := D) (ci := 4) (v := .ref (ad 14)) (C := "PageScribe$Row") (T := F_Row) (N := 4) hx hb hts i_Row hown hK hP 13 (ce_13 _ _ _) cl_4 0 (by decide) (hts _ k_1_46) (fun _ h9 => h9) rfl d_Row_become_20 ?_
  refine lv_iconst (v := 0) hx hb d_Row_become_23 (by decide) ?_
  refine lv_iload_n hx hb d_Row_become_24 rfl (lv_at hl 0 rfl) ?_
  refine va_copyi (sp := 0) (dp := 0) (n := 160) hx hb (hml.trans hl.1.symm) hown (hts _ k_5_102) (hts _ k_5_104) (hts _ k_5_103) (hts _ k_1_26) hK hP hD hS 38 14 0 0 (ce_38 _ _ _) (ce_14 _ _ _) rfl rfl rfl (by decide +kernel) (by decide +kernel) (by decide +kernel) (by decide +kernel) (by decide +kernel) (fun _ _ => rfl) (Nat.le_of_ble_eq_true rfl) (by decide +kernel) d_Row_become_25 (fun H locs hP hD hS => ?_)
  rw [cs_xc0_k] at hP hD
  have hP : va_P D classes (cW T ad ((S.1, S.2.1, ((va_cpy (a_xc2_k S) (a_xc0_k S) 0 0 160), (a_xc0_n S), (a_xc0_r S), (f_xc0_z S), (a_xd0_rooms S), (a_xd0_counts S), (a_xd0_names S), (a_xv0_k S), (a_xv0_n S), (a_xv0_r S), (f_xv0_z S)), S.2.2.2.1, S.2.2.2.2.1, S.2.2.2.2.2.1, S.2.2.2.2.2.2.1, S.2.2.2.2.2.2.2.1, S.2.2.2.2.2.2.2.2) : CS)) H := hP
  have hD : va_D A (cW T ad ((S.1, S.2.1, ((va_cpy (a_xc2_k S) (a_xc0_k S) 0 0 160), (a_xc0_n S), (a_xc0_r S), (f_xc0_z S), (a_xd0_rooms S), (a_xd0_counts S), (a_xd0_names S), (a_xv0_k S), (a_xv0_n S), (a_xv0_r S), (f_xv0_z S)), S.2.2.2.1, S.2.2.2.2.1, S.2.2.2.2.2.1, S.2.2.2.2.2.2.1, S.2.2.2.2.2.2.2.1, S.2.2.2.2.2.2.2.2) : CS)) := hD
  refine lv_aload_n hx hb d_Row_become_28 rfl (lv_at hl 2 rfl) ?_
  refine va_get (D := D) (ci := 4) (v := .ref (ad 39)) (C := "PageScribe$Row") (T := F_Row) (N := 4) hx hb hts i_Row hown hK hP 37 (ce_37 _ _ _) cl_4 1 (by decide) (hts _ k_1_47) (fun _ h9 => h9) rfl d_Row_become_29 ?_
  refine lv_iconst (v := 0) hx hb d_Row_become_32 (by decide) ?_
  refine lv_aload_n hx hb d_Row_become_33 rfl (lv_at hl 1 rfl) ?_
  refine va_get (D := D) (ci := 4) (v := .ref (ad 15)) (C := "PageScribe$Row") (T := F_Row) (N := 4) hx hb hts i_Row hown hK hP 13 (ce_13 _ _ _) cl_4 1 (by decide) (hts _ k_1_47) (fun _ h9 => h9) rfl d_Row_become_34 ?_
  refine lv_iconst (v := 0) hx hb d_Row_become_37 (by decide) ?_
  refine lv_iload_n hx hb d_Row_become_38 rfl (lv_at hl 0 rfl) ?_
  refine va_copyi (sp := 0) (dp := 0) (n := 160) hx hb (hml.trans hl.1.symm) hown (hts _ k_5_102) (hts _ k_5_104) (hts _ k_5_103) (hts _ k_1_26) hK hP hD hS 39 15 0 0 (ce_39 _ _ _) (ce_15 _ _ _) rfl rfl rfl (by decide +kernel) (by decide +kernel) (by decide +kernel) (by decide +kernel) (by decide +kernel) (fun _ _ => rfl) (Nat.le_of_ble_eq_true rfl) (by decide +kernel) d_Row_become_39 (fun H locs hP hD hS => ?_)
  rw [cs_xc0_n] at hP hD
  have hP : va_P D classes (cW T ad ((S.1, S.2.1, ((va_cpy (a_xc2_k S) (a_xc0_k S) 0 0 160), (va_cpy (a_xc2_n S) (a_xc0_n S) 0 0 160), (a_xc0_r S), (f_xc0_z S), (a_xd0_rooms S), (a_xd0_counts S), (a_xd0_names S), (a_xv0_k S), (a_xv0_n S), (a_xv0_r S), (f_xv0_z S)), S.2.2.2.1, S.2.2.2.2.1, S.2.2.2.2.2.1, S.2.2.2.2.2.2.1, S.2.2.2.2.2.2.2.1, S.2.2.2.2.2.2.2.2) : CS)) H := hP
  have hD : va_D A (cW T ad ((S.1, S.2.1, ((va_cpy (a_xc2_k S) (a_xc0_k S) 0 0 160), (va_cpy (a_xc2_n S) (a_xc0_n S) 0 0 160), (a_xc0_r S), (f_xc0_z S), (a_xd0_rooms S), (a_xd0_counts S), (a_xd0_names S), (a_xv0_k S), (a_xv0_n S), (a_xv0_r S), (f_xv0_z S)), S.2.2.2.1, S.2.2.2.2.1, S.2.2.2.2.2.1, S.2.2.2.2.2.2.1, S.2.2.2.2.2.2.2.1, S.2.2.2.2.2.2.2.2) : CS)) := hD
  refine lv_aload_n hx hb d_Row_become_42 rfl (lv_at hl 2 rfl) ?_
  refine va_get (D := D) (ci := 4) (v := .ref (ad 40)) (C := "PageScribe$Row") (T := F_Row) (N := 4) hx hb hts i_Row hown hK hP 37 (ce_37 _ _ _) cl_4 2 (by decide) (hts _ k_1_48) (fun _ h9 => h9) rfl d_Row_become_43 ?_
  refine lv_iconst (v := 0) hx hb d_Row_become_46 (by decide) ?_
  refine lv_aload_n hx hb d_Row_become_47 rfl (lv_at hl 1 rfl) ?_
  refine va_get (D := D) (ci := 4) (v := .ref (ad 16)) (C := "PageScribe$Row") (T := F_Row) (N := 4) hx hb hts i_Row hown hK hP 13 (ce_13 _ _ _) cl_4 2 (by decide) (hts _ k_1_48) (fun _ h9 => h9) rfl d_Row_become_48 ?_
  refine lv_iconst (v := 0) hx hb d_Row_become_51 (by decide) ?_
  refine lv_iload_n hx hb d_Row_become_52 rfl (lv_at hl 0 rfl) ?_
  refine va_copyd (sp := 0) (dp := 0) (n := 160) hx hb (hml.trans hl.1.symm) hown (hts _ k_5_102) (hts _ k_5_104) (hts _ k_5_103) (hts _ k_1_26) hK hP hD hS 40 16 3 3 (ce_40 _ _ _) (ce_16 _ _ _) rfl rfl rfl (by decide +kernel) (by decide +kernel) (by decide +kernel) (by decide +kernel) (by decide +kernel) (fun _ _ => rfl) (Nat.le_of_ble_eq_true rfl) (by decide +kernel) d_Row_become_53 (fun H locs hP hD hS => ?_)
  rw [cs_xc0_r] at hP hD
  have hP : va_P D classes (cW T ad ((S.1, S.2.1, ((va_cpy (a_xc2_k S) (a_xc0_k S) 0 0 160), (va_cpy (a_xc2_n S) (a_xc0_n S) 0 0 160), (va_cpy (a_xc2_r S) (a_xc0_r S) 0 0 160), (f_xc0_z S), (a_xd0_rooms S), (a_xd0_counts S), (a_xd0_names S), (a_xv0_k S), (a_xv0_n S), (a_xv0_r S), (f_xv0_z S)), S.2.2.2.1, S.2.2.2.2.1, S.2.2.2.2.2.1, S.2.2.2.2.2.2.1, S.2.2.2.2.2.2.2.1, S.2.2.2.2.2.2.2.2) : CS)) H := hP
  have hD : va_D A (cW T ad ((S.1, S.2.1, ((va_cpy (a_xc2_k S) (a_xc0_k S) 0 0 160), (va_cpy (a_xc2_n S) (a_xc0_n S) 0 0 160), (va_cpy (a_xc2_r S) (a_xc0_r S) 0 0 160), (f_xc0_z S), (a_xd0_rooms S), (a_xd0_counts S), (a_xd0_names S), (a_xv0_k S), (a_xv0_n S), (a_xv0_r S), (f_xv0_z S)), S.2.2.2.1, S.2.2.2.2.1, S.2.2.2.2.2.1, S.2.2.2.2.2.2.1, S.2.2.2.2.2.2.2.1, S.2.2.2.2.2.2.2.2) : CS)) := hD
  refine lv_aload_n hx hb d_Row_become_56 rfl (lv_at hl 1 rfl) ?_
  refine lv_aload_n hx hb d_Row_become_57 rfl (lv_at hl 2 rfl) ?_
  refine va_get (D := D) (ci := 4) (v := .int (f_xc2_z S)) (C := "PageScribe$Row") (T := F_Row) (N := 4) hx hb hts i_Row hown hK hP 37 (ce_37 _ _ _) cl_4 3 (by decide) (hts _ k_1_49) (fun _ h9 => h9) rfl d_Row_become_58 ?_
  refine va_put (D := D) (ci := 4) (v := .int (f_xc2_z S)) (ty := .int) (C := "PageScribe$Row") (T := F_Row) (N := 4) hx hb hts i_Row t_Row t_Row_ok n_Row hown hK hP hD hS 13 (ce_13 _ _ _) cl_4 3 (by decide) (hts _ k_1_49) (fun _ h9 => h9) rfl (by decide +kernel) rfl rfl (Nat.le_of_ble_eq_true rfl) d_Row_become_61 (fun H locs hP hD hS => ?_)
  rw [cp_xc0_z] at hP hD
  have hP : va_P D classes (cW T ad ((S.1, S.2.1, ((va_cpy (a_xc2_k S) (a_xc0_k S) 0 0 160), (va_cpy (a_xc2_n S) (a_xc0_n S) 0 0 160), (va_cpy (a_xc2_r S) (a_xc0_r S) 0 0 160), (f_xc2_z S), (a_xd0_rooms S), (a_xd0_counts S), (a_xd0_names S), (a_xv0_k S), (a_xv0_n S), (a_xv0_r S), (f_xv0_z S)), S.2.2.2.1, S.2.2.2.2.1, S.2.2.2.2.2.1, S.2.2.2.2.2.2.1, S.2.2.2.2.2.2.2.1, S.2.2.2.2.2.2.2.2) : CS)) H := hP
  have hD : va_D A (cW T ad ((S.1, S.2.1, ((va_cpy (a_xc2_k S) (a_xc0_k S) 0 0 160), (va_cpy (a_xc2_n S) (a_xc0_n S) 0 0 160), (va_cpy (a_xc2_r S) (a_xc0_r S) 0 0 160), (f_xc2_z S), (a_xd0_rooms S), (a_xd0_counts S), (a_xd0_names S), (a_xv0_k S), (a_xv0_n S), (a_xv0_r S), (f_xv0_z S)), S.2.2.2.1, S.2.2.2.2.1, S.2.2.2.2.2.1, S.2.2.2.2.2.2.1, S.2.2.2.2.2.2.2.1, S.2.2.2.2.2.2.2.2) : CS)) := hD
  exact j_vret F hr hlocks hK hS ((S.1, S.2.1, ((va_cpy (a_xc2_k S) (a_xc0_k S) 0 0 160), (va_cpy (a_xc2_n S) (a_xc0_n S) 0 0 160), (va_cpy (a_xc2_r S) (a_xc0_r S) 0 0 160), (f_xc2_z S), (a_xd0_rooms S), (a_xd0_counts S), (a_xd0_names S), (a_xv0_k S), (a_xv0_n S), (a_xv0_r S), (f_xv0_z S)), S.2.2.2.1, S.2.2.2.2.1, S.2.2.2.2.2.1, S.2.2.2.2.2.2.1, S.2.2.2.2.2.2.2.1, S.2.2.2.2.2.2.2.2) : CS) ⟨⟨i_vst, (cpy_dB i_vc2), i_vc1, i_vc2, i_vc3, i_vv0, i_vv1, i_vv2, i_vv3, i_vg, i_wct, i_wln, i_sd0, i_sd1, i_sd2, i_sd3, i_rln, i_rtx, i_rpl, i_rtk, i_cnv, i_pts, i_cik, i_und⟩, (kcL_r S), (kcP_r S), (kcU_r S), (kcW_r S)⟩ hP hD d_Row_become_64
set_option maxHeartbeats 4000000 in
set_option maxRecDepth 100000 in
theorem c_Row_become_20_44 (l : Launch) (D : va_G) (T : Nat → ClassId) (ad : Nat → Nat) (S : CS)  (sz : Nat)  (hI : CIv S) : Met l ⟨"PageScribe$Row", "become", "(LPageScribe$Row;)V"⟩ (wy ⟨"PageScribe$Row", "become", "(LPageScribe$Row;)V"⟩ prog_8_method_9_code 3 none) ({ frames := 1, cells := 0, slots := 0, locals := 70 }) (va_Pc [.ref (ad 20), .ref (ad 44)] (Pw D T (cW T ad S) sz E0)) (va_Qv (fun (u : CS) => CIv u ∧ kcL S u ∧ kcP S u ∧ kcU S u ∧ kcW S u) (fun u t => Bw D T (va_A (cW T ad S) sz) (cW T ad u) t) (va_A (cW T ad S) sz)) 0 0 (va_A (cW T ad S) sz) := by
  refine j_met (y := ⟨"PageScribe$Row", "become", "(LPageScribe$Row;)V"⟩) (b := prog_8_method_9_code) (n := 3) (ret := none) (av := [.ref (ad 20), .ref (ad 44)]) (Qc := fun A => va_Qv (fun (u : CS) => CIv u ∧ kcL S u ∧ kcP S u ∧ kcU S u ∧ kcW S u) (fun u t => Bw D T A (cW T ad u) t) A) (by decide +kernel) (Nat.le_of_ble_eq_true rfl) (fun p e s m args below meth c A ls F hr hlocks hnm hK hP hD hS hA hN hE hl => ?_)
  obtain ⟨hx, hb, hml, hown, hts⟩ := id F
  have hl : lv_has ls 3 [(0, .ref (ad 20)), (1, .ref (ad 44))] := hl
  obtain ⟨i_vst, i_vc0, i_vc1, i_vc2, i_vc3, i_vv0, i_vv1, i_vv2, i_vv3, i_vg, i_wct, i_wln, i_sd0, i_sd1, i_sd2, i_sd3, i_rln, i_rtx, i_rpl, i_rtk, i_cnv, i_pts, i_cik, i_und⟩ := id hI
  refine lv_aload_n hx hb d_Row_become_0 rfl (lv_at hl 0 rfl) ?_
  refine va_get (D := D) (ci := 4) (v := .ref (ad 21)) (C := "PageScribe$Row") (T := F_Row) (N := 4) hx hb hts i_Row hown hK hP 20 (ce_20 _ _ _) cl_4 0 (by decide) (hts _ k_1_46) (fun _ h9 => h9) rfl d_Row_become_1 ?_
  refine va_alen (v := 80) hx hb hK hP 21 0 (ce_21 _ _ _) rfl (show Int32.ofNat 80 = 80 from by decide +kernel) d_Row_become_4 ?_
  refine lv_aload_n hx hb d_Row_become_5 rfl (lv_at hl 1 rfl) ?_
  refine va_get (D := D) (ci := 4) (v := .ref (ad 45)) (C := "PageScribe$Row") (T := F_Row) (N := 4) hx hb hts i_Row hown hK hP 44 (ce_44 _ _ _) cl_4 0 (by decide) (hts _ k_1_46) (fun _ h9 => h9) rfl d_Row_become_6 ?_
  refine va_alen (v := 80) hx hb hK hP 45 0 (ce_45 _ _ _) rfl (show Int32.ofNat 80 = 80 from by decide +kernel) d_Row_become_9 ?_
  refine j_ci (wc := []) (wr := (cW T ad S)) hK hP hD hS hA [] csc rfl csc_all csc_nd (fun _ _ => List.not_mem_nil) (va_runS (As := [.int 80, .int 80]) (rest := []) F (c_Math_min l D T (80 : Int32) (80 : Int32)  s.heap.size) (j_cS (k := 2) hts k_3_221 k_1_21 k_5_101 k_3_220 (by decide +kernel) ⟨Nat.le_of_ble_eq_true rfl, Nat.le_of_ble_eq_true rfl⟩) (j_preS hK hP hD [] rfl (by decide) (fun _ _ _ _ h => h) (fun _ _ _ => trivial)) rfl rfl hl.1 rfl (lv_room (Nat.le_of_ble_eq_true rfl)) d_Row_become_10 ⟨Nat.le_of_ble_eq_true rfl, Nat.le_of_ble_eq_true rfl⟩) (fun rv1 u1 H locs hw1 hP hD hS => ?_)
  have hP : va_P D classes (cW T ad S) H := hP
  have hD : va_D A (cW T ad S) := hD
  have qhw1 : rv1.toInt ≤ 80 ∧ rv1.toInt ≤ 80 ∧ (rv1.toInt = 80 ∨ rv1.toInt = 80) := by simpa only [tI_80] using hw1
  have rrv1 := zt_rng rv1
  refine j_eqi (y := 80) (Int32.toInt_inj.mp (by have := tI_80; omega)) ?_
  refine lv_istore_n (lv' := [(2, .int 80), (0, .ref (ad 20)), (1, .ref (ad 44))]) hx hb d_Row_become_13 rfl hl (by decide) rfl (fun ls hl => ?_)
  refine lv_aload_n hx hb d_Row_become_14 rfl (lv_at hl 2 rfl) ?_
  refine va_get (D := D) (ci := 4) (v := .ref (ad 45)) (C := "PageScribe$Row") (T := F_Row) (N := 4) hx hb hts i_Row hown hK hP 44 (ce_44 _ _ _) cl_4 0 (by decide) (hts _ k_1_46) (fun _ h9 => h9) rfl d_Row_become_15 ?_
  refine lv_iconst (v := 0) hx hb d_Row_become_18 (by decide) ?_
  refine lv_aload_n hx hb d_Row_become_19 rfl (lv_at hl 1 rfl) ?_
  refine va_get (D := D) (ci := 4) (v := .ref (ad 21)) (C := "PageScribe$Row") (T := F_Row) (N := 4) hx hb hts i_Row hown hK hP 20 (ce_20 _ _ _) cl_4 0 (by decide) (hts _ k_1_46) (fun _ h9 => h9) rfl d_Row_become_20 ?_
  refine lv_iconst (v := 0) hx hb d_Row_become_23 (by decide) ?_
  refine lv_iload_n hx hb d_Row_become_24 rfl (lv_at hl 0 rfl) ?_
  refine va_copyi (sp := 0) (dp := 0) (n := 80) hx hb (hml.trans hl.1.symm) hown (hts _ k_5_102) (hts _ k_5_104) (hts _ k_5_103) (hts _ k_1_26) hK hP hD hS 45 21 0 0 (ce_45 _ _ _) (ce_21 _ _ _) rfl rfl rfl (by decide +kernel) (by decide +kernel) (by decide +kernel) (by decide +kernel) (by decide +kernel) (fun _ _ => rfl) (Nat.le_of_ble_eq_true rfl) (by decide +kernel) d_Row_become_25 (fun H locs hP hD hS => ?_)
  rw [cs_xv0_k] at hP hD
  have hP : va_P D classes (cW T ad ((S.1, S.2.1, ((a_xc0_k S), (a_xc0_n S), (a_xc0_r S), (f_xc0_z S), (a_xd0_rooms S), (a_xd0_counts S), (a_xd0_names S), (va_cpy (a_xv2_k S) (a_xv0_k S) 0 0 80), (a_xv0_n S), (a_xv0_r S), (f_xv0_z S)), S.2.2.2.1, S.2.2.2.2.1, S.2.2.2.2.2.1, S.2.2.2.2.2.2.1, S.2.2.2.2.2.2.2.1, S.2.2.2.2.2.2.2.2) : CS)) H := hP
  have hD : va_D A (cW T ad ((S.1, S.2.1, ((a_xc0_k S), (a_xc0_n S), (a_xc0_r S), (f_xc0_z S), (a_xd0_rooms S), (a_xd0_counts S), (a_xd0_names S), (va_cpy (a_xv2_k S) (a_xv0_k S) 0 0 80), (a_xv0_n S), (a_xv0_r S), (f_xv0_z S)), S.2.2.2.1, S.2.2.2.2.1, S.2.2.2.2.2.1, S.2.2.2.2.2.2.1, S.2.2.2.2.2.2.2.1, S.2.2.2.2.2.2.2.2) : CS)) := hD
  refine lv_aload_n hx hb d_Row_become_28 rfl (lv_at hl 2 rfl) ?_
  refine va_get (D := D) (ci := 4) (v := .ref (ad 46)) (C := "PageScribe$Row") (T := F_Row) (N := 4) hx hb hts i_Row hown hK hP 44 (ce_44 _ _ _) cl_4 1 (by decide) (hts _ k_1_47) (fun _ h9 => h9) rfl d_Row_become_29 ?_
  refine lv_iconst (v := 0) hx hb d_Row_become_32 (by decide) ?_
  refine lv_aload_n hx hb d_Row_become_33 rfl (lv_at hl 1 rfl) ?_
  refine va_get (D := D) (ci := 4) (v := .ref (ad 22)) (C := "PageScribe$Row") (T := F_Row) (N := 4) hx hb hts i_Row hown hK hP 20 (ce_20 _ _ _) cl_4 1 (by decide) (hts _ k_1_47) (fun _ h9 => h9) rfl d_Row_become_34 ?_
  refine lv_iconst (v := 0) hx hb d_Row_become_37 (by decide) ?_
  refine lv_iload_n hx hb d_Row_become_38 rfl (lv_at hl 0 rfl) ?_
  refine va_copyi (sp := 0) (dp := 0) (n := 80) hx hb (hml.trans hl.1.symm) hown (hts _ k_5_102) (hts _ k_5_104) (hts _ k_5_103) (hts _ k_1_26) hK hP hD hS 46 22 0 0 (ce_46 _ _ _) (ce_22 _ _ _) rfl rfl rfl (by decide +kernel) (by decide +kernel) (by decide +kernel) (by decide +kernel) (by decide +kernel) (fun _ _ => rfl) (Nat.le_of_ble_eq_true rfl) (by decide +kernel) d_Row_become_39 (fun H locs hP hD hS => ?_)
  rw [cs_xv0_n] at hP hD
  have hP : va_P D classes (cW T ad ((S.1, S.2.1, ((a_xc0_k S), (a_xc0_n S), (a_xc0_r S), (f_xc0_z S), (a_xd0_rooms S), (a_xd0_counts S), (a_xd0_names S), (va_cpy (a_xv2_k S) (a_xv0_k S) 0 0 80), (va_cpy (a_xv2_n S) (a_xv0_n S) 0 0 80), (a_xv0_r S), (f_xv0_z S)), S.2.2.2.1, S.2.2.2.2.1, S.2.2.2.2.2.1, S.2.2.2.2.2.2.1, S.2.2.2.2.2.2.2.1, S.2.2.2.2.2.2.2.2) : CS)) H := hP
  have hD : va_D A (cW T ad ((S.1, S.2.1, ((a_xc0_k S), (a_xc0_n S), (a_xc0_r S), (f_xc0_z S), (a_xd0_rooms S), (a_xd0_counts S), (a_xd0_names S), (va_cpy (a_xv2_k S) (a_xv0_k S) 0 0 80), (va_cpy (a_xv2_n S) (a_xv0_n S) 0 0 80), (a_xv0_r S), (f_xv0_z S)), S.2.2.2.1, S.2.2.2.2.1, S.2.2.2.2.2.1, S.2.2.2.2.2.2.1, S.2.2.2.2.2.2.2.1, S.2.2.2.2.2.2.2.2) : CS)) := hD
  refine lv_aload_n hx hb d_Row_become_42 rfl (lv_at hl 2 rfl) ?_
  refine va_get (D := D) (ci := 4) (v := .ref (ad 47)) (C := "PageScribe$Row") (T := F_Row) (N := 4) hx hb hts i_Row hown hK hP 44 (ce_44 _ _ _) cl_4 2 (by decide) (hts _ k_1_48) (fun _ h9 => h9) rfl d_Row_become_43 ?_
  refine lv_iconst (v := 0) hx hb d_Row_become_46 (by decide) ?_
  refine lv_aload_n hx hb d_Row_become_47 rfl (lv_at hl 1 rfl) ?_
  refine va_get (D := D) (ci := 4) (v := .ref (ad 23)) (C := "PageScribe$Row") (T := F_Row) (N := 4) hx hb hts i_Row hown hK hP 20 (ce_20 _ _ _) cl_4 2 (by decide) (hts _ k_1_48) (fun _ h9 => h9) rfl d_Row_become_48 ?_
  refine lv_iconst (v := 0) hx hb d_Row_become_51 (by decide) ?_
  refine lv_iload_n hx hb d_Row_become_52 rfl (lv_at hl 0 rfl) ?_
  refine va_copyd (sp := 0) (dp := 0) (n := 80) hx hb (hml.trans hl.1.symm) hown (hts _ k_5_102) (hts _ k_5_104) (hts _ k_5_103) (hts _ k_1_26) hK hP hD hS 47 23 3 3 (ce_47 _ _ _) (ce_23 _ _ _) rfl rfl rfl (by decide +kernel) (by decide +kernel) (by decide +kernel) (by decide +kernel) (by decide +kernel) (fun _ _ => rfl) (Nat.le_of_ble_eq_true rfl) (by decide +kernel) d_Row_become_53 (fun H locs hP hD hS => ?_)
  rw [cs_xv0_r] at hP hD
  have hP : va_P D classes (cW T ad ((S.1, S.2.1, ((a_xc0_k S), (a_xc0_n S), (a_xc0_r S), (f_xc0_z S), (a_xd0_rooms S), (a_xd0_counts S), (a_xd0_names S), (va_cpy (a_xv2_k S) (a_xv0_k S) 0 0 80), (va_cpy (a_xv2_n S) (a_xv0_n S) 0 0 80), (va_cpy (a_xv2_r S) (a_xv0_r S) 0 0 80), (f_xv0_z S)), S.2.2.2.1, S.2.2.2.2.1, S.2.2.2.2.2.1, S.2.2.2.2.2.2.1, S.2.2.2.2.2.2.2.1, S.2.2.2.2.2.2.2.2) : CS)) H := hP
  have hD : va_D A (cW T ad ((S.1, S.2.1, ((a_xc0_k S), (a_xc0_n S), (a_xc0_r S), (f_xc0_z S), (a_xd0_rooms S), (a_xd0_counts S), (a_xd0_names S), (va_cpy (a_xv2_k S) (a_xv0_k S) 0 0 80), (va_cpy (a_xv2_n S) (a_xv0_n S) 0 0 80), (va_cpy (a_xv2_r S) (a_xv0_r S) 0 0 80), (f_xv0_z S)), S.2.2.2.1, S.2.2.2.2.1, S.2.2.2.2.2.1, S.2.2.2.2.2.2.1, S.2.2.2.2.2.2.2.1, S.2.2.2.2.2.2.2.2) : CS)) := hD
  refine lv_aload_n hx hb d_Row_become_56 rfl (lv_at hl 1 rfl) ?_
  refine lv_aload_n hx hb d_Row_become_57 rfl (lv_at hl 2 rfl) ?_
  refine va_get (D := D) (ci := 4) (v := .int (f_xv2_z S)) (C := "PageScribe$Row") (T := F_Row) (N := 4) hx hb hts i_Row hown hK hP 44 (ce_44 _ _ _) cl_4 3 (by decide) (hts _ k_1_49) (fun _ h9 => h9) rfl d_Row_become_58 ?_
  refine va_put (D := D) (ci := 4) (v := .int (f_xv2_z S)) (ty := .int) (C := "PageScribe$Row") (T := F_Row) (N := 4) hx hb hts i_Row t_Row t_Row_ok n_Row hown hK hP hD hS 20 (ce_20 _ _ _) cl_4 3 (by decide) (hts _ k_1_49) (fun _ h9 => h9) rfl (by decide +kernel) rfl rfl (Nat.le_of_ble_eq_true rfl) d_Row_become_61 (fun H locs hP hD hS => ?_)
  rw [cp_xv0_z] at hP hD
  have hP : va_P D classes (cW T ad ((S.1, S.2.1, ((a_xc0_k S), (a_xc0_n S), (a_xc0_r S), (f_xc0_z S), (a_xd0_rooms S), (a_xd0_counts S), (a_xd0_names S), (va_cpy (a_xv2_k S) (a_xv0_k S) 0 0 80), (va_cpy (a_xv2_n S) (a_xv0_n S) 0 0 80), (va_cpy (a_xv2_r S) (a_xv0_r S) 0 0 80), (f_xv2_z S)), S.2.2.2.1, S.2.2.2.2.1, S.2.2.2.2.2.1, S.2.2.2.2.2.2.1, S.2.2.2.2.2.2.2.1, S.2.2.2.2.2.2.2.2) : CS)) H := hP
  have hD : va_D A (cW T ad ((S.1, S.2.1, ((a_xc0_k S), (a_xc0_n S), (a_xc0_r S), (f_xc0_z S), (a_xd0_rooms S), (a_xd0_counts S), (a_xd0_names S), (va_cpy (a_xv2_k S) (a_xv0_k S) 0 0 80), (va_cpy (a_xv2_n S) (a_xv0_n S) 0 0 80), (va_cpy (a_xv2_r S) (a_xv0_r S) 0 0 80), (f_xv2_z S)), S.2.2.2.1, S.2.2.2.2.1, S.2.2.2.2.2.1, S.2.2.2.2.2.2.1, S.2.2.2.2.2.2.2.1, S.2.2.2.2.2.2.2.2) : CS)) := hD
  exact j_vret F hr hlocks hK hS ((S.1, S.2.1, ((a_xc0_k S), (a_xc0_n S), (a_xc0_r S), (f_xc0_z S), (a_xd0_rooms S), (a_xd0_counts S), (a_xd0_names S), (va_cpy (a_xv2_k S) (a_xv0_k S) 0 0 80), (va_cpy (a_xv2_n S) (a_xv0_n S) 0 0 80), (va_cpy (a_xv2_r S) (a_xv0_r S) 0 0 80), (f_xv2_z S)), S.2.2.2.1, S.2.2.2.2.1, S.2.2.2.2.2.1, S.2.2.2.2.2.2.1, S.2.2.2.2.2.2.2.1, S.2.2.2.2.2.2.2.2) : CS) ⟨⟨i_vst, i_vc0, i_vc1, i_vc2, i_vc3, (cpy_dB i_vv2), i_vv1, i_vv2, i_vv3, i_vg, i_wct, i_wln, i_sd0, i_sd1, i_sd2, i_sd3, i_rln, i_rtx, i_rpl, i_rtk, i_cnv, i_pts, i_cik, i_und⟩, (kcL_r S), (kcP_r S), (kcU_r S), (kcW_r S)⟩ hP hD d_Row_become_64
set_option maxHeartbeats 4000000 in
set_option maxRecDepth 100000 in
theorem c_Store_become_12_36 (l : Launch) (D : va_G) (T : Nat → ClassId) (ad : Nat → Nat) (S : CS)  (sz : Nat)  (hI : CIv S) : Met l ⟨"PageScribe$Store", "become", "(LPageScribe$Store;)V"⟩ (wy ⟨"PageScribe$Store", "become", "(LPageScribe$Store;)V"⟩ prog_10_method_2_code 2 none) ({ frames := 2, cells := 0, slots := 0, locals := 140 }) (va_Pc [.ref (ad 12), .ref (ad 36)] (Pw D T (cW T ad S) sz E0)) (va_Qv (fun (u : CS) => CIv u ∧ kcL S u ∧ kcP S u ∧ kcU S u ∧ kcW S u) (fun u t => Bw D T (va_A (cW T ad S) sz) (cW T ad u) t) (va_A (cW T ad S) sz)) 0 0 (va_A (cW T ad S) sz) := by
  refine j_met (y := ⟨"PageScribe$Store", "become", "(LPageScribe$Store;)V"⟩) (b := prog_10_method_2_code) (n := 2) (ret := none) (av := [.ref (ad 12), .ref (ad 36)]) (Qc := fun A => va_Qv (fun (u : CS) => CIv u ∧ kcL S u ∧ kcP S u ∧ kcU S u ∧ kcW S u) (fun u t => Bw D T A (cW T ad u) t) A) (by decide +kernel) (Nat.le_of_ble_eq_true rfl) (fun p e s m args below meth c A ls F hr hlocks hnm hK hP hD hS hA hN hE hl => ?_)
  obtain ⟨hx, hb, hml, hown, hts⟩ := id F
  have hl : lv_has ls 2 [(0, .ref (ad 12)), (1, .ref (ad 36))] := hl
  obtain ⟨i_vst, i_vc0, i_vc1, i_vc2, i_vc3, i_vv0, i_vv1, i_vv2, i_vv3, i_vg, i_wct, i_wln, i_sd0, i_sd1, i_sd2, i_sd3, i_rln, i_rtx, i_rpl, i_rtk, i_cnv, i_pts, i_cik, i_und⟩ := id hI
  refine lv_aload_n hx hb d_Store_become_0 rfl (lv_at hl 0 rfl) ?_
  refine va_get (D := D) (ci := 3) (v := .ref (ad 13)) (C := "PageScribe$Store") (T := F_Store) (N := 5) hx hb hts i_Store hown hK hP 12 (ce_12 _ _ _) cl_3 0 (by decide) (hts _ k_1_107) (fun _ h9 => h9) rfl d_Store_become_1 ?_
  refine lv_aload_n hx hb d_Store_become_4 rfl (lv_at hl 1 rfl) ?_
  refine va_get (D := D) (ci := 3) (v := .ref (ad 37)) (C := "PageScribe$Store") (T := F_Store) (N := 5) hx hb hts i_Store hown hK hP 36 (ce_36 _ _ _) cl_3 0 (by decide) (hts _ k_1_107) (fun _ h9 => h9) rfl d_Store_become_5 ?_
  refine jc_cv (w := (fun u => u)) hK hP hD hS hA (va_runV (As := [.ref (ad 37)]) (rest := []) F (c_Row_become_13_37 l D T ad S  s.heap.size ⟨i_vst, i_vc0, i_vc1, i_vc2, i_vc3, i_vv0, i_vv1, i_vv2, i_vv3, i_vg, i_wct, i_wln, i_sd0, i_sd1, i_sd2, i_sd3, i_rln, i_rtx, i_rpl, i_rtk, i_cnv, i_pts, i_cik, i_und⟩) (j_cV (k := 1) (C := "PageScribe$Row") hts k_5_100 k_1_2 k_5_95 k_5_96 k_5_97 (by decide +kernel) ⟨Nat.le_of_ble_eq_true rfl, Nat.le_of_ble_eq_true rfl⟩) (j_preV (q0 := 13) (ci := 4) hK hP hD csc csc_all csc_nd cl_4 (ce_13 _ _ _) (fun _ _ _ _ h => h) (fun _ _ _ => trivial)) rfl rfl hl.1 rfl (lv_room (Nat.le_of_ble_eq_true rfl)) d_Store_become_8 ⟨Nat.le_of_ble_eq_true rfl, Nat.le_of_ble_eq_true rfl⟩) (fun S1 H locs hw1 hP hD hS => ?_)
  have hP : va_P D classes (cW T ad S1) H := hP
  have hD : va_D A (cW T ad S1) := hD
  obtain ⟨⟨i_vst, i_vc0, i_vc1, i_vc2, i_vc3, i_vv0, i_vv1, i_vv2, i_vv3, i_vg, i_wct, i_wln, i_sd0, i_sd1, i_sd2, i_sd3, i_rln, i_rtx, i_rpl, i_rtk, i_cnv, i_pts, i_cik, i_und⟩, kpcL_S1, kpcP_S1, kpcU_S1, kpcW_S1⟩ := hw1
  have kScL_S1 : kcL S S1 := kcL_t (show kcL S S from (kcL_r S)) kpcL_S1
  have kScP_S1 : kcP S S1 := kcP_t (show kcP S S from (kcP_r S)) kpcP_S1
  have kScU_S1 : kcU S S1 := kcU_t (show kcU S S from (kcU_r S)) kpcU_S1
  have kScW_S1 : kcW S S1 := kcW_t (show kcW S S from (kcW_r S)) kpcW_S1
  have nxr_length_S1 : (f_xr_length S1).toInt = (f_xr_length S).toInt := congrArg Int32.toInt kpcL_S1
  have nxr_length_S1 : (f_xr_length S1).toInt = (f_xr_length S).toInt := congrArg Int32.toInt kpcP_S1.1
  have nxr_place_S1 : (f_xr_place S1).toInt = (f_xr_place S).toInt := congrArg Int32.toInt kpcP_S1.2.1
  have nxe_underWay_S1 : (f_xe_underWay S1).toInt = (f_xe_underWay S).toInt := congrArg Int32.toInt kpcU_S1
  have nxp_columns_S1 : (f_xp_columns S1).toInt = (f_xp_columns S).toInt := congrArg Int32.toInt kpcW_S1.1
  have nxp_rows_S1 : (f_xp_rows S1).toInt = (f_xp_rows S).toInt := congrArg Int32.toInt kpcW_S1.2
  refine lv_aload_n hx hb d_Store_become_11 rfl (lv_at hl 0 rfl) ?_
  refine va_get (D := D) (ci := 3) (v := .ref (ad 20)) (C := "PageScribe$Store") (T := F_Store) (N := 5) hx hb hts i_Store hown hK hP 12 (ce_12 _ _ _) cl_3 4 (by decide) (hts _ k_1_114) (fun _ h9 => h9) rfl d_Store_become_12 ?_
  refine lv_aload_n hx hb d_Store_become_15 rfl (lv_at hl 1 rfl) ?_
  refine va_get (D := D) (ci := 3) (v := .ref (ad 44)) (C := "PageScribe$Store") (T := F_Store) (N := 5) hx hb hts i_Store hown hK hP 36 (ce_36 _ _ _) cl_3 4 (by decide) (hts _ k_1_114) (fun _ h9 => h9) rfl d_Store_become_16 ?_
  refine jc_cv (w := (fun u => u)) hK hP hD hS hA (va_runV (As := [.ref (ad 44)]) (rest := []) F (c_Row_become_20_44 l D T ad S1  H.size ⟨i_vst, i_vc0, i_vc1, i_vc2, i_vc3, i_vv0, i_vv1, i_vv2, i_vv3, i_vg, i_wct, i_wln, i_sd0, i_sd1, i_sd2, i_sd3, i_rln, i_rtx, i_rpl, i_rtk, i_cnv, i_pts, i_cik, i_und⟩) (j_cV (k := 1) (C := "PageScribe$Row") hts k_5_100 k_1_2 k_5_95 k_5_96 k_5_97 (by decide +kernel) ⟨Nat.le_of_ble_eq_true rfl, Nat.le_of_ble_eq_true rfl⟩) (j_preV (q0 := 20) (ci := 4) hK hP hD csc csc_all csc_nd cl_4 (ce_20 _ _ _) (fun _ _ _ _ h => h) (fun _ _ _ => trivial)) rfl rfl hl.1 rfl (lv_room (Nat.le_of_ble_eq_true rfl)) d_Store_become_19 ⟨Nat.le_of_ble_eq_true rfl, Nat.le_of_ble_eq_true rfl⟩) (fun S2 H locs hw2 hP hD hS => ?_)
  have hP : va_P D classes (cW T ad S2) H := hP
  have hD : va_D A (cW T ad S2) := hD
  obtain ⟨⟨i_vst, i_vc0, i_vc1, i_vc2, i_vc3, i_vv0, i_vv1, i_vv2, i_vv3, i_vg, i_wct, i_wln, i_sd0, i_sd1, i_sd2, i_sd3, i_rln, i_rtx, i_rpl, i_rtk, i_cnv, i_pts, i_cik, i_und⟩, kpcL_S2, kpcP_S2, kpcU_S2, kpcW_S2⟩ := hw2
  have kScL_S2 : kcL S S2 := kcL_t (show kcL S S1 from kScL_S1) kpcL_S2
  have kScP_S2 : kcP S S2 := kcP_t (show kcP S S1 from kScP_S1) kpcP_S2
  have kScU_S2 : kcU S S2 := kcU_t (show kcU S S1 from kScU_S1) kpcU_S2
  have kScW_S2 : kcW S S2 := kcW_t (show kcW S S1 from kScW_S1) kpcW_S2
  have nxr_length_S2 : (f_xr_length S2).toInt = (f_xr_length S1).toInt := congrArg Int32.toInt kpcL_S2
  have nxr_length_S2 : (f_xr_length S2).toInt = (f_xr_length S1).toInt := congrArg Int32.toInt kpcP_S2.1
  have nxr_place_S2 : (f_xr_place S2).toInt = (f_xr_place S1).toInt := congrArg Int32.toInt kpcP_S2.2.1
  have nxe_underWay_S2 : (f_xe_underWay S2).toInt = (f_xe_underWay S1).toInt := congrArg Int32.toInt kpcU_S2
  have nxp_columns_S2 : (f_xp_columns S2).toInt = (f_xp_columns S1).toInt := congrArg Int32.toInt kpcW_S2.1
  have nxp_rows_S2 : (f_xp_rows S2).toInt = (f_xp_rows S1).toInt := congrArg Int32.toInt kpcW_S2.2
  refine lv_aload_n hx hb d_Store_become_22 rfl (lv_at hl 1 rfl) ?_
  refine va_get (D := D) (ci := 3) (v := .ref (ad 41)) (C := "PageScribe$Store") (T := F_Store) (N := 5) hx hb hts i_Store hown hK hP 36 (ce_36 _ _ _) cl_3 1 (by decide) (hts _ k_1_111) (fun _ h9 => h9) rfl d_Store_become_23 ?_
  refine lv_iconst (v := 0) hx hb d_Store_become_26 (by decide) ?_
  refine lv_aload_n hx hb d_Store_become_27 rfl (lv_at hl 0 rfl) ?_
  refine va_get (D := D) (ci := 3) (v := .ref (ad 17)) (C := "PageScribe$Store") (T := F_Store) (N := 5) hx hb hts i_Store hown hK hP 12 (ce_12 _ _ _) cl_3 1 (by decide) (hts _ k_1_111) (fun _ h9 => h9) rfl d_Store_become_28 ?_
  refine lv_iconst (v := 0) hx hb d_Store_become_31 (by decide) ?_
  refine lv_bipush (v := 7) hx hb d_Store_become_32 (by decide) ?_
  refine va_copyi (sp := 0) (dp := 0) (n := 7) hx hb (hml.trans hl.1.symm) hown (hts _ k_5_105) (hts _ k_5_104) (hts _ k_5_103) (hts _ k_1_26) hK hP hD hS 41 17 0 0 (ce_41 _ _ _) (ce_17 _ _ _) rfl rfl rfl (by decide +kernel) (by decide +kernel) (by decide +kernel) (by decide +kernel) (by decide +kernel) (fun _ _ => rfl) (Nat.le_of_ble_eq_true rfl) (by decide +kernel) d_Store_become_34 (fun H locs hP hD hS => ?_)
  rw [cs_xd0_rooms] at hP hD
  have hP : va_P D classes (cW T ad ((S2.1, S2.2.1, ((a_xc0_k S2), (a_xc0_n S2), (a_xc0_r S2), (f_xc0_z S2), (va_cpy (a_xd2_rooms S2) (a_xd0_rooms S2) 0 0 7), (a_xd0_counts S2), (a_xd0_names S2), (a_xv0_k S2), (a_xv0_n S2), (a_xv0_r S2), (f_xv0_z S2)), S2.2.2.2.1, S2.2.2.2.2.1, S2.2.2.2.2.2.1, S2.2.2.2.2.2.2.1, S2.2.2.2.2.2.2.2.1, S2.2.2.2.2.2.2.2.2) : CS)) H := hP
  have hD : va_D A (cW T ad ((S2.1, S2.2.1, ((a_xc0_k S2), (a_xc0_n S2), (a_xc0_r S2), (f_xc0_z S2), (va_cpy (a_xd2_rooms S2) (a_xd0_rooms S2) 0 0 7), (a_xd0_counts S2), (a_xd0_names S2), (a_xv0_k S2), (a_xv0_n S2), (a_xv0_r S2), (f_xv0_z S2)), S2.2.2.2.1, S2.2.2.2.2.1, S2.2.2.2.2.2.1, S2.2.2.2.2.2.2.1, S2.2.2.2.2.2.2.2.1, S2.2.2.2.2.2.2.2.2) : CS)) := hD
  refine lv_aload_n hx hb d_Store_become_37 rfl (lv_at hl 1 rfl) ?_
  refine va_get (D := D) (ci := 3) (v := .ref (ad 42)) (C := "PageScribe$Store") (T := F_Store) (N := 5) hx hb hts i_Store hown hK hP 36 (ce_36 _ _ _) cl_3 2 (by decide) (hts _ k_1_112) (fun _ h9 => h9) rfl d_Store_become_38 ?_
  refine lv_iconst (v := 0) hx hb d_Store_become_41 (by decide) ?_
  refine lv_aload_n hx hb d_Store_become_42 rfl (lv_at hl 0 rfl) ?_
  refine va_get (D := D) (ci := 3) (v := .ref (ad 18)) (C := "PageScribe$Store") (T := F_Store) (N := 5) hx hb hts i_Store hown hK hP 12 (ce_12 _ _ _) cl_3 2 (by decide) (hts _ k_1_112) (fun _ h9 => h9) rfl d_Store_become_43 ?_
  refine lv_iconst (v := 0) hx hb d_Store_become_46 (by decide) ?_
  refine lv_bipush (v := 7) hx hb d_Store_become_47 (by decide) ?_
  refine va_copyi (sp := 0) (dp := 0) (n := 7) hx hb (hml.trans hl.1.symm) hown (hts _ k_5_105) (hts _ k_5_104) (hts _ k_5_103) (hts _ k_1_26) hK hP hD hS 42 18 0 0 (ce_42 _ _ _) (ce_18 _ _ _) rfl rfl rfl (by decide +kernel) (by decide +kernel) (by decide +kernel) (by decide +kernel) (by decide +kernel) (fun _ _ => rfl) (Nat.le_of_ble_eq_true rfl) (by decide +kernel) d_Store_become_49 (fun H locs hP hD hS => ?_)
  rw [cs_xd0_counts] at hP hD
  have hP : va_P D classes (cW T ad ((S2.1, S2.2.1, ((a_xc0_k S2), (a_xc0_n S2), (a_xc0_r S2), (f_xc0_z S2), (va_cpy (a_xd2_rooms S2) (a_xd0_rooms S2) 0 0 7), (va_cpy (a_xd2_counts S2) (a_xd0_counts S2) 0 0 7), (a_xd0_names S2), (a_xv0_k S2), (a_xv0_n S2), (a_xv0_r S2), (f_xv0_z S2)), S2.2.2.2.1, S2.2.2.2.2.1, S2.2.2.2.2.2.1, S2.2.2.2.2.2.2.1, S2.2.2.2.2.2.2.2.1, S2.2.2.2.2.2.2.2.2) : CS)) H := hP
  have hD : va_D A (cW T ad ((S2.1, S2.2.1, ((a_xc0_k S2), (a_xc0_n S2), (a_xc0_r S2), (f_xc0_z S2), (va_cpy (a_xd2_rooms S2) (a_xd0_rooms S2) 0 0 7), (va_cpy (a_xd2_counts S2) (a_xd0_counts S2) 0 0 7), (a_xd0_names S2), (a_xv0_k S2), (a_xv0_n S2), (a_xv0_r S2), (f_xv0_z S2)), S2.2.2.2.1, S2.2.2.2.2.1, S2.2.2.2.2.2.1, S2.2.2.2.2.2.2.1, S2.2.2.2.2.2.2.2.1, S2.2.2.2.2.2.2.2.2) : CS)) := hD
  refine lv_aload_n hx hb d_Store_become_52 rfl (lv_at hl 1 rfl) ?_
  refine va_get (D := D) (ci := 3) (v := .ref (ad 43)) (C := "PageScribe$Store") (T := F_Store) (N := 5) hx hb hts i_Store hown hK hP 36 (ce_36 _ _ _) cl_3 3 (by decide) (hts _ k_1_113) (fun _ h9 => h9) rfl d_Store_become_53 ?_
  refine lv_iconst (v := 0) hx hb d_Store_become_56 (by decide) ?_
  refine lv_aload_n hx hb d_Store_become_57 rfl (lv_at hl 0 rfl) ?_
  refine va_get (D := D) (ci := 3) (v := .ref (ad 19)) (C := "PageScribe$Store") (T := F_Store) (N := 5) hx hb hts i_Store hown hK hP 12 (ce_12 _ _ _) cl_3 3 (by decide) (hts _ k_1_113) (fun _ h9 => h9) rfl d_Store_become_58 ?_
  refine lv_iconst (v := 0) hx hb d_Store_become_61 (by decide) ?_
  refine lv_bipush (v := 80) hx hb d_Store_become_62 (by decide) ?_
  refine va_copyi (sp := 0) (dp := 0) (n := 80) hx hb (hml.trans hl.1.symm) hown (hts _ k_5_105) (hts _ k_5_104) (hts _ k_5_103) (hts _ k_1_26) hK hP hD hS 43 19 0 0 (ce_43 _ _ _) (ce_19 _ _ _) rfl rfl rfl (by decide +kernel) (by decide +kernel) (by decide +kernel) (by decide +kernel) (by decide +kernel) (fun _ _ => rfl) (Nat.le_of_ble_eq_true rfl) (by decide +kernel) d_Store_become_64 (fun H locs hP hD hS => ?_)
  rw [cs_xd0_names] at hP hD
  have hP : va_P D classes (cW T ad ((S2.1, S2.2.1, ((a_xc0_k S2), (a_xc0_n S2), (a_xc0_r S2), (f_xc0_z S2), (va_cpy (a_xd2_rooms S2) (a_xd0_rooms S2) 0 0 7), (va_cpy (a_xd2_counts S2) (a_xd0_counts S2) 0 0 7), (va_cpy (a_xd2_names S2) (a_xd0_names S2) 0 0 80), (a_xv0_k S2), (a_xv0_n S2), (a_xv0_r S2), (f_xv0_z S2)), S2.2.2.2.1, S2.2.2.2.2.1, S2.2.2.2.2.2.1, S2.2.2.2.2.2.2.1, S2.2.2.2.2.2.2.2.1, S2.2.2.2.2.2.2.2.2) : CS)) H := hP
  have hD : va_D A (cW T ad ((S2.1, S2.2.1, ((a_xc0_k S2), (a_xc0_n S2), (a_xc0_r S2), (f_xc0_z S2), (va_cpy (a_xd2_rooms S2) (a_xd0_rooms S2) 0 0 7), (va_cpy (a_xd2_counts S2) (a_xd0_counts S2) 0 0 7), (va_cpy (a_xd2_names S2) (a_xd0_names S2) 0 0 80), (a_xv0_k S2), (a_xv0_n S2), (a_xv0_r S2), (f_xv0_z S2)), S2.2.2.2.1, S2.2.2.2.2.1, S2.2.2.2.2.2.1, S2.2.2.2.2.2.2.1, S2.2.2.2.2.2.2.2.1, S2.2.2.2.2.2.2.2.2) : CS)) := hD
  exact j_vret F hr hlocks hK hS ((S2.1, S2.2.1, ((a_xc0_k S2), (a_xc0_n S2), (a_xc0_r S2), (f_xc0_z S2), (va_cpy (a_xd2_rooms S2) (a_xd0_rooms S2) 0 0 7), (va_cpy (a_xd2_counts S2) (a_xd0_counts S2) 0 0 7), (va_cpy (a_xd2_names S2) (a_xd0_names S2) 0 0 80), (a_xv0_k S2), (a_xv0_n S2), (a_xv0_r S2), (f_xv0_z S2)), S2.2.2.2.1, S2.2.2.2.2.1, S2.2.2.2.2.2.1, S2.2.2.2.2.2.2.1, S2.2.2.2.2.2.2.2.1, S2.2.2.2.2.2.2.2.2) : CS) ⟨⟨i_vst, i_vc0, i_vc1, i_vc2, i_vc3, i_vv0, i_vv1, i_vv2, i_vv3, i_vg, i_wct, i_wln, (cpy_sd i_sd2), i_sd1, i_sd2, i_sd3, i_rln, i_rtx, i_rpl, i_rtk, i_cnv, i_pts, i_cik, i_und⟩, kScL_S2, kScP_S2, kScU_S2, kScW_S2⟩ hP hD d_Store_become_67
set_option maxHeartbeats 4000000 in
set_option maxRecDepth 100000 in
theorem c_Row_become_49_13 (l : Launch) (D : va_G) (T : Nat → ClassId) (ad : Nat → Nat) (S : CS)  (sz : Nat)  (hI : CIv S) : Met l ⟨"PageScribe$Row", "become", "(LPageScribe$Row;)V"⟩ (wy ⟨"PageScribe$Row", "become", "(LPageScribe$Row;)V"⟩ prog_8_method_9_code 3 none) ({ frames := 1, cells := 0, slots := 0, locals := 70 }) (va_Pc [.ref (ad 49), .ref (ad 13)] (Pw D T (cW T ad S) sz E0)) (va_Qv (fun (u : CS) => CIv u ∧ kcL S u ∧ kcP S u ∧ kcU S u ∧ kcW S u) (fun u t => Bw D T (va_A (cW T ad S) sz) (cW T ad u) t) (va_A (cW T ad S) sz)) 0 0 (va_A (cW T ad S) sz) := by
  refine j_met (y := ⟨"PageScribe$Row", "become", "(LPageScribe$Row;)V"⟩) (b := prog_8_method_9_code) (n := 3) (ret := none) (av := [.ref (ad 49), .ref (ad 13)]) (Qc := fun A => va_Qv (fun (u : CS) => CIv u ∧ kcL S u ∧ kcP S u ∧ kcU S u ∧ kcW S u) (fun u t => Bw D T A (cW T ad u) t) A) (by decide +kernel) (Nat.le_of_ble_eq_true rfl) (fun p e s m args below meth c A ls F hr hlocks hnm hK hP hD hS hA hN hE hl => ?_)
  obtain ⟨hx, hb, hml, hown, hts⟩ := id F
  have hl : lv_has ls 3 [(0, .ref (ad 49)), (1, .ref (ad 13))] := hl
  obtain ⟨i_vst, i_vc0, i_vc1, i_vc2, i_vc3, i_vv0, i_vv1, i_vv2, i_vv3, i_vg, i_wct, i_wln, i_sd0, i_sd1, i_sd2, i_sd3, i_rln, i_rtx, i_rpl, i_rtk, i_cnv, i_pts, i_cik, i_und⟩ := id hI
  refine lv_aload_n hx hb d_Row_become_0 rfl (lv_at hl 0 rfl) ?_
  refine va_get (D := D) (ci := 4) (v := .ref (ad 50)) (C := "PageScribe$Row") (T := F_Row) (N := 4) hx hb hts i_Row hown hK hP 49 (ce_49 _ _ _) cl_4 0 (by decide) (hts _ k_1_46) (fun _ h9 => h9) rfl d_Row_become_1 ?_
  refine va_alen (v := 160) hx hb hK hP 50 0 (ce_50 _ _ _) rfl (show Int32.ofNat 160 = 160 from by decide +kernel) d_Row_become_4 ?_
  refine lv_aload_n hx hb d_Row_become_5 rfl (lv_at hl 1 rfl) ?_
  refine va_get (D := D) (ci := 4) (v := .ref (ad 14)) (C := "PageScribe$Row") (T := F_Row) (N := 4) hx hb hts i_Row hown hK hP 13 (ce_13 _ _ _) cl_4 0 (by decide) (hts _ k_1_46) (fun _ h9 => h9) rfl d_Row_become_6 ?_
  refine va_alen (v := 160) hx hb hK hP 14 0 (ce_14 _ _ _) rfl (show Int32.ofNat 160 = 160 from by decide +kernel) d_Row_become_9 ?_
  refine j_ci (wc := []) (wr := (cW T ad S)) hK hP hD hS hA [] csc rfl csc_all csc_nd (fun _ _ => List.not_mem_nil) (va_runS (As := [.int 160, .int 160]) (rest := []) F (c_Math_min l D T (160 : Int32) (160 : Int32)  s.heap.size) (j_cS (k := 2) hts k_3_221 k_1_21 k_5_101 k_3_220 (by decide +kernel) ⟨Nat.le_of_ble_eq_true rfl, Nat.le_of_ble_eq_true rfl⟩) (j_preS hK hP hD [] rfl (by decide) (fun _ _ _ _ h => h) (fun _ _ _ => trivial)) rfl rfl hl.1 rfl (lv_room (Nat.le_of_ble_eq_true rfl)) d_Row_become_10 ⟨Nat.le_of_ble_eq_true rfl, Nat.le_of_ble_eq_true rfl⟩) (fun rv1 u1 H locs hw1 hP hD hS => ?_)
  have hP : va_P D classes (cW T ad S) H := hP
  have hD : va_D A (cW T ad S) := hD
  have qhw1 : rv1.toInt ≤ 160 ∧ rv1.toInt ≤ 160 ∧ (rv1.toInt = 160 ∨ rv1.toInt = 160) := by simpa only [tI_160] using hw1
  have rrv1 := zt_rng rv1
  refine j_eqi (y := 160) (Int32.toInt_inj.mp (by have := tI_160; omega)) ?_
  refine lv_istore_n (lv' := [(2, .int 160), (0, .ref (ad 49)), (1, .ref (ad 13))]) hx hb d_Row_become_13 rfl hl (by decide) rfl (fun ls hl => ?_)
  refine lv_aload_n hx hb d_Row_become_14 rfl (lv_at hl 2 rfl) ?_
  refine va_get (D := D) (ci := 4) (v := .ref (ad 14)) (C := "PageScribe$Row") (T := F_Row) (N := 4) hx hb hts i_Row hown hK hP 13 (ce_13 _ _ _) cl_4 0 (by decide) (hts _ k_1_46) (fun _ h9 => h9) rfl d_Row_become_15 ?_
  refine lv_iconst (v := 0) hx hb d_Row_become_18 (by decide) ?_
  refine lv_aload_n hx hb d_Row_become_19 rfl (lv_at hl 1 rfl) ?_
  refine va_get (D := D) (ci := 4) (v := .ref (ad 50)) (C := "PageScribe$Row") (T := F_Row) (N := 4) hx hb hts i_Row hown hK hP 49 (ce_49 _ _ _) cl_4 0 (by decide) (hts _ k_1_46) (fun _ h9 => h9) rfl d_Row_become_20 ?_
  refine lv_iconst (v := 0) hx hb d_Row_become_23 (by decide) ?_
  refine lv_iload_n hx hb d_Row_become_24 rfl (lv_at hl 0 rfl) ?_
  refine va_copyi (sp := 0) (dp := 0) (n := 160) hx hb (hml.trans hl.1.symm) hown (hts _ k_5_102) (hts _ k_5_104) (hts _ k_5_103) (hts _ k_1_26) hK hP hD hS 14 50 0 0 (ce_14 _ _ _) (ce_50 _ _ _) rfl rfl rfl (by decide +kernel) (by decide +kernel) (by decide +kernel) (by decide +kernel) (by decide +kernel) (fun _ _ => rfl) (Nat.le_of_ble_eq_true rfl) (by decide +kernel) d_Row_become_25 (fun H locs hP hD hS => ?_)
  rw [cs_xc3_k] at hP hD
  have hP : va_P D classes (cW T ad ((S.1, S.2.1, S.2.2.1, S.2.2.2.1, S.2.2.2.2.1, ((va_cpy (a_xc0_k S) (a_xc3_k S) 0 0 160), (a_xc3_n S), (a_xc3_r S), (f_xc3_z S), (a_xd3_rooms S), (a_xd3_counts S), (a_xd3_names S), (a_xv3_k S), (a_xv3_n S), (a_xv3_r S), (f_xv3_z S)), S.2.2.2.2.2.2.1, S.2.2.2.2.2.2.2.1, S.2.2.2.2.2.2.2.2) : CS)) H := hP
  have hD : va_D A (cW T ad ((S.1, S.2.1, S.2.2.1, S.2.2.2.1, S.2.2.2.2.1, ((va_cpy (a_xc0_k S) (a_xc3_k S) 0 0 160), (a_xc3_n S), (a_xc3_r S), (f_xc3_z S), (a_xd3_rooms S), (a_xd3_counts S), (a_xd3_names S), (a_xv3_k S), (a_xv3_n S), (a_xv3_r S), (f_xv3_z S)), S.2.2.2.2.2.2.1, S.2.2.2.2.2.2.2.1, S.2.2.2.2.2.2.2.2) : CS)) := hD
  refine lv_aload_n hx hb d_Row_become_28 rfl (lv_at hl 2 rfl) ?_
  refine va_get (D := D) (ci := 4) (v := .ref (ad 15)) (C := "PageScribe$Row") (T := F_Row) (N := 4) hx hb hts i_Row hown hK hP 13 (ce_13 _ _ _) cl_4 1 (by decide) (hts _ k_1_47) (fun _ h9 => h9) rfl d_Row_become_29 ?_
  refine lv_iconst (v := 0) hx hb d_Row_become_32 (by decide) ?_
  refine lv_aload_n hx hb d_Row_become_33 rfl (lv_at hl 1 rfl) ?_
  refine va_get (D := D) (ci := 4) (v := .ref (ad 51)) (C := "PageScribe$Row") (T := F_Row) (N := 4) hx hb hts i_Row hown hK hP 49 (ce_49 _ _ _) cl_4 1 (by decide) (hts _ k_1_47) (fun _ h9 => h9) rfl d_Row_become_34 ?_
  refine lv_iconst (v := 0) hx hb d_Row_become_37 (by decide) ?_
  refine lv_iload_n hx hb d_Row_become_38 rfl (lv_at hl 0 rfl) ?_
  refine va_copyi (sp := 0) (dp := 0) (n := 160) hx hb (hml.trans hl.1.symm) hown (hts _ k_5_102) (hts _ k_5_104) (hts _ k_5_103) (hts _ k_1_26) hK hP hD hS 15 51 0 0 (ce_15 _ _ _) (ce_51 _ _ _) rfl rfl rfl (by decide +kernel) (by decide +kernel) (by decide +kernel) (by decide +kernel) (by decide +kernel) (fun _ _ => rfl) (Nat.le_of_ble_eq_true rfl) (by decide +kernel) d_Row_become_39 (fun H locs hP hD hS => ?_)
  rw [cs_xc3_n] at hP hD
  have hP : va_P D classes (cW T ad ((S.1, S.2.1, S.2.2.1, S.2.2.2.1, S.2.2.2.2.1, ((va_cpy (a_xc0_k S) (a_xc3_k S) 0 0 160), (va_cpy (a_xc0_n S) (a_xc3_n S) 0 0 160), (a_xc3_r S), (f_xc3_z S), (a_xd3_rooms S), (a_xd3_counts S), (a_xd3_names S), (a_xv3_k S), (a_xv3_n S), (a_xv3_r S), (f_xv3_z S)), S.2.2.2.2.2.2.1, S.2.2.2.2.2.2.2.1, S.2.2.2.2.2.2.2.2) : CS)) H := hP
  have hD : va_D A (cW T ad ((S.1, S.2.1, S.2.2.1, S.2.2.2.1, S.2.2.2.2.1, ((va_cpy (a_xc0_k S) (a_xc3_k S) 0 0 160), (va_cpy (a_xc0_n S) (a_xc3_n S) 0 0 160), (a_xc3_r S), (f_xc3_z S), (a_xd3_rooms S), (a_xd3_counts S), (a_xd3_names S), (a_xv3_k S), (a_xv3_n S), (a_xv3_r S), (f_xv3_z S)), S.2.2.2.2.2.2.1, S.2.2.2.2.2.2.2.1, S.2.2.2.2.2.2.2.2) : CS)) := hD
  refine lv_aload_n hx hb d_Row_become_42 rfl (lv_at hl 2 rfl) ?_
  refine va_get (D := D) (ci := 4) (v := .ref (ad 16)) (C := "PageScribe$Row") (T := F_Row) (N := 4) hx hb hts i_Row hown hK hP 13 (ce_13 _ _ _) cl_4 2 (by decide) (hts _ k_1_48) (fun _ h9 => h9) rfl d_Row_become_43 ?_
  refine lv_iconst (v := 0) hx hb d_Row_become_46 (by decide) ?_
  refine lv_aload_n hx hb d_Row_become_47 rfl (lv_at hl 1 rfl) ?_
  refine va_get (D := D) (ci := 4) (v := .ref (ad 52)) (C := "PageScribe$Row") (T := F_Row) (N := 4) hx hb hts i_Row hown hK hP 49 (ce_49 _ _ _) cl_4 2 (by decide) (hts _ k_1_48) (fun _ h9 => h9) rfl d_Row_become_48 ?_
  refine lv_iconst (v := 0) hx hb d_Row_become_51 (by decide) ?_
  refine lv_iload_n hx hb d_Row_become_52 rfl (lv_at hl 0 rfl) ?_
  refine va_copyd (sp := 0) (dp := 0) (n := 160) hx hb (hml.trans hl.1.symm) hown (hts _ k_5_102) (hts _ k_5_104) (hts _ k_5_103) (hts _ k_1_26) hK hP hD hS 16 52 3 3 (ce_16 _ _ _) (ce_52 _ _ _) rfl rfl rfl (by decide +kernel) (by decide +kernel) (by decide +kernel) (by decide +kernel) (by decide +kernel) (fun _ _ => rfl) (Nat.le_of_ble_eq_true rfl) (by decide +kernel) d_Row_become_53 (fun H locs hP hD hS => ?_)
  rw [cs_xc3_r] at hP hD
  have hP : va_P D classes (cW T ad ((S.1, S.2.1, S.2.2.1, S.2.2.2.1, S.2.2.2.2.1, ((va_cpy (a_xc0_k S) (a_xc3_k S) 0 0 160), (va_cpy (a_xc0_n S) (a_xc3_n S) 0 0 160), (va_cpy (a_xc0_r S) (a_xc3_r S) 0 0 160), (f_xc3_z S), (a_xd3_rooms S), (a_xd3_counts S), (a_xd3_names S), (a_xv3_k S), (a_xv3_n S), (a_xv3_r S), (f_xv3_z S)), S.2.2.2.2.2.2.1, S.2.2.2.2.2.2.2.1, S.2.2.2.2.2.2.2.2) : CS)) H := hP
  have hD : va_D A (cW T ad ((S.1, S.2.1, S.2.2.1, S.2.2.2.1, S.2.2.2.2.1, ((va_cpy (a_xc0_k S) (a_xc3_k S) 0 0 160), (va_cpy (a_xc0_n S) (a_xc3_n S) 0 0 160), (va_cpy (a_xc0_r S) (a_xc3_r S) 0 0 160), (f_xc3_z S), (a_xd3_rooms S), (a_xd3_counts S), (a_xd3_names S), (a_xv3_k S), (a_xv3_n S), (a_xv3_r S), (f_xv3_z S)), S.2.2.2.2.2.2.1, S.2.2.2.2.2.2.2.1, S.2.2.2.2.2.2.2.2) : CS)) := hD
  refine lv_aload_n hx hb d_Row_become_56 rfl (lv_at hl 1 rfl) ?_
  refine lv_aload_n hx hb d_Row_become_57 rfl (lv_at hl 2 rfl) ?_
  refine va_get (D := D) (ci := 4) (v := .int (f_xc0_z S)) (C := "PageScribe$Row") (T := F_Row) (N := 4) hx hb hts i_Row hown hK hP 13 (ce_13 _ _ _) cl_4 3 (by decide) (hts _ k_1_49) (fun _ h9 => h9) rfl d_Row_become_58 ?_
  refine va_put (D := D) (ci := 4) (v := .int (f_xc0_z S)) (ty := .int) (C := "PageScribe$Row") (T := F_Row) (N := 4) hx hb hts i_Row t_Row t_Row_ok n_Row hown hK hP hD hS 49 (ce_49 _ _ _) cl_4 3 (by decide) (hts _ k_1_49) (fun _ h9 => h9) rfl (by decide +kernel) rfl rfl (Nat.le_of_ble_eq_true rfl) d_Row_become_61 (fun H locs hP hD hS => ?_)
  rw [cp_xc3_z] at hP hD
  have hP : va_P D classes (cW T ad ((S.1, S.2.1, S.2.2.1, S.2.2.2.1, S.2.2.2.2.1, ((va_cpy (a_xc0_k S) (a_xc3_k S) 0 0 160), (va_cpy (a_xc0_n S) (a_xc3_n S) 0 0 160), (va_cpy (a_xc0_r S) (a_xc3_r S) 0 0 160), (f_xc0_z S), (a_xd3_rooms S), (a_xd3_counts S), (a_xd3_names S), (a_xv3_k S), (a_xv3_n S), (a_xv3_r S), (f_xv3_z S)), S.2.2.2.2.2.2.1, S.2.2.2.2.2.2.2.1, S.2.2.2.2.2.2.2.2) : CS)) H := hP
  have hD : va_D A (cW T ad ((S.1, S.2.1, S.2.2.1, S.2.2.2.1, S.2.2.2.2.1, ((va_cpy (a_xc0_k S) (a_xc3_k S) 0 0 160), (va_cpy (a_xc0_n S) (a_xc3_n S) 0 0 160), (va_cpy (a_xc0_r S) (a_xc3_r S) 0 0 160), (f_xc0_z S), (a_xd3_rooms S), (a_xd3_counts S), (a_xd3_names S), (a_xv3_k S), (a_xv3_n S), (a_xv3_r S), (f_xv3_z S)), S.2.2.2.2.2.2.1, S.2.2.2.2.2.2.2.1, S.2.2.2.2.2.2.2.2) : CS)) := hD
  exact j_vret F hr hlocks hK hS ((S.1, S.2.1, S.2.2.1, S.2.2.2.1, S.2.2.2.2.1, ((va_cpy (a_xc0_k S) (a_xc3_k S) 0 0 160), (va_cpy (a_xc0_n S) (a_xc3_n S) 0 0 160), (va_cpy (a_xc0_r S) (a_xc3_r S) 0 0 160), (f_xc0_z S), (a_xd3_rooms S), (a_xd3_counts S), (a_xd3_names S), (a_xv3_k S), (a_xv3_n S), (a_xv3_r S), (f_xv3_z S)), S.2.2.2.2.2.2.1, S.2.2.2.2.2.2.2.1, S.2.2.2.2.2.2.2.2) : CS) ⟨⟨i_vst, i_vc0, i_vc1, i_vc2, (cpy_dB i_vc0), i_vv0, i_vv1, i_vv2, i_vv3, i_vg, i_wct, i_wln, i_sd0, i_sd1, i_sd2, i_sd3, i_rln, i_rtx, i_rpl, i_rtk, i_cnv, i_pts, i_cik, i_und⟩, (kcL_r S), (kcP_r S), (kcU_r S), (kcW_r S)⟩ hP hD d_Row_become_64
set_option maxHeartbeats 4000000 in
set_option maxRecDepth 100000 in
theorem c_Row_become_56_20 (l : Launch) (D : va_G) (T : Nat → ClassId) (ad : Nat → Nat) (S : CS)  (sz : Nat)  (hI : CIv S) : Met l ⟨"PageScribe$Row", "become", "(LPageScribe$Row;)V"⟩ (wy ⟨"PageScribe$Row", "become", "(LPageScribe$Row;)V"⟩ prog_8_method_9_code 3 none) ({ frames := 1, cells := 0, slots := 0, locals := 70 }) (va_Pc [.ref (ad 56), .ref (ad 20)] (Pw D T (cW T ad S) sz E0)) (va_Qv (fun (u : CS) => CIv u ∧ kcL S u ∧ kcP S u ∧ kcU S u ∧ kcW S u) (fun u t => Bw D T (va_A (cW T ad S) sz) (cW T ad u) t) (va_A (cW T ad S) sz)) 0 0 (va_A (cW T ad S) sz) := by
  refine j_met (y := ⟨"PageScribe$Row", "become", "(LPageScribe$Row;)V"⟩) (b := prog_8_method_9_code) (n := 3) (ret := none) (av := [.ref (ad 56), .ref (ad 20)]) (Qc := fun A => va_Qv (fun (u : CS) => CIv u ∧ kcL S u ∧ kcP S u ∧ kcU S u ∧ kcW S u) (fun u t => Bw D T A (cW T ad u) t) A) (by decide +kernel) (Nat.le_of_ble_eq_true rfl) (fun p e s m args below meth c A ls F hr hlocks hnm hK hP hD hS hA hN hE hl => ?_)
  obtain ⟨hx, hb, hml, hown, hts⟩ := id F
  have hl : lv_has ls 3 [(0, .ref (ad 56)), (1, .ref (ad 20))] := hl
  obtain ⟨i_vst, i_vc0, i_vc1, i_vc2, i_vc3, i_vv0, i_vv1, i_vv2, i_vv3, i_vg, i_wct, i_wln, i_sd0, i_sd1, i_sd2, i_sd3, i_rln, i_rtx, i_rpl, i_rtk, i_cnv, i_pts, i_cik, i_und⟩ := id hI
  refine lv_aload_n hx hb d_Row_become_0 rfl (lv_at hl 0 rfl) ?_
  refine va_get (D := D) (ci := 4) (v := .ref (ad 57)) (C := "PageScribe$Row") (T := F_Row) (N := 4) hx hb hts i_Row hown hK hP 56 (ce_56 _ _ _) cl_4 0 (by decide) (hts _ k_1_46) (fun _ h9 => h9) rfl d_Row_become_1 ?_
  refine va_alen (v := 80) hx hb hK hP 57 0 (ce_57 _ _ _) rfl (show Int32.ofNat 80 = 80 from by decide +kernel) d_Row_become_4 ?_
  refine lv_aload_n hx hb d_Row_become_5 rfl (lv_at hl 1 rfl) ?_
  refine va_get (D := D) (ci := 4) (v := .ref (ad 21)) (C := "PageScribe$Row") (T := F_Row) (N := 4) hx hb hts i_Row hown hK hP 20 (ce_20 _ _ _) cl_4 0 (by decide) (hts _ k_1_46) (fun _ h9 => h9) rfl d_Row_become_6 ?_
  refine va_alen (v := 80) hx hb hK hP 21 0 (ce_21 _ _ _) rfl (show Int32.ofNat 80 = 80 from by decide +kernel) d_Row_become_9 ?_
  refine j_ci (wc := []) (wr := (cW T ad S)) hK hP hD hS hA [] csc rfl csc_all csc_nd (fun _ _ => List.not_mem_nil) (va_runS (As := [.int 80, .int 80]) (rest := []) F (c_Math_min l D T (80 : Int32) (80 : Int32)  s.heap.size) (j_cS (k := 2) hts k_3_221 k_1_21 k_5_101 k_3_220 (by decide +kernel) ⟨Nat.le_of_ble_eq_true rfl, Nat.le_of_ble_eq_true rfl⟩) (j_preS hK hP hD [] rfl (by decide) (fun _ _ _ _ h => h) (fun _ _ _ => trivial)) rfl rfl hl.1 rfl (lv_room (Nat.le_of_ble_eq_true rfl)) d_Row_become_10 ⟨Nat.le_of_ble_eq_true rfl, Nat.le_of_ble_eq_true rfl⟩) (fun rv1 u1 H locs hw1 hP hD hS => ?_)
  have hP : va_P D classes (cW T ad S) H := hP
  have hD : va_D A (cW T ad S) := hD
  have qhw1 : rv1.toInt ≤ 80 ∧ rv1.toInt ≤ 80 ∧ (rv1.toInt = 80 ∨ rv1.toInt = 80) := by simpa only [tI_80] using hw1
  have rrv1 := zt_rng rv1
  refine j_eqi (y := 80) (Int32.toInt_inj.mp (by have := tI_80; omega)) ?_
  refine lv_istore_n (lv' := [(2, .int 80), (0, .ref (ad 56)), (1, .ref (ad 20))]) hx hb d_Row_become_13 rfl hl (by decide) rfl (fun ls hl => ?_)
  refine lv_aload_n hx hb d_Row_become_14 rfl (lv_at hl 2 rfl) ?_
  refine va_get (D := D) (ci := 4) (v := .ref (ad 21)) (C := "PageScribe$Row") (T := F_Row) (N := 4) hx hb hts i_Row hown hK hP 20 (ce_20 _ _ _) cl_4 0 (by decide) (hts _ k_1_46) (fun _ h9 => h9) rfl d_Row_become_15 ?_
  refine lv_iconst (v := 0) hx hb d_Row_become_18 (by decide) ?_
  refine lv_aload_n hx hb d_Row_become_19 rfl (lv_at hl 1 rfl) ?_
  refine va_get (D := D) (ci := 4) (v := .ref (ad 57)) (C := "PageScribe$Row") (T := F_Row) (N := 4) hx hb hts i_Row hown hK hP 56 (ce_56 _ _ _) cl_4 0 (by decide) (hts _ k_1_46) (fun _ h9 => h9) rfl d_Row_become_20 ?_
  refine lv_iconst (v := 0) hx hb d_Row_become_23 (by decide) ?_
  refine lv_iload_n hx hb d_Row_become_24 rfl (lv_at hl 0 rfl) ?_
  refine va_copyi (sp := 0) (dp := 0) (n := 80) hx hb (hml.trans hl.1.symm) hown (hts _ k_5_102) (hts _ k_5_104) (hts _ k_5_103) (hts _ k_1_26) hK hP hD hS 21 57 0 0 (ce_21 _ _ _) (ce_57 _ _ _) rfl rfl rfl (by decide +kernel) (by decide +kernel) (by decide +kernel) (by decide +kernel) (by decide +kernel) (fun _ _ => rfl) (Nat.le_of_ble_eq_true rfl) (by decide +kernel) d_Row_become_25 (fun H locs hP hD hS => ?_)
  rw [cs_xv3_k] at hP hD
  have hP : va_P D classes (cW T ad ((S.1, S.2.1, S.2.2.1, S.2.2.2.1, S.2.2.2.2.1, ((a_xc3_k S), (a_xc3_n S), (a_xc3_r S), (f_xc3_z S), (a_xd3_rooms S), (a_xd3_counts S), (a_xd3_names S), (va_cpy (a_xv0_k S) (a_xv3_k S) 0 0 80), (a_xv3_n S), (a_xv3_r S), (f_xv3_z S)), S.2.2.2.2.2.2.1, S.2.2.2.2.2.2.2.1, S.2.2.2.2.2.2.2.2) : CS)) H := hP
  have hD : va_D A (cW T ad ((S.1, S.2.1, S.2.2.1, S.2.2.2.1, S.2.2.2.2.1, ((a_xc3_k S), (a_xc3_n S), (a_xc3_r S), (f_xc3_z S), (a_xd3_rooms S), (a_xd3_counts S), (a_xd3_names S), (va_cpy (a_xv0_k S) (a_xv3_k S) 0 0 80), (a_xv3_n S), (a_xv3_r S), (f_xv3_z S)), S.2.2.2.2.2.2.1, S.2.2.2.2.2.2.2.1, S.2.2.2.2.2.2.2.2) : CS)) := hD
  refine lv_aload_n hx hb d_Row_become_28 rfl (lv_at hl 2 rfl) ?_
  refine va_get (D := D) (ci := 4) (v := .ref (ad 22)) (C := "PageScribe$Row") (T := F_Row) (N := 4) hx hb hts i_Row hown hK hP 20 (ce_20 _ _ _) cl_4 1 (by decide) (hts _ k_1_47) (fun _ h9 => h9) rfl d_Row_become_29 ?_
  refine lv_iconst (v := 0) hx hb d_Row_become_32 (by decide) ?_
  refine lv_aload_n hx hb d_Row_become_33 rfl (lv_at hl 1 rfl) ?_
  refine va_get (D := D) (ci := 4) (v := .ref (ad 58)) (C := "PageScribe$Row") (T := F_Row) (N := 4) hx hb hts i_Row hown hK hP 56 (ce_56 _ _ _) cl_4 1 (by decide) (hts _ k_1_47) (fun _ h9 => h9) rfl d_Row_become_34 ?_
  refine lv_iconst (v := 0) hx hb d_Row_become_37 (by decide) ?_
  refine lv_iload_n hx hb d_Row_become_38 rfl (lv_at hl 0 rfl) ?_
  refine va_copyi (sp := 0) (dp := 0) (n := 80) hx hb (hml.trans hl.1.symm) hown (hts _ k_5_102) (hts _ k_5_104) (hts _ k_5_103) (hts _ k_1_26) hK hP hD hS 22 58 0 0 (ce_22 _ _ _) (ce_58 _ _ _) rfl rfl rfl (by decide +kernel) (by decide +kernel) (by decide +kernel) (by decide +kernel) (by decide +kernel) (fun _ _ => rfl) (Nat.le_of_ble_eq_true rfl) (by decide +kernel) d_Row_become_39 (fun H locs hP hD hS => ?_)
  rw [cs_xv3_n] at hP hD
  have hP : va_P D classes (cW T ad ((S.1, S.2.1, S.2.2.1, S.2.2.2.1, S.2.2.2.2.1, ((a_xc3_k S), (a_xc3_n S), (a_xc3_r S), (f_xc3_z S), (a_xd3_rooms S), (a_xd3_counts S), (a_xd3_names S), (va_cpy (a_xv0_k S) (a_xv3_k S) 0 0 80), (va_cpy (a_xv0_n S) (a_xv3_n S) 0 0 80), (a_xv3_r S), (f_xv3_z S)), S.2.2.2.2.2.2.1, S.2.2.2.2.2.2.2.1, S.2.2.2.2.2.2.2.2) : CS)) H := hP
  have hD : va_D A (cW T ad ((S.1, S.2.1, S.2.2.1, S.2.2.2.1, S.2.2.2.2.1, ((a_xc3_k S), (a_xc3_n S), (a_xc3_r S), (f_xc3_z S), (a_xd3_rooms S), (a_xd3_counts S), (a_xd3_names S), (va_cpy (a_xv0_k S) (a_xv3_k S) 0 0 80), (va_cpy (a_xv0_n S) (a_xv3_n S) 0 0 80), (a_xv3_r S), (f_xv3_z S)), S.2.2.2.2.2.2.1, S.2.2.2.2.2.2.2.1, S.2.2.2.2.2.2.2.2) : CS)) := hD
  refine lv_aload_n hx hb d_Row_become_42 rfl (lv_at hl 2 rfl) ?_
  refine va_get (D := D) (ci := 4) (v := .ref (ad 23)) (C := "PageScribe$Row") (T := F_Row) (N := 4) hx hb hts i_Row hown hK hP 20 (ce_20 _ _ _) cl_4 2 (by decide) (hts _ k_1_48) (fun _ h9 => h9) rfl d_Row_become_43 ?_
  refine lv_iconst (v := 0) hx hb d_Row_become_46 (by decide) ?_
  refine lv_aload_n hx hb d_Row_become_47 rfl (lv_at hl 1 rfl) ?_
  refine va_get (D := D) (ci := 4) (v := .ref (ad 59)) (C := "PageScribe$Row") (T := F_Row) (N := 4) hx hb hts i_Row hown hK hP 56 (ce_56 _ _ _) cl_4 2 (by decide) (hts _ k_1_48) (fun _ h9 => h9) rfl d_Row_become_48 ?_
  refine lv_iconst (v := 0) hx hb d_Row_become_51 (by decide) ?_
  refine lv_iload_n hx hb d_Row_become_52 rfl (lv_at hl 0 rfl) ?_
  refine va_copyd (sp := 0) (dp := 0) (n := 80) hx hb (hml.trans hl.1.symm) hown (hts _ k_5_102) (hts _ k_5_104) (hts _ k_5_103) (hts _ k_1_26) hK hP hD hS 23 59 3 3 (ce_23 _ _ _) (ce_59 _ _ _) rfl rfl rfl (by decide +kernel) (by decide +kernel) (by decide +kernel) (by decide +kernel) (by decide +kernel) (fun _ _ => rfl) (Nat.le_of_ble_eq_true rfl) (by decide +kernel) d_Row_become_53 (fun H locs hP hD hS => ?_)
  rw [cs_xv3_r] at hP hD
  have hP : va_P D classes (cW T ad ((S.1, S.2.1, S.2.2.1, S.2.2.2.1, S.2.2.2.2.1, ((a_xc3_k S), (a_xc3_n S), (a_xc3_r S), (f_xc3_z S), (a_xd3_rooms S), (a_xd3_counts S), (a_xd3_names S), (va_cpy (a_xv0_k S) (a_xv3_k S) 0 0 80), (va_cpy (a_xv0_n S) (a_xv3_n S) 0 0 80), (va_cpy (a_xv0_r S) (a_xv3_r S) 0 0 80), (f_xv3_z S)), S.2.2.2.2.2.2.1, S.2.2.2.2.2.2.2.1, S.2.2.2.2.2.2.2.2) : CS)) H := hP
  have hD : va_D A (cW T ad ((S.1, S.2.1, S.2.2.1, S.2.2.2.1, S.2.2.2.2.1, ((a_xc3_k S), (a_xc3_n S), (a_xc3_r S), (f_xc3_z S), (a_xd3_rooms S), (a_xd3_counts S), (a_xd3_names S), (va_cpy (a_xv0_k S) (a_xv3_k S) 0 0 80), (va_cpy (a_xv0_n S) (a_xv3_n S) 0 0 80), (va_cpy (a_xv0_r S) (a_xv3_r S) 0 0 80), (f_xv3_z S)), S.2.2.2.2.2.2.1, S.2.2.2.2.2.2.2.1, S.2.2.2.2.2.2.2.2) : CS)) := hD
  refine lv_aload_n hx hb d_Row_become_56 rfl (lv_at hl 1 rfl) ?_
  refine lv_aload_n hx hb d_Row_become_57 rfl (lv_at hl 2 rfl) ?_
  refine va_get (D := D) (ci := 4) (v := .int (f_xv0_z S)) (C := "PageScribe$Row") (T := F_Row) (N := 4) hx hb hts i_Row hown hK hP 20 (ce_20 _ _ _) cl_4 3 (by decide) (hts _ k_1_49) (fun _ h9 => h9) rfl d_Row_become_58 ?_
  refine va_put (D := D) (ci := 4) (v := .int (f_xv0_z S)) (ty := .int) (C := "PageScribe$Row") (T := F_Row) (N := 4) hx hb hts i_Row t_Row t_Row_ok n_Row hown hK hP hD hS 56 (ce_56 _ _ _) cl_4 3 (by decide) (hts _ k_1_49) (fun _ h9 => h9) rfl (by decide +kernel) rfl rfl (Nat.le_of_ble_eq_true rfl) d_Row_become_61 (fun H locs hP hD hS => ?_)
  rw [cp_xv3_z] at hP hD
  have hP : va_P D classes (cW T ad ((S.1, S.2.1, S.2.2.1, S.2.2.2.1, S.2.2.2.2.1, ((a_xc3_k S), (a_xc3_n S), (a_xc3_r S), (f_xc3_z S), (a_xd3_rooms S), (a_xd3_counts S), (a_xd3_names S), (va_cpy (a_xv0_k S) (a_xv3_k S) 0 0 80), (va_cpy (a_xv0_n S) (a_xv3_n S) 0 0 80), (va_cpy (a_xv0_r S) (a_xv3_r S) 0 0 80), (f_xv0_z S)), S.2.2.2.2.2.2.1, S.2.2.2.2.2.2.2.1, S.2.2.2.2.2.2.2.2) : CS)) H := hP
  have hD : va_D A (cW T ad ((S.1, S.2.1, S.2.2.1, S.2.2.2.1, S.2.2.2.2.1, ((a_xc3_k S), (a_xc3_n S), (a_xc3_r S), (f_xc3_z S), (a_xd3_rooms S), (a_xd3_counts S), (a_xd3_names S), (va_cpy (a_xv0_k S) (a_xv3_k S) 0 0 80), (va_cpy (a_xv0_n S) (a_xv3_n S) 0 0 80), (va_cpy (a_xv0_r S) (a_xv3_r S) 0 0 80), (f_xv0_z S)), S.2.2.2.2.2.2.1, S.2.2.2.2.2.2.2.1, S.2.2.2.2.2.2.2.2) : CS)) := hD
  exact j_vret F hr hlocks hK hS ((S.1, S.2.1, S.2.2.1, S.2.2.2.1, S.2.2.2.2.1, ((a_xc3_k S), (a_xc3_n S), (a_xc3_r S), (f_xc3_z S), (a_xd3_rooms S), (a_xd3_counts S), (a_xd3_names S), (va_cpy (a_xv0_k S) (a_xv3_k S) 0 0 80), (va_cpy (a_xv0_n S) (a_xv3_n S) 0 0 80), (va_cpy (a_xv0_r S) (a_xv3_r S) 0 0 80), (f_xv0_z S)), S.2.2.2.2.2.2.1, S.2.2.2.2.2.2.2.1, S.2.2.2.2.2.2.2.2) : CS) ⟨⟨i_vst, i_vc0, i_vc1, i_vc2, i_vc3, i_vv0, i_vv1, i_vv2, (cpy_dB i_vv0), i_vg, i_wct, i_wln, i_sd0, i_sd1, i_sd2, i_sd3, i_rln, i_rtx, i_rpl, i_rtk, i_cnv, i_pts, i_cik, i_und⟩, (kcL_r S), (kcP_r S), (kcU_r S), (kcW_r S)⟩ hP hD d_Row_become_64
set_option maxHeartbeats 4000000 in
set_option maxRecDepth 100000 in
theorem c_Store_become_48_12 (l : Launch) (D : va_G) (T : Nat → ClassId) (ad : Nat → Nat) (S : CS)  (sz : Nat)  (hI : CIv S) : Met l ⟨"PageScribe$Store", "become", "(LPageScribe$Store;)V"⟩ (wy ⟨"PageScribe$Store", "become", "(LPageScribe$Store;)V"⟩ prog_10_method_2_code 2 none) ({ frames := 2, cells := 0, slots := 0, locals := 140 }) (va_Pc [.ref (ad 48), .ref (ad 12)] (Pw D T (cW T ad S) sz E0)) (va_Qv (fun (u : CS) => CIv u ∧ kcL S u ∧ kcP S u ∧ kcU S u ∧ kcW S u) (fun u t => Bw D T (va_A (cW T ad S) sz) (cW T ad u) t) (va_A (cW T ad S) sz)) 0 0 (va_A (cW T ad S) sz) := by
  refine j_met (y := ⟨"PageScribe$Store", "become", "(LPageScribe$Store;)V"⟩) (b := prog_10_method_2_code) (n := 2) (ret := none) (av := [.ref (ad 48), .ref (ad 12)]) (Qc := fun A => va_Qv (fun (u : CS) => CIv u ∧ kcL S u ∧ kcP S u ∧ kcU S u ∧ kcW S u) (fun u t => Bw D T A (cW T ad u) t) A) (by decide +kernel) (Nat.le_of_ble_eq_true rfl) (fun p e s m args below meth c A ls F hr hlocks hnm hK hP hD hS hA hN hE hl => ?_)
  obtain ⟨hx, hb, hml, hown, hts⟩ := id F
  have hl : lv_has ls 2 [(0, .ref (ad 48)), (1, .ref (ad 12))] := hl
  obtain ⟨i_vst, i_vc0, i_vc1, i_vc2, i_vc3, i_vv0, i_vv1, i_vv2, i_vv3, i_vg, i_wct, i_wln, i_sd0, i_sd1, i_sd2, i_sd3, i_rln, i_rtx, i_rpl, i_rtk, i_cnv, i_pts, i_cik, i_und⟩ := id hI
  refine lv_aload_n hx hb d_Store_become_0 rfl (lv_at hl 0 rfl) ?_
  refine va_get (D := D) (ci := 3) (v := .ref (ad 49)) (C := "PageScribe$Store") (T := F_Store) (N := 5) hx hb hts i_Store hown hK hP 48 (ce_48 _ _ _) cl_3 0 (by decide) (hts _ k_1_107) (fun _ h9 => h9) rfl d_Store_become_1 ?_
  refine lv_aload_n hx hb d_Store_become_4 rfl (lv_at hl 1 rfl) ?_
  refine va_get (D := D) (ci := 3) (v := .ref (ad 13)) (C := "PageScribe$Store") (T := F_Store) (N := 5) hx hb hts i_Store hown hK hP 12 (ce_12 _ _ _) cl_3 0 (by decide) (hts _ k_1_107) (fun _ h9 => h9) rfl d_Store_become_5 ?_
  refine jc_cv (w := (fun u => u)) hK hP hD hS hA (va_runV (As := [.ref (ad 13)]) (rest := []) F (c_Row_become_49_13 l D T ad S  s.heap.size ⟨i_vst, i_vc0, i_vc1, i_vc2, i_vc3, i_vv0, i_vv1, i_vv2, i_vv3, i_vg, i_wct, i_wln, i_sd0, i_sd1, i_sd2, i_sd3, i_rln, i_rtx, i_rpl, i_rtk, i_cnv, i_pts, i_cik, i_und⟩) (j_cV (k := 1) (C := "PageScribe$Row") hts k_5_100 k_1_2 k_5_95 k_5_96 k_5_97 (by decide +kernel) ⟨Nat.le_of_ble_eq_true rfl, Nat.le_of_ble_eq_true rfl⟩) (j_preV (q0 := 49) (ci := 4) hK hP hD csc csc_all csc_nd cl_4 (ce_49 _ _ _) (fun _ _ _ _ h => h) (fun _ _ _ => trivial)) rfl rfl hl.1 rfl (lv_room (Nat.le_of_ble_eq_true rfl)) d_Store_become_8 ⟨Nat.le_of_ble_eq_true rfl, Nat.le_of_ble_eq_true rfl⟩) (fun S1 H locs hw1 hP hD hS => ?_)
  have hP : va_P D classes (cW T ad S1) H := hP
  have hD : va_D A (cW T ad S1) := hD
  obtain ⟨⟨i_vst, i_vc0, i_vc1, i_vc2, i_vc3, i_vv0, i_vv1, i_vv2, i_vv3, i_vg, i_wct, i_wln, i_sd0, i_sd1, i_sd2, i_sd3, i_rln, i_rtx, i_rpl, i_rtk, i_cnv, i_pts, i_cik, i_und⟩, kpcL_S1, kpcP_S1, kpcU_S1, kpcW_S1⟩ := hw1
  have kScL_S1 : kcL S S1 := kcL_t (show kcL S S from (kcL_r S)) kpcL_S1
  have kScP_S1 : kcP S S1 := kcP_t (show kcP S S from (kcP_r S)) kpcP_S1
  have kScU_S1 : kcU S S1 := kcU_t (show kcU S S from (kcU_r S)) kpcU_S1
  have kScW_S1 : kcW S S1 := kcW_t (show kcW S S from (kcW_r S)) kpcW_S1
  have nxr_length_S1 : (f_xr_length S1).toInt = (f_xr_length S).toInt := congrArg Int32.toInt kpcL_S1
  have nxr_length_S1 : (f_xr_length S1).toInt = (f_xr_length S).toInt := congrArg Int32.toInt kpcP_S1.1
  have nxr_place_S1 : (f_xr_place S1).toInt = (f_xr_place S).toInt := congrArg Int32.toInt kpcP_S1.2.1
  have nxe_underWay_S1 : (f_xe_underWay S1).toInt = (f_xe_underWay S).toInt := congrArg Int32.toInt kpcU_S1
  have nxp_columns_S1 : (f_xp_columns S1).toInt = (f_xp_columns S).toInt := congrArg Int32.toInt kpcW_S1.1
  have nxp_rows_S1 : (f_xp_rows S1).toInt = (f_xp_rows S).toInt := congrArg Int32.toInt kpcW_S1.2
  refine lv_aload_n hx hb d_Store_become_11 rfl (lv_at hl 0 rfl) ?_
  refine va_get (D := D) (ci := 3) (v := .ref (ad 56)) (C := "PageScribe$Store") (T := F_Store) (N := 5) hx hb hts i_Store hown hK hP 48 (ce_48 _ _ _) cl_3 4 (by decide) (hts _ k_1_114) (fun _ h9 => h9) rfl d_Store_become_12 ?_
  refine lv_aload_n hx hb d_Store_become_15 rfl (lv_at hl 1 rfl) ?_
  refine va_get (D := D) (ci := 3) (v := .ref (ad 20)) (C := "PageScribe$Store") (T := F_Store) (N := 5) hx hb hts i_Store hown hK hP 12 (ce_12 _ _ _) cl_3 4 (by decide) (hts _ k_1_114) (fun _ h9 => h9) rfl d_Store_become_16 ?_
  refine jc_cv (w := (fun u => u)) hK hP hD hS hA (va_runV (As := [.ref (ad 20)]) (rest := []) F (c_Row_become_56_20 l D T ad S1  H.size ⟨i_vst, i_vc0, i_vc1, i_vc2, i_vc3, i_vv0, i_vv1, i_vv2, i_vv3, i_vg, i_wct, i_wln, i_sd0, i_sd1, i_sd2, i_sd3, i_rln, i_rtx, i_rpl, i_rtk, i_cnv, i_pts, i_cik, i_und⟩) (j_cV (k := 1) (C := "PageScribe$Row") hts k_5_100 k_1_2 k_5_95 k_5_96 k_5_97 (by decide +kernel) ⟨Nat.le_of_ble_eq_true rfl, Nat.le_of_ble_eq_true rfl⟩) (j_preV (q0 := 56) (ci := 4) hK hP hD csc csc_all csc_nd cl_4 (ce_56 _ _ _) (fun _ _ _ _ h => h) (fun _ _ _ => trivial)) rfl rfl hl.1 rfl (lv_room (Nat.le_of_ble_eq_true rfl)) d_Store_become_19 ⟨Nat.le_of_ble_eq_true rfl, Nat.le_of_ble_eq_true rfl⟩) (fun S2 H locs hw2 hP hD hS => ?_)
  have hP : va_P D classes (cW T ad S2) H := hP
  have hD : va_D A (cW T ad S2) := hD
  obtain ⟨⟨i_vst, i_vc0, i_vc1, i_vc2, i_vc3, i_vv0, i_vv1, i_vv2, i_vv3, i_vg, i_wct, i_wln, i_sd0, i_sd1, i_sd2, i_sd3, i_rln, i_rtx, i_rpl, i_rtk, i_cnv, i_pts, i_cik, i_und⟩, kpcL_S2, kpcP_S2, kpcU_S2, kpcW_S2⟩ := hw2
  have kScL_S2 : kcL S S2 := kcL_t (show kcL S S1 from kScL_S1) kpcL_S2
  have kScP_S2 : kcP S S2 := kcP_t (show kcP S S1 from kScP_S1) kpcP_S2
  have kScU_S2 : kcU S S2 := kcU_t (show kcU S S1 from kScU_S1) kpcU_S2
  have kScW_S2 : kcW S S2 := kcW_t (show kcW S S1 from kScW_S1) kpcW_S2
  have nxr_length_S2 : (f_xr_length S2).toInt = (f_xr_length S1).toInt := congrArg Int32.toInt kpcL_S2
  have nxr_length_S2 : (f_xr_length S2).toInt = (f_xr_length S1).toInt := congrArg Int32.toInt kpcP_S2.1
  have nxr_place_S2 : (f_xr_place S2).toInt = (f_xr_place S1).toInt := congrArg Int32.toInt kpcP_S2.2.1
  have nxe_underWay_S2 : (f_xe_underWay S2).toInt = (f_xe_underWay S1).toInt := congrArg Int32.toInt kpcU_S2
  have nxp_columns_S2 : (f_xp_columns S2).toInt = (f_xp_columns S1).toInt := congrArg Int32.toInt kpcW_S2.1
  have nxp_rows_S2 : (f_xp_rows S2).toInt = (f_xp_rows S1).toInt := congrArg Int32.toInt kpcW_S2.2
  refine lv_aload_n hx hb d_Store_become_22 rfl (lv_at hl 1 rfl) ?_
  refine va_get (D := D) (ci := 3) (v := .ref (ad 17)) (C := "PageScribe$Store") (T := F_Store) (N := 5) hx hb hts i_Store hown hK hP 12 (ce_12 _ _ _) cl_3 1 (by decide) (hts _ k_1_111) (fun _ h9 => h9) rfl d_Store_become_23 ?_
  refine lv_iconst (v := 0) hx hb d_Store_become_26 (by decide) ?_
  refine lv_aload_n hx hb d_Store_become_27 rfl (lv_at hl 0 rfl) ?_
  refine va_get (D := D) (ci := 3) (v := .ref (ad 53)) (C := "PageScribe$Store") (T := F_Store) (N := 5) hx hb hts i_Store hown hK hP 48 (ce_48 _ _ _) cl_3 1 (by decide) (hts _ k_1_111) (fun _ h9 => h9) rfl d_Store_become_28 ?_
  refine lv_iconst (v := 0) hx hb d_Store_become_31 (by decide) ?_
  refine lv_bipush (v := 7) hx hb d_Store_become_32 (by decide) ?_
  refine va_copyi (sp := 0) (dp := 0) (n := 7) hx hb (hml.trans hl.1.symm) hown (hts _ k_5_105) (hts _ k_5_104) (hts _ k_5_103) (hts _ k_1_26) hK hP hD hS 17 53 0 0 (ce_17 _ _ _) (ce_53 _ _ _) rfl rfl rfl (by decide +kernel) (by decide +kernel) (by decide +kernel) (by decide +kernel) (by decide +kernel) (fun _ _ => rfl) (Nat.le_of_ble_eq_true rfl) (by decide +kernel) d_Store_become_34 (fun H locs hP hD hS => ?_)
  rw [cs_xd3_rooms] at hP hD
  have hP : va_P D classes (cW T ad ((S2.1, S2.2.1, S2.2.2.1, S2.2.2.2.1, S2.2.2.2.2.1, ((a_xc3_k S2), (a_xc3_n S2), (a_xc3_r S2), (f_xc3_z S2), (va_cpy (a_xd0_rooms S2) (a_xd3_rooms S2) 0 0 7), (a_xd3_counts S2), (a_xd3_names S2), (a_xv3_k S2), (a_xv3_n S2), (a_xv3_r S2), (f_xv3_z S2)), S2.2.2.2.2.2.2.1, S2.2.2.2.2.2.2.2.1, S2.2.2.2.2.2.2.2.2) : CS)) H := hP
  have hD : va_D A (cW T ad ((S2.1, S2.2.1, S2.2.2.1, S2.2.2.2.1, S2.2.2.2.2.1, ((a_xc3_k S2), (a_xc3_n S2), (a_xc3_r S2), (f_xc3_z S2), (va_cpy (a_xd0_rooms S2) (a_xd3_rooms S2) 0 0 7), (a_xd3_counts S2), (a_xd3_names S2), (a_xv3_k S2), (a_xv3_n S2), (a_xv3_r S2), (f_xv3_z S2)), S2.2.2.2.2.2.2.1, S2.2.2.2.2.2.2.2.1, S2.2.2.2.2.2.2.2.2) : CS)) := hD
  refine lv_aload_n hx hb d_Store_become_37 rfl (lv_at hl 1 rfl) ?_
  refine va_get (D := D) (ci := 3) (v := .ref (ad 18)) (C := "PageScribe$Store") (T := F_Store) (N := 5) hx hb hts i_Store hown hK hP 12 (ce_12 _ _ _) cl_3 2 (by decide) (hts _ k_1_112) (fun _ h9 => h9) rfl d_Store_become_38 ?_
  refine lv_iconst (v := 0) hx hb d_Store_become_41 (by decide) ?_
  refine lv_aload_n hx hb d_Store_become_42 rfl (lv_at hl 0 rfl) ?_
  refine va_get (D := D) (ci := 3) (v := .ref (ad 54)) (C := "PageScribe$Store") (T := F_Store) (N := 5) hx hb hts i_Store hown hK hP 48 (ce_48 _ _ _) cl_3 2 (by decide) (hts _ k_1_112) (fun _ h9 => h9) rfl d_Store_become_43 ?_
  refine lv_iconst (v := 0) hx hb d_Store_become_46 (by decide) ?_
  refine lv_bipush (v := 7) hx hb d_Store_become_47 (by decide) ?_
  refine va_copyi (sp := 0) (dp := 0) (n := 7) hx hb (hml.trans hl.1.symm) hown (hts _ k_5_105) (hts _ k_5_104) (hts _ k_5_103) (hts _ k_1_26) hK hP hD hS 18 54 0 0 (ce_18 _ _ _) (ce_54 _ _ _) rfl rfl rfl (by decide +kernel) (by decide +kernel) (by decide +kernel) (by decide +kernel) (by decide +kernel) (fun _ _ => rfl) (Nat.le_of_ble_eq_true rfl) (by decide +kernel) d_Store_become_49 (fun H locs hP hD hS => ?_)
  rw [cs_xd3_counts] at hP hD
  have hP : va_P D classes (cW T ad ((S2.1, S2.2.1, S2.2.2.1, S2.2.2.2.1, S2.2.2.2.2.1, ((a_xc3_k S2), (a_xc3_n S2), (a_xc3_r S2), (f_xc3_z S2), (va_cpy (a_xd0_rooms S2) (a_xd3_rooms S2) 0 0 7), (va_cpy (a_xd0_counts S2) (a_xd3_counts S2) 0 0 7), (a_xd3_names S2), (a_xv3_k S2), (a_xv3_n S2), (a_xv3_r S2), (f_xv3_z S2)), S2.2.2.2.2.2.2.1, S2.2.2.2.2.2.2.2.1, S2.2.2.2.2.2.2.2.2) : CS)) H := hP
  have hD : va_D A (cW T ad ((S2.1, S2.2.1, S2.2.2.1, S2.2.2.2.1, S2.2.2.2.2.1, ((a_xc3_k S2), (a_xc3_n S2), (a_xc3_r S2), (f_xc3_z S2), (va_cpy (a_xd0_rooms S2) (a_xd3_rooms S2) 0 0 7), (va_cpy (a_xd0_counts S2) (a_xd3_counts S2) 0 0 7), (a_xd3_names S2), (a_xv3_k S2), (a_xv3_n S2), (a_xv3_r S2), (f_xv3_z S2)), S2.2.2.2.2.2.2.1, S2.2.2.2.2.2.2.2.1, S2.2.2.2.2.2.2.2.2) : CS)) := hD
  refine lv_aload_n hx hb d_Store_become_52 rfl (lv_at hl 1 rfl) ?_
  refine va_get (D := D) (ci := 3) (v := .ref (ad 19)) (C := "PageScribe$Store") (T := F_Store) (N := 5) hx hb hts i_Store hown hK hP 12 (ce_12 _ _ _) cl_3 3 (by decide) (hts _ k_1_113) (fun _ h9 => h9) rfl d_Store_become_53 ?_
  refine lv_iconst (v := 0) hx hb d_Store_become_56 (by decide) ?_
  refine lv_aload_n hx hb d_Store_become_57 rfl (lv_at hl 0 rfl) ?_
  refine va_get (D := D) (ci := 3) (v := .ref (ad 55)) (C := "PageScribe$Store") (T := F_Store) (N := 5) hx hb hts i_Store hown hK hP 48 (ce_48 _ _ _) cl_3 3 (by decide) (hts _ k_1_113) (fun _ h9 => h9) rfl d_Store_become_58 ?_
  refine lv_iconst (v := 0) hx hb d_Store_become_61 (by decide) ?_
  refine lv_bipush (v := 80) hx hb d_Store_become_62 (by decide) ?_
  refine va_copyi (sp := 0) (dp := 0) (n := 80) hx hb (hml.trans hl.1.symm) hown (hts _ k_5_105) (hts _ k_5_104) (hts _ k_5_103) (hts _ k_1_26) hK hP hD hS 19 55 0 0 (ce_19 _ _ _) (ce_55 _ _ _) rfl rfl rfl (by decide +kernel) (by decide +kernel) (by decide +kernel) (by decide +kernel) (by decide +kernel) (fun _ _ => rfl) (Nat.le_of_ble_eq_true rfl) (by decide +kernel) d_Store_become_64 (fun H locs hP hD hS => ?_)
  rw [cs_xd3_names] at hP hD
  have hP : va_P D classes (cW T ad ((S2.1, S2.2.1, S2.2.2.1, S2.2.2.2.1, S2.2.2.2.2.1, ((a_xc3_k S2), (a_xc3_n S2), (a_xc3_r S2), (f_xc3_z S2), (va_cpy (a_xd0_rooms S2) (a_xd3_rooms S2) 0 0 7), (va_cpy (a_xd0_counts S2) (a_xd3_counts S2) 0 0 7), (va_cpy (a_xd0_names S2) (a_xd3_names S2) 0 0 80), (a_xv3_k S2), (a_xv3_n S2), (a_xv3_r S2), (f_xv3_z S2)), S2.2.2.2.2.2.2.1, S2.2.2.2.2.2.2.2.1, S2.2.2.2.2.2.2.2.2) : CS)) H := hP
  have hD : va_D A (cW T ad ((S2.1, S2.2.1, S2.2.2.1, S2.2.2.2.1, S2.2.2.2.2.1, ((a_xc3_k S2), (a_xc3_n S2), (a_xc3_r S2), (f_xc3_z S2), (va_cpy (a_xd0_rooms S2) (a_xd3_rooms S2) 0 0 7), (va_cpy (a_xd0_counts S2) (a_xd3_counts S2) 0 0 7), (va_cpy (a_xd0_names S2) (a_xd3_names S2) 0 0 80), (a_xv3_k S2), (a_xv3_n S2), (a_xv3_r S2), (f_xv3_z S2)), S2.2.2.2.2.2.2.1, S2.2.2.2.2.2.2.2.1, S2.2.2.2.2.2.2.2.2) : CS)) := hD
  exact j_vret F hr hlocks hK hS ((S2.1, S2.2.1, S2.2.2.1, S2.2.2.2.1, S2.2.2.2.2.1, ((a_xc3_k S2), (a_xc3_n S2), (a_xc3_r S2), (f_xc3_z S2), (va_cpy (a_xd0_rooms S2) (a_xd3_rooms S2) 0 0 7), (va_cpy (a_xd0_counts S2) (a_xd3_counts S2) 0 0 7), (va_cpy (a_xd0_names S2) (a_xd3_names S2) 0 0 80), (a_xv3_k S2), (a_xv3_n S2), (a_xv3_r S2), (f_xv3_z S2)), S2.2.2.2.2.2.2.1, S2.2.2.2.2.2.2.2.1, S2.2.2.2.2.2.2.2.2) : CS) ⟨⟨i_vst, i_vc0, i_vc1, i_vc2, i_vc3, i_vv0, i_vv1, i_vv2, i_vv3, i_vg, i_wct, i_wln, i_sd0, i_sd1, i_sd2, (cpy_sd i_sd0), i_rln, i_rtx, i_rpl, i_rtk, i_cnv, i_pts, i_cik, i_und⟩, kScL_S2, kScP_S2, kScU_S2, kScW_S2⟩ hP hD d_Store_become_67
set_option maxHeartbeats 4000000 in
set_option maxRecDepth 100000 in
theorem c_Row_become_13_49 (l : Launch) (D : va_G) (T : Nat → ClassId) (ad : Nat → Nat) (S : CS)  (sz : Nat)  (hI : CIv S) : Met l ⟨"PageScribe$Row", "become", "(LPageScribe$Row;)V"⟩ (wy ⟨"PageScribe$Row", "become", "(LPageScribe$Row;)V"⟩ prog_8_method_9_code 3 none) ({ frames := 1, cells := 0, slots := 0, locals := 70 }) (va_Pc [.ref (ad 13), .ref (ad 49)] (Pw D T (cW T ad S) sz E0)) (va_Qv (fun (u : CS) => CIv u ∧ kcL S u ∧ kcP S u ∧ kcU S u ∧ kcW S u) (fun u t => Bw D T (va_A (cW T ad S) sz) (cW T ad u) t) (va_A (cW T ad S) sz)) 0 0 (va_A (cW T ad S) sz) := by
  refine j_met (y := ⟨"PageScribe$Row", "become", "(LPageScribe$Row;)V"⟩) (b := prog_8_method_9_code) (n := 3) (ret := none) (av := [.ref (ad 13), .ref (ad 49)]) (Qc := fun A => va_Qv (fun (u : CS) => CIv u ∧ kcL S u ∧ kcP S u ∧ kcU S u ∧ kcW S u) (fun u t => Bw D T A (cW T ad u) t) A) (by decide +kernel) (Nat.le_of_ble_eq_true rfl) (fun p e s m args below meth c A ls F hr hlocks hnm hK hP hD hS hA hN hE hl => ?_)
  obtain ⟨hx, hb, hml, hown, hts⟩ := id F
  have hl : lv_has ls 3 [(0, .ref (ad 13)), (1, .ref (ad 49))] := hl
  obtain ⟨i_vst, i_vc0, i_vc1, i_vc2, i_vc3, i_vv0, i_vv1, i_vv2, i_vv3, i_vg, i_wct, i_wln, i_sd0, i_sd1, i_sd2, i_sd3, i_rln, i_rtx, i_rpl, i_rtk, i_cnv, i_pts, i_cik, i_und⟩ := id hI
  refine lv_aload_n hx hb d_Row_become_0 rfl (lv_at hl 0 rfl) ?_
  refine va_get (D := D) (ci := 4) (v := .ref (ad 14)) (C := "PageScribe$Row") (T := F_Row) (N := 4) hx hb hts i_Row hown hK hP 13 (ce_13 _ _ _) cl_4 0 (by decide) (hts _ k_1_46) (fun _ h9 => h9) rfl d_Row_become_1 ?_
  refine va_alen (v := 160) hx hb hK hP 14 0 (ce_14 _ _ _) rfl (show Int32.ofNat 160 = 160 from by decide +kernel) d_Row_become_4 ?_
  refine lv_aload_n hx hb d_Row_become_5 rfl (lv_at hl 1 rfl) ?_
  refine va_get (D := D) (ci := 4) (v := .ref (ad 50)) (C := "PageScribe$Row") (T := F_Row) (N := 4) hx hb hts i_Row hown hK hP 49 (ce_49 _ _ _) cl_4 0 (by decide) (hts _ k_1_46) (fun _ h9 => h9) rfl d_Row_become_6 ?_
  refine va_alen (v := 160) hx hb hK hP 50 0 (ce_50 _ _ _) rfl (show Int32.ofNat 160 = 160 from by decide +kernel) d_Row_become_9 ?_
  refine j_ci (wc := []) (wr := (cW T ad S)) hK hP hD hS hA [] csc rfl csc_all csc_nd (fun _ _ => List.not_mem_nil) (va_runS (As := [.int 160, .int 160]) (rest := []) F (c_Math_min l D T (160 : Int32) (160 : Int32)  s.heap.size) (j_cS (k := 2) hts k_3_221 k_1_21 k_5_101 k_3_220 (by decide +kernel) ⟨Nat.le_of_ble_eq_true rfl, Nat.le_of_ble_eq_true rfl⟩) (j_preS hK hP hD [] rfl (by decide) (fun _ _ _ _ h => h) (fun _ _ _ => trivial)) rfl rfl hl.1 rfl (lv_room (Nat.le_of_ble_eq_true rfl)) d_Row_become_10 ⟨Nat.le_of_ble_eq_true rfl, Nat.le_of_ble_eq_true rfl⟩) (fun rv1 u1 H locs hw1 hP hD hS => ?_)
  have hP : va_P D classes (cW T ad S) H := hP
  have hD : va_D A (cW T ad S) := hD
  have qhw1 : rv1.toInt ≤ 160 ∧ rv1.toInt ≤ 160 ∧ (rv1.toInt = 160 ∨ rv1.toInt = 160) := by simpa only [tI_160] using hw1
  have rrv1 := zt_rng rv1
  refine j_eqi (y := 160) (Int32.toInt_inj.mp (by have := tI_160; omega)) ?_
  refine lv_istore_n (lv' := [(2, .int 160), (0, .ref (ad 13)), (1, .ref (ad 49))]) hx hb d_Row_become_13 rfl hl (by decide) rfl (fun ls hl => ?_)
  refine lv_aload_n hx hb d_Row_become_14 rfl (lv_at hl 2 rfl) ?_
  refine va_get (D := D) (ci := 4) (v := .ref (ad 50)) (C := "PageScribe$Row") (T := F_Row) (N := 4) hx hb hts i_Row hown hK hP 49 (ce_49 _ _ _) cl_4 0 (by decide) (hts _ k_1_46) (fun _ h9 => h9) rfl d_Row_become_15 ?_
  refine lv_iconst (v := 0) hx hb d_Row_become_18 (by decide) ?_
  refine lv_aload_n hx hb d_Row_become_19 rfl (lv_at hl 1 rfl) ?_
  refine va_get (D := D) (ci := 4) (v := .ref (ad 14)) (C := "PageScribe$Row") (T := F_Row) (N := 4) hx hb hts i_Row hown hK hP 13 (ce_13 _ _ _) cl_4 0 (by decide) (hts _ k_1_46) (fun _ h9 => h9) rfl d_Row_become_20 ?_
  refine lv_iconst (v := 0) hx hb d_Row_become_23 (by decide) ?_
  refine lv_iload_n hx hb d_Row_become_24 rfl (lv_at hl 0 rfl) ?_
  refine va_copyi (sp := 0) (dp := 0) (n := 160) hx hb (hml.trans hl.1.symm) hown (hts _ k_5_102) (hts _ k_5_104) (hts _ k_5_103) (hts _ k_1_26) hK hP hD hS 50 14 0 0 (ce_50 _ _ _) (ce_14 _ _ _) rfl rfl rfl (by decide +kernel) (by decide +kernel) (by decide +kernel) (by decide +kernel) (by decide +kernel) (fun _ _ => rfl) (Nat.le_of_ble_eq_true rfl) (by decide +kernel) d_Row_become_25 (fun H locs hP hD hS => ?_)
  rw [cs_xc0_k] at hP hD
  have hP : va_P D classes (cW T ad ((S.1, S.2.1, ((va_cpy (a_xc3_k S) (a_xc0_k S) 0 0 160), (a_xc0_n S), (a_xc0_r S), (f_xc0_z S), (a_xd0_rooms S), (a_xd0_counts S), (a_xd0_names S), (a_xv0_k S), (a_xv0_n S), (a_xv0_r S), (f_xv0_z S)), S.2.2.2.1, S.2.2.2.2.1, S.2.2.2.2.2.1, S.2.2.2.2.2.2.1, S.2.2.2.2.2.2.2.1, S.2.2.2.2.2.2.2.2) : CS)) H := hP
  have hD : va_D A (cW T ad ((S.1, S.2.1, ((va_cpy (a_xc3_k S) (a_xc0_k S) 0 0 160), (a_xc0_n S), (a_xc0_r S), (f_xc0_z S), (a_xd0_rooms S), (a_xd0_counts S), (a_xd0_names S), (a_xv0_k S), (a_xv0_n S), (a_xv0_r S), (f_xv0_z S)), S.2.2.2.1, S.2.2.2.2.1, S.2.2.2.2.2.1, S.2.2.2.2.2.2.1, S.2.2.2.2.2.2.2.1, S.2.2.2.2.2.2.2.2) : CS)) := hD
  refine lv_aload_n hx hb d_Row_become_28 rfl (lv_at hl 2 rfl) ?_
  refine va_get (D := D) (ci := 4) (v := .ref (ad 51)) (C := "PageScribe$Row") (T := F_Row) (N := 4) hx hb hts i_Row hown hK hP 49 (ce_49 _ _ _) cl_4 1 (by decide) (hts _ k_1_47) (fun _ h9 => h9) rfl d_Row_become_29 ?_
  refine lv_iconst (v := 0) hx hb d_Row_become_32 (by decide) ?_
  refine lv_aload_n hx hb d_Row_become_33 rfl (lv_at hl 1 rfl) ?_
  refine va_get (D := D) (ci := 4) (v := .ref (ad 15)) (C := "PageScribe$Row") (T := F_Row) (N := 4) hx hb hts i_Row hown hK hP 13 (ce_13 _ _ _) cl_4 1 (by decide) (hts _ k_1_47) (fun _ h9 => h9) rfl d_Row_become_34 ?_
  refine lv_iconst (v := 0) hx hb d_Row_become_37 (by decide) ?_
  refine lv_iload_n hx hb d_Row_become_38 rfl (lv_at hl 0 rfl) ?_
  refine va_copyi (sp := 0) (dp := 0) (n := 160) hx hb (hml.trans hl.1.symm) hown (hts _ k_5_102) (hts _ k_5_104) (hts _ k_5_103) (hts _ k_1_26) hK hP hD hS 51 15 0 0 (ce_51 _ _ _) (ce_15 _ _ _) rfl rfl rfl (by decide +kernel) (by decide +kernel) (by decide +kernel) (by decide +kernel) (by decide +kernel) (fun _ _ => rfl) (Nat.le_of_ble_eq_true rfl) (by decide +kernel) d_Row_become_39 (fun H locs hP hD hS => ?_)
  rw [cs_xc0_n] at hP hD
  have hP : va_P D classes (cW T ad ((S.1, S.2.1, ((va_cpy (a_xc3_k S) (a_xc0_k S) 0 0 160), (va_cpy (a_xc3_n S) (a_xc0_n S) 0 0 160), (a_xc0_r S), (f_xc0_z S), (a_xd0_rooms S), (a_xd0_counts S), (a_xd0_names S), (a_xv0_k S), (a_xv0_n S), (a_xv0_r S), (f_xv0_z S)), S.2.2.2.1, S.2.2.2.2.1, S.2.2.2.2.2.1, S.2.2.2.2.2.2.1, S.2.2.2.2.2.2.2.1, S.2.2.2.2.2.2.2.2) : CS)) H := hP
  have hD : va_D A (cW T ad ((S.1, S.2.1, ((va_cpy (a_xc3_k S) (a_xc0_k S) 0 0 160), (va_cpy (a_xc3_n S) (a_xc0_n S) 0 0 160), (a_xc0_r S), (f_xc0_z S), (a_xd0_rooms S), (a_xd0_counts S), (a_xd0_names S), (a_xv0_k S), (a_xv0_n S), (a_xv0_r S), (f_xv0_z S)), S.2.2.2.1, S.2.2.2.2.1, S.2.2.2.2.2.1, S.2.2.2.2.2.2.1, S.2.2.2.2.2.2.2.1, S.2.2.2.2.2.2.2.2) : CS)) := hD
  refine lv_aload_n hx hb d_Row_become_42 rfl (lv_at hl 2 rfl) ?_
  refine va_get (D := D) (ci := 4) (v := .ref (ad 52)) (C := "PageScribe$Row") (T := F_Row) (N := 4) hx hb hts i_Row hown hK hP 49 (ce_49 _ _ _) cl_4 2 (by decide) (hts _ k_1_48) (fun _ h9 => h9) rfl d_Row_become_43 ?_
  refine lv_iconst (v := 0) hx hb d_Row_become_46 (by decide) ?_
  refine lv_aload_n hx hb d_Row_become_47 rfl (lv_at hl 1 rfl) ?_
  refine va_get (D := D) (ci := 4) (v := .ref (ad 16)) (C := "PageScribe$Row") (T := F_Row) (N := 4) hx hb hts i_Row hown hK hP 13 (ce_13 _ _ _) cl_4 2 (by decide) (hts _ k_1_48) (fun _ h9 => h9) rfl d_Row_become_48 ?_
  refine lv_iconst (v := 0) hx hb d_Row_become_51 (by decide) ?_
  refine lv_iload_n hx hb d_Row_become_52 rfl (lv_at hl 0 rfl) ?_
  refine va_copyd (sp := 0) (dp := 0) (n := 160) hx hb (hml.trans hl.1.symm) hown (hts _ k_5_102) (hts _ k_5_104) (hts _ k_5_103) (hts _ k_1_26) hK hP hD hS 52 16 3 3 (ce_52 _ _ _) (ce_16 _ _ _) rfl rfl rfl (by decide +kernel) (by decide +kernel) (by decide +kernel) (by decide +kernel) (by decide +kernel) (fun _ _ => rfl) (Nat.le_of_ble_eq_true rfl) (by decide +kernel) d_Row_become_53 (fun H locs hP hD hS => ?_)
  rw [cs_xc0_r] at hP hD
  have hP : va_P D classes (cW T ad ((S.1, S.2.1, ((va_cpy (a_xc3_k S) (a_xc0_k S) 0 0 160), (va_cpy (a_xc3_n S) (a_xc0_n S) 0 0 160), (va_cpy (a_xc3_r S) (a_xc0_r S) 0 0 160), (f_xc0_z S), (a_xd0_rooms S), (a_xd0_counts S), (a_xd0_names S), (a_xv0_k S), (a_xv0_n S), (a_xv0_r S), (f_xv0_z S)), S.2.2.2.1, S.2.2.2.2.1, S.2.2.2.2.2.1, S.2.2.2.2.2.2.1, S.2.2.2.2.2.2.2.1, S.2.2.2.2.2.2.2.2) : CS)) H := hP
  have hD : va_D A (cW T ad ((S.1, S.2.1, ((va_cpy (a_xc3_k S) (a_xc0_k S) 0 0 160), (va_cpy (a_xc3_n S) (a_xc0_n S) 0 0 160), (va_cpy (a_xc3_r S) (a_xc0_r S) 0 0 160), (f_xc0_z S), (a_xd0_rooms S), (a_xd0_counts S), (a_xd0_names S), (a_xv0_k S), (a_xv0_n S), (a_xv0_r S), (f_xv0_z S)), S.2.2.2.1, S.2.2.2.2.1, S.2.2.2.2.2.1, S.2.2.2.2.2.2.1, S.2.2.2.2.2.2.2.1, S.2.2.2.2.2.2.2.2) : CS)) := hD
  refine lv_aload_n hx hb d_Row_become_56 rfl (lv_at hl 1 rfl) ?_
  refine lv_aload_n hx hb d_Row_become_57 rfl (lv_at hl 2 rfl) ?_
  refine va_get (D := D) (ci := 4) (v := .int (f_xc3_z S)) (C := "PageScribe$Row") (T := F_Row) (N := 4) hx hb hts i_Row hown hK hP 49 (ce_49 _ _ _) cl_4 3 (by decide) (hts _ k_1_49) (fun _ h9 => h9) rfl d_Row_become_58 ?_
  refine va_put (D := D) (ci := 4) (v := .int (f_xc3_z S)) (ty := .int) (C := "PageScribe$Row") (T := F_Row) (N := 4) hx hb hts i_Row t_Row t_Row_ok n_Row hown hK hP hD hS 13 (ce_13 _ _ _) cl_4 3 (by decide) (hts _ k_1_49) (fun _ h9 => h9) rfl (by decide +kernel) rfl rfl (Nat.le_of_ble_eq_true rfl) d_Row_become_61 (fun H locs hP hD hS => ?_)
  rw [cp_xc0_z] at hP hD
  have hP : va_P D classes (cW T ad ((S.1, S.2.1, ((va_cpy (a_xc3_k S) (a_xc0_k S) 0 0 160), (va_cpy (a_xc3_n S) (a_xc0_n S) 0 0 160), (va_cpy (a_xc3_r S) (a_xc0_r S) 0 0 160), (f_xc3_z S), (a_xd0_rooms S), (a_xd0_counts S), (a_xd0_names S), (a_xv0_k S), (a_xv0_n S), (a_xv0_r S), (f_xv0_z S)), S.2.2.2.1, S.2.2.2.2.1, S.2.2.2.2.2.1, S.2.2.2.2.2.2.1, S.2.2.2.2.2.2.2.1, S.2.2.2.2.2.2.2.2) : CS)) H := hP
  have hD : va_D A (cW T ad ((S.1, S.2.1, ((va_cpy (a_xc3_k S) (a_xc0_k S) 0 0 160), (va_cpy (a_xc3_n S) (a_xc0_n S) 0 0 160), (va_cpy (a_xc3_r S) (a_xc0_r S) 0 0 160), (f_xc3_z S), (a_xd0_rooms S), (a_xd0_counts S), (a_xd0_names S), (a_xv0_k S), (a_xv0_n S), (a_xv0_r S), (f_xv0_z S)), S.2.2.2.1, S.2.2.2.2.1, S.2.2.2.2.2.1, S.2.2.2.2.2.2.1, S.2.2.2.2.2.2.2.1, S.2.2.2.2.2.2.2.2) : CS)) := hD
  exact j_vret F hr hlocks hK hS ((S.1, S.2.1, ((va_cpy (a_xc3_k S) (a_xc0_k S) 0 0 160), (va_cpy (a_xc3_n S) (a_xc0_n S) 0 0 160), (va_cpy (a_xc3_r S) (a_xc0_r S) 0 0 160), (f_xc3_z S), (a_xd0_rooms S), (a_xd0_counts S), (a_xd0_names S), (a_xv0_k S), (a_xv0_n S), (a_xv0_r S), (f_xv0_z S)), S.2.2.2.1, S.2.2.2.2.1, S.2.2.2.2.2.1, S.2.2.2.2.2.2.1, S.2.2.2.2.2.2.2.1, S.2.2.2.2.2.2.2.2) : CS) ⟨⟨i_vst, (cpy_dB i_vc3), i_vc1, i_vc2, i_vc3, i_vv0, i_vv1, i_vv2, i_vv3, i_vg, i_wct, i_wln, i_sd0, i_sd1, i_sd2, i_sd3, i_rln, i_rtx, i_rpl, i_rtk, i_cnv, i_pts, i_cik, i_und⟩, (kcL_r S), (kcP_r S), (kcU_r S), (kcW_r S)⟩ hP hD d_Row_become_64
set_option maxHeartbeats 4000000 in
set_option maxRecDepth 100000 in
theorem c_Row_become_20_56 (l : Launch) (D : va_G) (T : Nat → ClassId) (ad : Nat → Nat) (S : CS)  (sz : Nat)  (hI : CIv S) : Met l ⟨"PageScribe$Row", "become", "(LPageScribe$Row;)V"⟩ (wy ⟨"PageScribe$Row", "become", "(LPageScribe$Row;)V"⟩ prog_8_method_9_code 3 none) ({ frames := 1, cells := 0, slots := 0, locals := 70 }) (va_Pc [.ref (ad 20), .ref (ad 56)] (Pw D T (cW T ad S) sz E0)) (va_Qv (fun (u : CS) => CIv u ∧ kcL S u ∧ kcP S u ∧ kcU S u ∧ kcW S u) (fun u t => Bw D T (va_A (cW T ad S) sz) (cW T ad u) t) (va_A (cW T ad S) sz)) 0 0 (va_A (cW T ad S) sz) := by
  refine j_met (y := ⟨"PageScribe$Row", "become", "(LPageScribe$Row;)V"⟩) (b := prog_8_method_9_code) (n := 3) (ret := none) (av := [.ref (ad 20), .ref (ad 56)]) (Qc := fun A => va_Qv (fun (u : CS) => CIv u ∧ kcL S u ∧ kcP S u ∧ kcU S u ∧ kcW S u) (fun u t => Bw D T A (cW T ad u) t) A) (by decide +kernel) (Nat.le_of_ble_eq_true rfl) (fun p e s m args below meth c A ls F hr hlocks hnm hK hP hD hS hA hN hE hl => ?_)
  obtain ⟨hx, hb, hml, hown, hts⟩ := id F
  have hl : lv_has ls 3 [(0, .ref (ad 20)), (1, .ref (ad 56))] := hl
  obtain ⟨i_vst, i_vc0, i_vc1, i_vc2, i_vc3, i_vv0, i_vv1, i_vv2, i_vv3, i_vg, i_wct, i_wln, i_sd0, i_sd1, i_sd2, i_sd3, i_rln, i_rtx, i_rpl, i_rtk, i_cnv, i_pts, i_cik, i_und⟩ := id hI
  refine lv_aload_n hx hb d_Row_become_0 rfl (lv_at hl 0 rfl) ?_
  refine va_get (D := D) (ci := 4) (v := .ref (ad 21)) (C := "PageScribe$Row") (T := F_Row) (N := 4) hx hb hts i_Row hown hK hP 20 (ce_20 _ _ _) cl_4 0 (by decide) (hts _ k_1_46) (fun _ h9 => h9) rfl d_Row_become_1 ?_
  refine va_alen (v := 80) hx hb hK hP 21 0 (ce_21 _ _ _) rfl (show Int32.ofNat 80 = 80 from by decide +kernel) d_Row_become_4 ?_
  refine lv_aload_n hx hb d_Row_become_5 rfl (lv_at hl 1 rfl) ?_
  refine va_get (D := D) (ci := 4) (v := .ref (ad 57)) (C := "PageScribe$Row") (T := F_Row) (N := 4) hx hb hts i_Row hown hK hP 56 (ce_56 _ _ _) cl_4 0 (by decide) (hts _ k_1_46) (fun _ h9 => h9) rfl d_Row_become_6 ?_
  refine va_alen (v := 80) hx hb hK hP 57 0 (ce_57 _ _ _) rfl (show Int32.ofNat 80 = 80 from by decide +kernel) d_Row_become_9 ?_
  refine j_ci (wc := []) (wr := (cW T ad S)) hK hP hD hS hA [] csc rfl csc_all csc_nd (fun _ _ => List.not_mem_nil) (va_runS (As := [.int 80, .int 80]) (rest := []) F (c_Math_min l D T (80 : Int32) (80 : Int32)  s.heap.size) (j_cS (k := 2) hts k_3_221 k_1_21 k_5_101 k_3_220 (by decide +kernel) ⟨Nat.le_of_ble_eq_true rfl, Nat.le_of_ble_eq_true rfl⟩) (j_preS hK hP hD [] rfl (by decide) (fun _ _ _ _ h => h) (fun _ _ _ => trivial)) rfl rfl hl.1 rfl (lv_room (Nat.le_of_ble_eq_true rfl)) d_Row_become_10 ⟨Nat.le_of_ble_eq_true rfl, Nat.le_of_ble_eq_true rfl⟩) (fun rv1 u1 H locs hw1 hP hD hS => ?_)
  have hP : va_P D classes (cW T ad S) H := hP
  have hD : va_D A (cW T ad S) := hD
  have qhw1 : rv1.toInt ≤ 80 ∧ rv1.toInt ≤ 80 ∧ (rv1.toInt = 80 ∨ rv1.toInt = 80) := by simpa only [tI_80] using hw1
  have rrv1 := zt_rng rv1
  refine j_eqi (y := 80) (Int32.toInt_inj.mp (by have := tI_80; omega)) ?_
  refine lv_istore_n (lv' := [(2, .int 80), (0, .ref (ad 20)), (1, .ref (ad 56))]) hx hb d_Row_become_13 rfl hl (by decide) rfl (fun ls hl => ?_)
  refine lv_aload_n hx hb d_Row_become_14 rfl (lv_at hl 2 rfl) ?_
  refine va_get (D := D) (ci := 4) (v := .ref (ad 57)) (C := "PageScribe$Row") (T := F_Row) (N := 4) hx hb hts i_Row hown hK hP 56 (ce_56 _ _ _) cl_4 0 (by decide) (hts _ k_1_46) (fun _ h9 => h9) rfl d_Row_become_15 ?_
  refine lv_iconst (v := 0) hx hb d_Row_become_18 (by decide) ?_
  refine lv_aload_n hx hb d_Row_become_19 rfl (lv_at hl 1 rfl) ?_
  refine va_get (D := D) (ci := 4) (v := .ref (ad 21)) (C := "PageScribe$Row") (T := F_Row) (N := 4) hx hb hts i_Row hown hK hP 20 (ce_20 _ _ _) cl_4 0 (by decide) (hts _ k_1_46) (fun _ h9 => h9) rfl d_Row_become_20 ?_
  refine lv_iconst (v := 0) hx hb d_Row_become_23 (by decide) ?_
  refine lv_iload_n hx hb d_Row_become_24 rfl (lv_at hl 0 rfl) ?_
  refine va_copyi (sp := 0) (dp := 0) (n := 80) hx hb (hml.trans hl.1.symm) hown (hts _ k_5_102) (hts _ k_5_104) (hts _ k_5_103) (hts _ k_1_26) hK hP hD hS 57 21 0 0 (ce_57 _ _ _) (ce_21 _ _ _) rfl rfl rfl (by decide +kernel) (by decide +kernel) (by decide +kernel) (by decide +kernel) (by decide +kernel) (fun _ _ => rfl) (Nat.le_of_ble_eq_true rfl) (by decide +kernel) d_Row_become_25 (fun H locs hP hD hS => ?_)
  rw [cs_xv0_k] at hP hD
  have hP : va_P D classes (cW T ad ((S.1, S.2.1, ((a_xc0_k S), (a_xc0_n S), (a_xc0_r S), (f_xc0_z S), (a_xd0_rooms S), (a_xd0_counts S), (a_xd0_names S), (va_cpy (a_xv3_k S) (a_xv0_k S) 0 0 80), (a_xv0_n S), (a_xv0_r S), (f_xv0_z S)), S.2.2.2.1, S.2.2.2.2.1, S.2.2.2.2.2.1, S.2.2.2.2.2.2.1, S.2.2.2.2.2.2.2.1, S.2.2.2.2.2.2.2.2) : CS)) H := hP
  have hD : va_D A (cW T ad ((S.1, S.2.1, ((a_xc0_k S), (a_xc0_n S), (a_xc0_r S), (f_xc0_z S), (a_xd0_rooms S), (a_xd0_counts S), (a_xd0_names S), (va_cpy (a_xv3_k S) (a_xv0_k S) 0 0 80), (a_xv0_n S), (a_xv0_r S), (f_xv0_z S)), S.2.2.2.1, S.2.2.2.2.1, S.2.2.2.2.2.1, S.2.2.2.2.2.2.1, S.2.2.2.2.2.2.2.1, S.2.2.2.2.2.2.2.2) : CS)) := hD
  refine lv_aload_n hx hb d_Row_become_28 rfl (lv_at hl 2 rfl) ?_
  refine va_get (D := D) (ci := 4) (v := .ref (ad 58)) (C := "PageScribe$Row") (T := F_Row) (N := 4) hx hb hts i_Row hown hK hP 56 (ce_56 _ _ _) cl_4 1 (by decide) (hts _ k_1_47) (fun _ h9 => h9) rfl d_Row_become_29 ?_
  refine lv_iconst (v := 0) hx hb d_Row_become_32 (by decide) ?_
  refine lv_aload_n hx hb d_Row_become_33 rfl (lv_at hl 1 rfl) ?_
  refine va_get (D := D) (ci := 4) (v := .ref (ad 22)) (C := "PageScribe$Row") (T := F_Row) (N := 4) hx hb hts i_Row hown hK hP 20 (ce_20 _ _ _) cl_4 1 (by decide) (hts _ k_1_47) (fun _ h9 => h9) rfl d_Row_become_34 ?_
  refine lv_iconst (v := 0) hx hb d_Row_become_37 (by decide) ?_
  refine lv_iload_n hx hb d_Row_become_38 rfl (lv_at hl 0 rfl) ?_
  refine va_copyi (sp := 0) (dp := 0) (n := 80) hx hb (hml.trans hl.1.symm) hown (hts _ k_5_102) (hts _ k_5_104) (hts _ k_5_103) (hts _ k_1_26) hK hP hD hS 58 22 0 0 (ce_58 _ _ _) (ce_22 _ _ _) rfl rfl rfl (by decide +kernel) (by decide +kernel) (by decide +kernel) (by decide +kernel) (by decide +kernel) (fun _ _ => rfl) (Nat.le_of_ble_eq_true rfl) (by decide +kernel) d_Row_become_39 (fun H locs hP hD hS => ?_)
  rw [cs_xv0_n] at hP hD
  have hP : va_P D classes (cW T ad ((S.1, S.2.1, ((a_xc0_k S), (a_xc0_n S), (a_xc0_r S), (f_xc0_z S), (a_xd0_rooms S), (a_xd0_counts S), (a_xd0_names S), (va_cpy (a_xv3_k S) (a_xv0_k S) 0 0 80), (va_cpy (a_xv3_n S) (a_xv0_n S) 0 0 80), (a_xv0_r S), (f_xv0_z S)), S.2.2.2.1, S.2.2.2.2.1, S.2.2.2.2.2.1, S.2.2.2.2.2.2.1, S.2.2.2.2.2.2.2.1, S.2.2.2.2.2.2.2.2) : CS)) H := hP
  have hD : va_D A (cW T ad ((S.1, S.2.1, ((a_xc0_k S), (a_xc0_n S), (a_xc0_r S), (f_xc0_z S), (a_xd0_rooms S), (a_xd0_counts S), (a_xd0_names S), (va_cpy (a_xv3_k S) (a_xv0_k S) 0 0 80), (va_cpy (a_xv3_n S) (a_xv0_n S) 0 0 80), (a_xv0_r S), (f_xv0_z S)), S.2.2.2.1, S.2.2.2.2.1, S.2.2.2.2.2.1, S.2.2.2.2.2.2.1, S.2.2.2.2.2.2.2.1, S.2.2.2.2.2.2.2.2) : CS)) := hD
  refine lv_aload_n hx hb d_Row_become_42 rfl (lv_at hl 2 rfl) ?_
  refine va_get (D := D) (ci := 4) (v := .ref (ad 59)) (C := "PageScribe$Row") (T := F_Row) (N := 4) hx hb hts i_Row hown hK hP 56 (ce_56 _ _ _) cl_4 2 (by decide) (hts _ k_1_48) (fun _ h9 => h9) rfl d_Row_become_43 ?_
  refine lv_iconst (v := 0) hx hb d_Row_become_46 (by decide) ?_
  refine lv_aload_n hx hb d_Row_become_47 rfl (lv_at hl 1 rfl) ?_
  refine va_get (D := D) (ci := 4) (v := .ref (ad 23)) (C := "PageScribe$Row") (T := F_Row) (N := 4) hx hb hts i_Row hown hK hP 20 (ce_20 _ _ _) cl_4 2 (by decide) (hts _ k_1_48) (fun _ h9 => h9) rfl d_Row_become_48 ?_
  refine lv_iconst (v := 0) hx hb d_Row_become_51 (by decide) ?_
  refine lv_iload_n hx hb d_Row_become_52 rfl (lv_at hl 0 rfl) ?_
  refine va_copyd (sp := 0) (dp := 0) (n := 80) hx hb (hml.trans hl.1.symm) hown (hts _ k_5_102) (hts _ k_5_104) (hts _ k_5_103) (hts _ k_1_26) hK hP hD hS 59 23 3 3 (ce_59 _ _ _) (ce_23 _ _ _) rfl rfl rfl (by decide +kernel) (by decide +kernel) (by decide +kernel) (by decide +kernel) (by decide +kernel) (fun _ _ => rfl) (Nat.le_of_ble_eq_true rfl) (by decide +kernel) d_Row_become_53 (fun H locs hP hD hS => ?_)
  rw [cs_xv0_r] at hP hD
  have hP : va_P D classes (cW T ad ((S.1, S.2.1, ((a_xc0_k S), (a_xc0_n S), (a_xc0_r S), (f_xc0_z S), (a_xd0_rooms S), (a_xd0_counts S), (a_xd0_names S), (va_cpy (a_xv3_k S) (a_xv0_k S) 0 0 80), (va_cpy (a_xv3_n S) (a_xv0_n S) 0 0 80), (va_cpy (a_xv3_r S) (a_xv0_r S) 0 0 80), (f_xv0_z S)), S.2.2.2.1, S.2.2.2.2.1, S.2.2.2.2.2.1, S.2.2.2.2.2.2.1, S.2.2.2.2.2.2.2.1, S.2.2.2.2.2.2.2.2) : CS)) H := hP
  have hD : va_D A (cW T ad ((S.1, S.2.1, ((a_xc0_k S), (a_xc0_n S), (a_xc0_r S), (f_xc0_z S), (a_xd0_rooms S), (a_xd0_counts S), (a_xd0_names S), (va_cpy (a_xv3_k S) (a_xv0_k S) 0 0 80), (va_cpy (a_xv3_n S) (a_xv0_n S) 0 0 80), (va_cpy (a_xv3_r S) (a_xv0_r S) 0 0 80), (f_xv0_z S)), S.2.2.2.1, S.2.2.2.2.1, S.2.2.2.2.2.1, S.2.2.2.2.2.2.1, S.2.2.2.2.2.2.2.1, S.2.2.2.2.2.2.2.2) : CS)) := hD
  refine lv_aload_n hx hb d_Row_become_56 rfl (lv_at hl 1 rfl) ?_
  refine lv_aload_n hx hb d_Row_become_57 rfl (lv_at hl 2 rfl) ?_
  refine va_get (D := D) (ci := 4) (v := .int (f_xv3_z S)) (C := "PageScribe$Row") (T := F_Row) (N := 4) hx hb hts i_Row hown hK hP 56 (ce_56 _ _ _) cl_4 3 (by decide) (hts _ k_1_49) (fun _ h9 => h9) rfl d_Row_become_58 ?_
  refine va_put (D := D) (ci := 4) (v := .int (f_xv3_z S)) (ty := .int) (C := "PageScribe$Row") (T := F_Row) (N := 4) hx hb hts i_Row t_Row t_Row_ok n_Row hown hK hP hD hS 20 (ce_20 _ _ _) cl_4 3 (by decide) (hts _ k_1_49) (fun _ h9 => h9) rfl (by decide +kernel) rfl rfl (Nat.le_of_ble_eq_true rfl) d_Row_become_61 (fun H locs hP hD hS => ?_)
  rw [cp_xv0_z] at hP hD
  have hP : va_P D classes (cW T ad ((S.1, S.2.1, ((a_xc0_k S), (a_xc0_n S), (a_xc0_r S), (f_xc0_z S), (a_xd0_rooms S), (a_xd0_counts S), (a_xd0_names S), (va_cpy (a_xv3_k S) (a_xv0_k S) 0 0 80), (va_cpy (a_xv3_n S) (a_xv0_n S) 0 0 80), (va_cpy (a_xv3_r S) (a_xv0_r S) 0 0 80), (f_xv3_z S)), S.2.2.2.1, S.2.2.2.2.1, S.2.2.2.2.2.1, S.2.2.2.2.2.2.1, S.2.2.2.2.2.2.2.1, S.2.2.2.2.2.2.2.2) : CS)) H := hP
  have hD : va_D A (cW T ad ((S.1, S.2.1, ((a_xc0_k S), (a_xc0_n S), (a_xc0_r S), (f_xc0_z S), (a_xd0_rooms S), (a_xd0_counts S), (a_xd0_names S), (va_cpy (a_xv3_k S) (a_xv0_k S) 0 0 80), (va_cpy (a_xv3_n S) (a_xv0_n S) 0 0 80), (va_cpy (a_xv3_r S) (a_xv0_r S) 0 0 80), (f_xv3_z S)), S.2.2.2.1, S.2.2.2.2.1, S.2.2.2.2.2.1, S.2.2.2.2.2.2.1, S.2.2.2.2.2.2.2.1, S.2.2.2.2.2.2.2.2) : CS)) := hD
  exact j_vret F hr hlocks hK hS ((S.1, S.2.1, ((a_xc0_k S), (a_xc0_n S), (a_xc0_r S), (f_xc0_z S), (a_xd0_rooms S), (a_xd0_counts S), (a_xd0_names S), (va_cpy (a_xv3_k S) (a_xv0_k S) 0 0 80), (va_cpy (a_xv3_n S) (a_xv0_n S) 0 0 80), (va_cpy (a_xv3_r S) (a_xv0_r S) 0 0 80), (f_xv3_z S)), S.2.2.2.1, S.2.2.2.2.1, S.2.2.2.2.2.1, S.2.2.2.2.2.2.1, S.2.2.2.2.2.2.2.1, S.2.2.2.2.2.2.2.2) : CS) ⟨⟨i_vst, i_vc0, i_vc1, i_vc2, i_vc3, (cpy_dB i_vv3), i_vv1, i_vv2, i_vv3, i_vg, i_wct, i_wln, i_sd0, i_sd1, i_sd2, i_sd3, i_rln, i_rtx, i_rpl, i_rtk, i_cnv, i_pts, i_cik, i_und⟩, (kcL_r S), (kcP_r S), (kcU_r S), (kcW_r S)⟩ hP hD d_Row_become_64
set_option maxHeartbeats 4000000 in
set_option maxRecDepth 100000 in
theorem c_Store_become_12_48 (l : Launch) (D : va_G) (T : Nat → ClassId) (ad : Nat → Nat) (S : CS)  (sz : Nat)  (hI : CIv S) : Met l ⟨"PageScribe$Store", "become", "(LPageScribe$Store;)V"⟩ (wy ⟨"PageScribe$Store", "become", "(LPageScribe$Store;)V"⟩ prog_10_method_2_code 2 none) ({ frames := 2, cells := 0, slots := 0, locals := 140 }) (va_Pc [.ref (ad 12), .ref (ad 48)] (Pw D T (cW T ad S) sz E0)) (va_Qv (fun (u : CS) => CIv u ∧ kcL S u ∧ kcP S u ∧ kcU S u ∧ kcW S u) (fun u t => Bw D T (va_A (cW T ad S) sz) (cW T ad u) t) (va_A (cW T ad S) sz)) 0 0 (va_A (cW T ad S) sz) := by
  refine j_met (y := ⟨"PageScribe$Store", "become", "(LPageScribe$Store;)V"⟩) (b := prog_10_method_2_code) (n := 2) (ret := none) (av := [.ref (ad 12), .ref (ad 48)]) (Qc := fun A => va_Qv (fun (u : CS) => CIv u ∧ kcL S u ∧ kcP S u ∧ kcU S u ∧ kcW S u) (fun u t => Bw D T A (cW T ad u) t) A) (by decide +kernel) (Nat.le_of_ble_eq_true rfl) (fun p e s m args below meth c A ls F hr hlocks hnm hK hP hD hS hA hN hE hl => ?_)
  obtain ⟨hx, hb, hml, hown, hts⟩ := id F
  have hl : lv_has ls 2 [(0, .ref (ad 12)), (1, .ref (ad 48))] := hl
  obtain ⟨i_vst, i_vc0, i_vc1, i_vc2, i_vc3, i_vv0, i_vv1, i_vv2, i_vv3, i_vg, i_wct, i_wln, i_sd0, i_sd1, i_sd2, i_sd3, i_rln, i_rtx, i_rpl, i_rtk, i_cnv, i_pts, i_cik, i_und⟩ := id hI
  refine lv_aload_n hx hb d_Store_become_0 rfl (lv_at hl 0 rfl) ?_
  refine va_get (D := D) (ci := 3) (v := .ref (ad 13)) (C := "PageScribe$Store") (T := F_Store) (N := 5) hx hb hts i_Store hown hK hP 12 (ce_12 _ _ _) cl_3 0 (by decide) (hts _ k_1_107) (fun _ h9 => h9) rfl d_Store_become_1 ?_
  refine lv_aload_n hx hb d_Store_become_4 rfl (lv_at hl 1 rfl) ?_
  refine va_get (D := D) (ci := 3) (v := .ref (ad 49)) (C := "PageScribe$Store") (T := F_Store) (N := 5) hx hb hts i_Store hown hK hP 48 (ce_48 _ _ _) cl_3 0 (by decide) (hts _ k_1_107) (fun _ h9 => h9) rfl d_Store_become_5 ?_
  refine jc_cv (w := (fun u => u)) hK hP hD hS hA (va_runV (As := [.ref (ad 49)]) (rest := []) F (c_Row_become_13_49 l D T ad S  s.heap.size ⟨i_vst, i_vc0, i_vc1, i_vc2, i_vc3, i_vv0, i_vv1, i_vv2, i_vv3, i_vg, i_wct, i_wln, i_sd0, i_sd1, i_sd2, i_sd3, i_rln, i_rtx, i_rpl, i_rtk, i_cnv, i_pts, i_cik, i_und⟩) (j_cV (k := 1) (C := "PageScribe$Row") hts k_5_100 k_1_2 k_5_95 k_5_96 k_5_97 (by decide +kernel) ⟨Nat.le_of_ble_eq_true rfl, Nat.le_of_ble_eq_true rfl⟩) (j_preV (q0 := 13) (ci := 4) hK hP hD csc csc_all csc_nd cl_4 (ce_13 _ _ _) (fun _ _ _ _ h => h) (fun _ _ _ => trivial)) rfl rfl hl.1 rfl (lv_room (Nat.le_of_ble_eq_true rfl)) d_Store_become_8 ⟨Nat.le_of_ble_eq_true rfl, Nat.le_of_ble_eq_true rfl⟩) (fun S1 H locs hw1 hP hD hS => ?_)
  have hP : va_P D classes (cW T ad S1) H := hP
  have hD : va_D A (cW T ad S1) := hD
  obtain ⟨⟨i_vst, i_vc0, i_vc1, i_vc2, i_vc3, i_vv0, i_vv1, i_vv2, i_vv3, i_vg, i_wct, i_wln, i_sd0, i_sd1, i_sd2, i_sd3, i_rln, i_rtx, i_rpl, i_rtk, i_cnv, i_pts, i_cik, i_und⟩, kpcL_S1, kpcP_S1, kpcU_S1, kpcW_S1⟩ := hw1
  have kScL_S1 : kcL S S1 := kcL_t (show kcL S S from (kcL_r S)) kpcL_S1
  have kScP_S1 : kcP S S1 := kcP_t (show kcP S S from (kcP_r S)) kpcP_S1
  have kScU_S1 : kcU S S1 := kcU_t (show kcU S S from (kcU_r S)) kpcU_S1
  have kScW_S1 : kcW S S1 := kcW_t (show kcW S S from (kcW_r S)) kpcW_S1
  have nxr_length_S1 : (f_xr_length S1).toInt = (f_xr_length S).toInt := congrArg Int32.toInt kpcL_S1
  have nxr_length_S1 : (f_xr_length S1).toInt = (f_xr_length S).toInt := congrArg Int32.toInt kpcP_S1.1
  have nxr_place_S1 : (f_xr_place S1).toInt = (f_xr_place S).toInt := congrArg Int32.toInt kpcP_S1.2.1
  have nxe_underWay_S1 : (f_xe_underWay S1).toInt = (f_xe_underWay S).toInt := congrArg Int32.toInt kpcU_S1
  have nxp_columns_S1 : (f_xp_columns S1).toInt = (f_xp_columns S).toInt := congrArg Int32.toInt kpcW_S1.1
  have nxp_rows_S1 : (f_xp_rows S1).toInt = (f_xp_rows S).toInt := congrArg Int32.toInt kpcW_S1.2
  refine lv_aload_n hx hb d_Store_become_11 rfl (lv_at hl 0 rfl) ?_
  refine va_get (D := D) (ci := 3) (v := .ref (ad 20)) (C := "PageScribe$Store") (T := F_Store) (N := 5) hx hb hts i_Store hown hK hP 12 (ce_12 _ _ _) cl_3 4 (by decide) (hts _ k_1_114) (fun _ h9 => h9) rfl d_Store_become_12 ?_
  refine lv_aload_n hx hb d_Store_become_15 rfl (lv_at hl 1 rfl) ?_
  refine va_get (D := D) (ci := 3) (v := .ref (ad 56)) (C := "PageScribe$Store") (T := F_Store) (N := 5) hx hb hts i_Store hown hK hP 48 (ce_48 _ _ _) cl_3 4 (by decide) (hts _ k_1_114) (fun _ h9 => h9) rfl d_Store_become_16 ?_
  refine jc_cv (w := (fun u => u)) hK hP hD hS hA (va_runV (As := [.ref (ad 56)]) (rest := []) F (c_Row_become_20_56 l D T ad S1  H.size ⟨i_vst, i_vc0, i_vc1, i_vc2, i_vc3, i_vv0, i_vv1, i_vv2, i_vv3, i_vg, i_wct, i_wln, i_sd0, i_sd1, i_sd2, i_sd3, i_rln, i_rtx, i_rpl, i_rtk, i_cnv, i_pts, i_cik, i_und⟩) (j_cV (k := 1) (C := "PageScribe$Row") hts k_5_100 k_1_2 k_5_95 k_5_96 k_5_97 (by decide +kernel) ⟨Nat.le_of_ble_eq_true rfl, Nat.le_of_ble_eq_true rfl⟩) (j_preV (q0 := 20) (ci := 4) hK hP hD csc csc_all csc_nd cl_4 (ce_20 _ _ _) (fun _ _ _ _ h => h) (fun _ _ _ => trivial)) rfl rfl hl.1 rfl (lv_room (Nat.le_of_ble_eq_true rfl)) d_Store_become_19 ⟨Nat.le_of_ble_eq_true rfl, Nat.le_of_ble_eq_true rfl⟩) (fun S2 H locs hw2 hP hD hS => ?_)
  have hP : va_P D classes (cW T ad S2) H := hP
  have hD : va_D A (cW T ad S2) := hD
  obtain ⟨⟨i_vst, i_vc0, i_vc1, i_vc2, i_vc3, i_vv0, i_vv1, i_vv2, i_vv3, i_vg, i_wct, i_wln, i_sd0, i_sd1, i_sd2, i_sd3, i_rln, i_rtx, i_rpl, i_rtk, i_cnv, i_pts, i_cik, i_und⟩, kpcL_S2, kpcP_S2, kpcU_S2, kpcW_S2⟩ := hw2
  have kScL_S2 : kcL S S2 := kcL_t (show kcL S S1 from kScL_S1) kpcL_S2
  have kScP_S2 : kcP S S2 := kcP_t (show kcP S S1 from kScP_S1) kpcP_S2
  have kScU_S2 : kcU S S2 := kcU_t (show kcU S S1 from kScU_S1) kpcU_S2
  have kScW_S2 : kcW S S2 := kcW_t (show kcW S S1 from kScW_S1) kpcW_S2
  have nxr_length_S2 : (f_xr_length S2).toInt = (f_xr_length S1).toInt := congrArg Int32.toInt kpcL_S2
  have nxr_length_S2 : (f_xr_length S2).toInt = (f_xr_length S1).toInt := congrArg Int32.toInt kpcP_S2.1
  have nxr_place_S2 : (f_xr_place S2).toInt = (f_xr_place S1).toInt := congrArg Int32.toInt kpcP_S2.2.1
  have nxe_underWay_S2 : (f_xe_underWay S2).toInt = (f_xe_underWay S1).toInt := congrArg Int32.toInt kpcU_S2
  have nxp_columns_S2 : (f_xp_columns S2).toInt = (f_xp_columns S1).toInt := congrArg Int32.toInt kpcW_S2.1
  have nxp_rows_S2 : (f_xp_rows S2).toInt = (f_xp_rows S1).toInt := congrArg Int32.toInt kpcW_S2.2
  refine lv_aload_n hx hb d_Store_become_22 rfl (lv_at hl 1 rfl) ?_
  refine va_get (D := D) (ci := 3) (v := .ref (ad 53)) (C := "PageScribe$Store") (T := F_Store) (N := 5) hx hb hts i_Store hown hK hP 48 (ce_48 _ _ _) cl_3 1 (by decide) (hts _ k_1_111) (fun _ h9 => h9) rfl d_Store_become_23 ?_
  refine lv_iconst (v := 0) hx hb d_Store_become_26 (by decide) ?_
  refine lv_aload_n hx hb d_Store_become_27 rfl (lv_at hl 0 rfl) ?_
  refine va_get (D := D) (ci := 3) (v := .ref (ad 17)) (C := "PageScribe$Store") (T := F_Store) (N := 5) hx hb hts i_Store hown hK hP 12 (ce_12 _ _ _) cl_3 1 (by decide) (hts _ k_1_111) (fun _ h9 => h9) rfl d_Store_become_28 ?_
  refine lv_iconst (v := 0) hx hb d_Store_become_31 (by decide) ?_
  refine lv_bipush (v := 7) hx hb d_Store_become_32 (by decide) ?_
  refine va_copyi (sp := 0) (dp := 0) (n := 7) hx hb (hml.trans hl.1.symm) hown (hts _ k_5_105) (hts _ k_5_104) (hts _ k_5_103) (hts _ k_1_26) hK hP hD hS 53 17 0 0 (ce_53 _ _ _) (ce_17 _ _ _) rfl rfl rfl (by decide +kernel) (by decide +kernel) (by decide +kernel) (by decide +kernel) (by decide +kernel) (fun _ _ => rfl) (Nat.le_of_ble_eq_true rfl) (by decide +kernel) d_Store_become_34 (fun H locs hP hD hS => ?_)
  rw [cs_xd0_rooms] at hP hD
  have hP : va_P D classes (cW T ad ((S2.1, S2.2.1, ((a_xc0_k S2), (a_xc0_n S2), (a_xc0_r S2), (f_xc0_z S2), (va_cpy (a_xd3_rooms S2) (a_xd0_rooms S2) 0 0 7), (a_xd0_counts S2), (a_xd0_names S2), (a_xv0_k S2), (a_xv0_n S2), (a_xv0_r S2), (f_xv0_z S2)), S2.2.2.2.1, S2.2.2.2.2.1, S2.2.2.2.2.2.1, S2.2.2.2.2.2.2.1, S2.2.2.2.2.2.2.2.1, S2.2.2.2.2.2.2.2.2) : CS)) H := hP
  have hD : va_D A (cW T ad ((S2.1, S2.2.1, ((a_xc0_k S2), (a_xc0_n S2), (a_xc0_r S2), (f_xc0_z S2), (va_cpy (a_xd3_rooms S2) (a_xd0_rooms S2) 0 0 7), (a_xd0_counts S2), (a_xd0_names S2), (a_xv0_k S2), (a_xv0_n S2), (a_xv0_r S2), (f_xv0_z S2)), S2.2.2.2.1, S2.2.2.2.2.1, S2.2.2.2.2.2.1, S2.2.2.2.2.2.2.1, S2.2.2.2.2.2.2.2.1, S2.2.2.2.2.2.2.2.2) : CS)) := hD
  refine lv_aload_n hx hb d_Store_become_37 rfl (lv_at hl 1 rfl) ?_
  refine va_get (D := D) (ci := 3) (v := .ref (ad 54)) (C := "PageScribe$Store") (T := F_Store) (N := 5) hx hb hts i_Store hown hK hP 48 (ce_48 _ _ _) cl_3 2 (by decide) (hts _ k_1_112) (fun _ h9 => h9) rfl d_Store_become_38 ?_
  refine lv_iconst (v := 0) hx hb d_Store_become_41 (by decide) ?_
  refine lv_aload_n hx hb d_Store_become_42 rfl (lv_at hl 0 rfl) ?_
  refine va_get (D := D) (ci := 3) (v := .ref (ad 18)) (C := "PageScribe$Store") (T := F_Store) (N := 5) hx hb hts i_Store hown hK hP 12 (ce_12 _ _ _) cl_3 2 (by decide) (hts _ k_1_112) (fun _ h9 => h9) rfl d_Store_become_43 ?_
  refine lv_iconst (v := 0) hx hb d_Store_become_46 (by decide) ?_
  refine lv_bipush (v := 7) hx hb d_Store_become_47 (by decide) ?_
  refine va_copyi (sp := 0) (dp := 0) (n := 7) hx hb (hml.trans hl.1.symm) hown (hts _ k_5_105) (hts _ k_5_104) (hts _ k_5_103) (hts _ k_1_26) hK hP hD hS 54 18 0 0 (ce_54 _ _ _) (ce_18 _ _ _) rfl rfl rfl (by decide +kernel) (by decide +kernel) (by decide +kernel) (by decide +kernel) (by decide +kernel) (fun _ _ => rfl) (Nat.le_of_ble_eq_true rfl) (by decide +kernel) d_Store_become_49 (fun H locs hP hD hS => ?_)
  rw [cs_xd0_counts] at hP hD
  have hP : va_P D classes (cW T ad ((S2.1, S2.2.1, ((a_xc0_k S2), (a_xc0_n S2), (a_xc0_r S2), (f_xc0_z S2), (va_cpy (a_xd3_rooms S2) (a_xd0_rooms S2) 0 0 7), (va_cpy (a_xd3_counts S2) (a_xd0_counts S2) 0 0 7), (a_xd0_names S2), (a_xv0_k S2), (a_xv0_n S2), (a_xv0_r S2), (f_xv0_z S2)), S2.2.2.2.1, S2.2.2.2.2.1, S2.2.2.2.2.2.1, S2.2.2.2.2.2.2.1, S2.2.2.2.2.2.2.2.1, S2.2.2.2.2.2.2.2.2) : CS)) H := hP
  have hD : va_D A (cW T ad ((S2.1, S2.2.1, ((a_xc0_k S2), (a_xc0_n S2), (a_xc0_r S2), (f_xc0_z S2), (va_cpy (a_xd3_rooms S2) (a_xd0_rooms S2) 0 0 7), (va_cpy (a_xd3_counts S2) (a_xd0_counts S2) 0 0 7), (a_xd0_names S2), (a_xv0_k S2), (a_xv0_n S2), (a_xv0_r S2), (f_xv0_z S2)), S2.2.2.2.1, S2.2.2.2.2.1, S2.2.2.2.2.2.1, S2.2.2.2.2.2.2.1, S2.2.2.2.2.2.2.2.1, S2.2.2.2.2.2.2.2.2) : CS)) := hD
  refine lv_aload_n hx hb d_Store_become_52 rfl (lv_at hl 1 rfl) ?_
  refine va_get (D := D) (ci := 3) (v := .ref (ad 55)) (C := "PageScribe$Store") (T := F_Store) (N := 5) hx hb hts i_Store hown hK hP 48 (ce_48 _ _ _) cl_3 3 (by decide) (hts _ k_1_113) (fun _ h9 => h9) rfl d_Store_become_53 ?_
  refine lv_iconst (v := 0) hx hb d_Store_become_56 (by decide) ?_
  refine lv_aload_n hx hb d_Store_become_57 rfl (lv_at hl 0 rfl) ?_
  refine va_get (D := D) (ci := 3) (v := .ref (ad 19)) (C := "PageScribe$Store") (T := F_Store) (N := 5) hx hb hts i_Store hown hK hP 12 (ce_12 _ _ _) cl_3 3 (by decide) (hts _ k_1_113) (fun _ h9 => h9) rfl d_Store_become_58 ?_
  refine lv_iconst (v := 0) hx hb d_Store_become_61 (by decide) ?_
  refine lv_bipush (v := 80) hx hb d_Store_become_62 (by decide) ?_
  refine va_copyi (sp := 0) (dp := 0) (n := 80) hx hb (hml.trans hl.1.symm) hown (hts _ k_5_105) (hts _ k_5_104) (hts _ k_5_103) (hts _ k_1_26) hK hP hD hS 55 19 0 0 (ce_55 _ _ _) (ce_19 _ _ _) rfl rfl rfl (by decide +kernel) (by decide +kernel) (by decide +kernel) (by decide +kernel) (by decide +kernel) (fun _ _ => rfl) (Nat.le_of_ble_eq_true rfl) (by decide +kernel) d_Store_become_64 (fun H locs hP hD hS => ?_)
  rw [cs_xd0_names] at hP hD
  have hP : va_P D classes (cW T ad ((S2.1, S2.2.1, ((a_xc0_k S2), (a_xc0_n S2), (a_xc0_r S2), (f_xc0_z S2), (va_cpy (a_xd3_rooms S2) (a_xd0_rooms S2) 0 0 7), (va_cpy (a_xd3_counts S2) (a_xd0_counts S2) 0 0 7), (va_cpy (a_xd3_names S2) (a_xd0_names S2) 0 0 80), (a_xv0_k S2), (a_xv0_n S2), (a_xv0_r S2), (f_xv0_z S2)), S2.2.2.2.1, S2.2.2.2.2.1, S2.2.2.2.2.2.1, S2.2.2.2.2.2.2.1, S2.2.2.2.2.2.2.2.1, S2.2.2.2.2.2.2.2.2) : CS)) H := hP
  have hD : va_D A (cW T ad ((S2.1, S2.2.1, ((a_xc0_k S2), (a_xc0_n S2), (a_xc0_r S2), (f_xc0_z S2), (va_cpy (a_xd3_rooms S2) (a_xd0_rooms S2) 0 0 7), (va_cpy (a_xd3_counts S2) (a_xd0_counts S2) 0 0 7), (va_cpy (a_xd3_names S2) (a_xd0_names S2) 0 0 80), (a_xv0_k S2), (a_xv0_n S2), (a_xv0_r S2), (f_xv0_z S2)), S2.2.2.2.1, S2.2.2.2.2.1, S2.2.2.2.2.2.1, S2.2.2.2.2.2.2.1, S2.2.2.2.2.2.2.2.1, S2.2.2.2.2.2.2.2.2) : CS)) := hD
  exact j_vret F hr hlocks hK hS ((S2.1, S2.2.1, ((a_xc0_k S2), (a_xc0_n S2), (a_xc0_r S2), (f_xc0_z S2), (va_cpy (a_xd3_rooms S2) (a_xd0_rooms S2) 0 0 7), (va_cpy (a_xd3_counts S2) (a_xd0_counts S2) 0 0 7), (va_cpy (a_xd3_names S2) (a_xd0_names S2) 0 0 80), (a_xv0_k S2), (a_xv0_n S2), (a_xv0_r S2), (f_xv0_z S2)), S2.2.2.2.1, S2.2.2.2.2.1, S2.2.2.2.2.2.1, S2.2.2.2.2.2.2.1, S2.2.2.2.2.2.2.2.1, S2.2.2.2.2.2.2.2.2) : CS) ⟨⟨i_vst, i_vc0, i_vc1, i_vc2, i_vc3, i_vv0, i_vv1, i_vv2, i_vv3, i_vg, i_wct, i_wln, (cpy_sd i_sd3), i_sd1, i_sd2, i_sd3, i_rln, i_rtx, i_rpl, i_rtk, i_cnv, i_pts, i_cik, i_und⟩, kScL_S2, kScP_S2, kScU_S2, kScW_S2⟩ hP hD d_Store_become_67
