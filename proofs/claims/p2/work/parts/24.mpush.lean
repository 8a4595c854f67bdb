theorem d_Mo_push_0 : decode prog_15_method_11_code 0 = .ok (.aload_n 0, 1) := by decide +kernel
theorem k_6_164 : Cond.fieldLink "PageScribeModel" 247 "PageScribeModel" "size" "I" ∈ gw := gw_of (tb_6 (List.mem_of_getElem? (i := 164) (by decide +kernel))) (by decide +kernel)
theorem d_Mo_push_1 : decode prog_15_method_11_code 1 = .ok (.getfield 247, 3) := by decide +kernel
theorem d_Mo_push_4 : decode prog_15_method_11_code 4 = .ok (.bipush 40, 2) := by decide +kernel
theorem d_Mo_push_6 : decode prog_15_method_11_code 6 = .ok (.if_icmp .ne 5, 3) := by decide +kernel
theorem tI_40 : (40 : Int32).toInt = 40 := by decide +kernel
theorem d_Mo_push_11 : decode prog_15_method_11_code 11 = .ok (.aload_n 0, 1) := by decide +kernel
theorem d_Mo_push_12 : decode prog_15_method_11_code 12 = .ok (.aload_n 0, 1) := by decide +kernel
theorem d_Mo_push_13 : decode prog_15_method_11_code 13 = .ok (.getfield 247, 3) := by decide +kernel
theorem d_Mo_push_16 : decode prog_15_method_11_code 16 = .ok (.iload_n 1, 1) := by decide +kernel
theorem d_Mo_push_17 : decode prog_15_method_11_code 17 = .ok (.lload_n 2, 1) := by decide +kernel
theorem d_Mo_push_18 : decode prog_15_method_11_code 18 = .ok (.invokevirtual 250, 3) := by decide +kernel
theorem k_7_81 : Cond.code ⟨"PageScribeModel", "set", "(IIJ)V"⟩ prog_15_method_4_code 5 none ∈ gw := gw_of (tb_7 (List.mem_of_getElem? (i := 81) (by decide +kernel))) (by decide +kernel)
theorem k_1_12 : Cond.initialized "PageScribeModel" ∈ gw := gw_of (tb_1 (List.mem_of_getElem? (i := 12) (by decide +kernel))) (by decide +kernel)
theorem k_7_78 : Cond.methodLink "PageScribeModel" 250 ⟨"PageScribeModel", "set", "(IIJ)V"⟩ ∈ gw := gw_of (tb_7 (List.mem_of_getElem? (i := 78) (by decide +kernel))) (by decide +kernel)
theorem k_7_80 : Cond.instanceMethod ⟨"PageScribeModel", "set", "(IIJ)V"⟩ ∈ gw := gw_of (tb_7 (List.mem_of_getElem? (i := 80) (by decide +kernel))) (by decide +kernel)
theorem k_0_83 : Cond.selects "PageScribeModel" ⟨"PageScribeModel", "set", "(IIJ)V"⟩ ⟨"PageScribeModel", "set", "(IIJ)V"⟩ ∈ gw := gw_of (tb_0 (List.mem_of_getElem? (i := 83) (by decide +kernel))) (by decide +kernel)
theorem d_Mo_push_21 : decode prog_15_method_11_code 21 = .ok (.aload_n 0, 1) := by decide +kernel
theorem d_Mo_push_22 : decode prog_15_method_11_code 22 = .ok (.dup, 1) := by decide +kernel
theorem d_Mo_push_23 : decode prog_15_method_11_code 23 = .ok (.getfield 247, 3) := by decide +kernel
theorem d_Mo_push_26 : decode prog_15_method_11_code 26 = .ok (.iconst 1, 1) := by decide +kernel
theorem d_Mo_push_27 : decode prog_15_method_11_code 27 = .ok (.iadd, 1) := by decide +kernel
theorem d_Mo_push_28 : decode prog_15_method_11_code 28 = .ok (.putfield 247, 3) := by decide +kernel
theorem d_Mo_push_31 : decode prog_15_method_11_code 31 = .ok (.iconst 0, 1) := by decide +kernel
theorem d_Mo_push_32 : decode prog_15_method_11_code 32 = .ok (.ireturn, 1) := by decide +kernel
theorem d_Mo_push_9 : decode prog_15_method_11_code 9 = .ok (.iconst 2, 1) := by decide +kernel
theorem d_Mo_push_10 : decode prog_15_method_11_code 10 = .ok (.ireturn, 1) := by decide +kernel
set_option maxHeartbeats 4000000 in
set_option maxRecDepth 100000 in
theorem m_push (l : Launch) (D : va_G) (T : Nat → ClassId) (h0 : Nat) (ar : Nat → Nat) (S : MS) (p0 : Int32) (v0 : Int64) (sz : Nat) (hI : MI S) (h1 : (0 ≤ p0.toInt ∧ p0.toInt ≤ 13 ∧ ¬ p0.toInt = 8 ∧ ¬ p0.toInt = 9 ∧ ¬ p0.toInt = 10 ∧ ¬ p0.toInt = 12)) (h2 : ((p0.toInt = 0 → -2147483648 ≤ v0.toInt ∧ v0.toInt ≤ 2147483647) ∧ ((p0.toInt = 5 ∨ p0.toInt = 13) → cOk v0) ∧ (p0.toInt = 6 → 0 ≤ v0.toInt ∧ v0.toInt ≤ 6))) : Met l ⟨"PageScribeModel", "push", "(IJ)I"⟩ (wy ⟨"PageScribeModel", "push", "(IJ)I"⟩ prog_15_method_11_code 4 (some .int)) ({ frames := 1, cells := 0, slots := 0, locals := 70 }) (va_Pc [.ref h0, .int p0, .long v0] (Pw D T (mW T h0 ar S) sz E0)) (va_Qi (fun (r : Int32) (u : MS) => MI u ∧ kA S u ∧ kF S u ∧ (r.toInt = 0 ∨ r.toInt = 2)) (fun u t => Bw D T (va_A (mW T h0 ar S) sz) (mW T h0 ar u) t) (va_A (mW T h0 ar S) sz)) 0 0 (va_A (mW T h0 ar S) sz) := by
  refine j_met (y := ⟨"PageScribeModel", "push", "(IJ)I"⟩) (b := prog_15_method_11_code) (n := 4) (ret := (some .int)) (av := [.ref h0, .int p0, .long v0]) (Qc := fun A => va_Qi (fun (r : Int32) (u : MS) => MI u ∧ kA S u ∧ kF S u ∧ (r.toInt = 0 ∨ r.toInt = 2)) (fun u t => Bw D T A (mW T h0 ar u) t) A) (by decide +kernel) (Nat.le_of_ble_eq_true rfl) (fun p e s m args below meth c A ls F hr hlocks hnm hK hP hD hS hA hN hE hl => ?_)
  obtain ⟨hx, hb, hml, hown, hts⟩ := id F
  have hl : lv_has ls 4 [(0, .ref h0), (1, .int p0), (2, .long v0)] := hl
  obtain ⟨i_size, i_taken, i_vals, i_room, i_dicts, i_deep, i_open, i_cells, i_points, i_part, i_length, i_knows, i_page, i_fr, i_ink⟩ := id hI
  refine lv_aload_n hx hb d_Mo_push_0 rfl (lv_at hl 0 rfl) ?_
  refine va_get (D := D) (ci := 11) (v := .int (f_size S)) (C := "PageScribeModel") (T := F_Mo) (N := 45) hx hb hts i_Mo hown hK hP 0 rfl rfl 4 (by decide) (hts _ k_6_164) (fun _ h9 => h9) rfl d_Mo_push_1 ?_
  refine lv_bipush (v := 40) hx hb d_Mo_push_4 (by decide) ?_
  refine lv_icmp_ne (tgt := 11) hx hb d_Mo_push_6 (by decide) (fun c6_1 => ?_) (fun c6_1 => ?_)
  · have fc6_1 : ¬ (f_size S).toInt = 40 := zt_ne rfl tI_40 c6_1
    refine lv_aload_n hx hb d_Mo_push_11 rfl (lv_at hl 0 rfl) ?_
    refine lv_aload_n hx hb d_Mo_push_12 rfl (lv_at hl 0 rfl) ?_
    refine va_get (D := D) (ci := 11) (v := .int (f_size S)) (C := "PageScribeModel") (T := F_Mo) (N := 45) hx hb hts i_Mo hown hK hP 0 rfl rfl 4 (by decide) (hts _ k_6_164) (fun _ h9 => h9) rfl d_Mo_push_13 ?_
    refine lv_iload_n hx hb d_Mo_push_16 rfl (lv_at hl 1 rfl) ?_
    refine lv_lload_n hx hb d_Mo_push_17 rfl (lv_at hl 2 rfl) ?_
    refine j_cv (wc := (mW T h0 ar S)) (wr := []) hK hP hD hS hA [0, 1, 2, 3, 4, 5, 6, 7, 8, 9, 10, 11, 12, 13, 14, 15, 16, 17, 18, 19, 20, 21, 22, 23, 24, 25] [] rfl rfl (by decide) (by decide) (va_runV (As := [.int (f_size S), .int p0, .long v0]) (rest := []) F (m_set l D T h0 ar S (f_size S) p0 v0 s.heap.size (show 0 ≤ (f_size S).toInt ∧ (f_size S).toInt < 1300 by omega)) (j_cV (k := 3) (C := "PageScribeModel") hts k_7_81 k_1_12 k_7_78 k_7_80 k_0_83 (by decide +kernel) ⟨Nat.le_of_ble_eq_true rfl, Nat.le_of_ble_eq_true rfl⟩) (j_preV (q0 := 0) (ci := 11) hK hP hD [0, 1, 2, 3, 4, 5, 6, 7, 8, 9, 10, 11, 12, 13, 14, 15, 16, 17, 18, 19, 20, 21, 22, 23, 24, 25] rfl (by decide) rfl rfl (fun _ _ _ _ h => h) (fun _ _ _ => trivial)) rfl rfl hl.1 rfl (lv_room (Nat.le_of_ble_eq_true rfl)) d_Mo_push_18 ⟨Nat.le_of_ble_eq_true rfl, Nat.le_of_ble_eq_true rfl⟩) (fun S1 H locs hw1 hP hD hS => ?_)
    obtain rfl := hw1
    have hP : va_P D classes (mW T h0 ar ((((f_thrown S), (upd (a_kinds S) ((f_size S).toInt.toNat) p0), (vp_updL (a_codes S) ((f_size S).toInt.toNat) v0), (vf_upd (a_reals S) ((f_size S).toInt.toNat) 0), (f_size S), (f_taken S), (a_words S), (a_many S)), S.2.1, S.2.2.1, S.2.2.2.1, S.2.2.2.2.1, S.2.2.2.2.2) : MS)) H := hP
    have hD : va_D A (mW T h0 ar ((((f_thrown S), (upd (a_kinds S) ((f_size S).toInt.toNat) p0), (vp_updL (a_codes S) ((f_size S).toInt.toNat) v0), (vf_upd (a_reals S) ((f_size S).toInt.toNat) 0), (f_size S), (f_taken S), (a_words S), (a_many S)), S.2.1, S.2.2.1, S.2.2.2.1, S.2.2.2.2.1, S.2.2.2.2.2) : MS)) := hD
    have i_vals : ∀ k, k < 1300 → vOk ((upd (a_kinds S) ((f_size S).toInt.toNat) p0) k) ((vp_updL (a_codes S) ((f_size S).toInt.toNat) v0) k) ((vf_upd (a_reals S) ((f_size S).toInt.toNat) 0) k) := vOk_upd i_vals ⟨by omega, by omega, by omega, by omega, dF_0⟩
    have fa1 : ((upd (a_kinds S) ((f_size S).toInt.toNat) p0) ((f_size S).toInt.toNat)).toInt = p0.toInt := congrArg Int32.toInt upd_s
    refine lv_aload_n hx hb d_Mo_push_21 rfl (lv_at hl 0 rfl) ?_
    refine lv_dup hx hb d_Mo_push_22 rfl ?_
    refine va_get (D := D) (ci := 11) (v := .int (f_size S)) (C := "PageScribeModel") (T := F_Mo) (N := 45) hx hb hts i_Mo hown hK hP 0 rfl rfl 4 (by decide) (hts _ k_6_164) (fun _ h9 => h9) rfl d_Mo_push_23 ?_
    refine lv_iconst (v := 1) hx hb d_Mo_push_26 (by decide) ?_
    refine lv_iadd hx hb d_Mo_push_27 ?_
    refine lv_topi (fun x1 ex1 => ?_)
    try have fx1 : x1.toInt = (f_size S).toInt + 1 := by rw [ex1]; exact zt_add rfl tI_1 (by omega) (by omega)
    refine va_put (D := D) (ci := 11) (v := .int x1) (ty := .int) (C := "PageScribeModel") (T := F_Mo) (N := 45) hx hb hts i_Mo t_Mo t_Mo_ok n_Mo hown hK hP hD hS 0 rfl rfl 4 (by decide) (hts _ k_6_164) (fun _ h9 => h9) rfl (by decide +kernel) rfl rfl (Nat.le_of_ble_eq_true rfl) d_Mo_push_28 (fun H locs hP hD hS => ?_)
    have hP : va_P D classes (mW T h0 ar ((((f_thrown S), (upd (a_kinds S) ((f_size S).toInt.toNat) p0), (vp_updL (a_codes S) ((f_size S).toInt.toNat) v0), (vf_upd (a_reals S) ((f_size S).toInt.toNat) 0), x1, (f_taken S), (a_words S), (a_many S)), S.2.1, S.2.2.1, S.2.2.2.1, S.2.2.2.2.1, S.2.2.2.2.2) : MS)) H := hP
    have hD : va_D A (mW T h0 ar ((((f_thrown S), (upd (a_kinds S) ((f_size S).toInt.toNat) p0), (vp_updL (a_codes S) ((f_size S).toInt.toNat) v0), (vf_upd (a_reals S) ((f_size S).toInt.toNat) 0), x1, (f_taken S), (a_words S), (a_many S)), S.2.1, S.2.2.1, S.2.2.2.1, S.2.2.2.2.1, S.2.2.2.2.2) : MS)) := hD
    refine lv_iconst (v := 0) hx hb d_Mo_push_31 (by decide) ?_
    exact j_iret F hr hlocks hK hS ((((f_thrown S), (upd (a_kinds S) ((f_size S).toInt.toNat) p0), (vp_updL (a_codes S) ((f_size S).toInt.toNat) v0), (vf_upd (a_reals S) ((f_size S).toInt.toNat) 0), x1, (f_taken S), (a_words S), (a_many S)), S.2.1, S.2.2.1, S.2.2.2.1, S.2.2.2.2.1, S.2.2.2.2.2) : MS) ⟨⟨(show 0 ≤ x1.toInt ∧ x1.toInt ≤ 40 by omega), i_taken, i_vals, i_room, i_dicts, i_deep, i_open, i_cells, i_points, i_part, i_length, i_knows, i_page, i_fr, i_ink⟩, (kA_r S), (kF_r S), (show (0 : Int32).toInt = 0 ∨ (0 : Int32).toInt = 2 by have := tI_0; omega)⟩ hP hD d_Mo_push_32
  · have fc6_1 : (f_size S).toInt = 40 := zt_eq rfl tI_40 c6_1
    refine lv_iconst (v := 2) hx hb d_Mo_push_9 (by decide) ?_
    exact j_iret F hr hlocks hK hS S ⟨⟨i_size, i_taken, i_vals, i_room, i_dicts, i_deep, i_open, i_cells, i_points, i_part, i_length, i_knows, i_page, i_fr, i_ink⟩, (kA_r S), (kF_r S), (show (2 : Int32).toInt = 0 ∨ (2 : Int32).toInt = 2 by have := tI_2; omega)⟩ hP hD d_Mo_push_10
theorem d_Mo_pushValue_0 : decode prog_15_method_12_code 0 = .ok (.aload_n 0, 1) := by decide +kernel
theorem d_Mo_pushValue_1 : decode prog_15_method_12_code 1 = .ok (.getfield 247, 3) := by decide +kernel
theorem d_Mo_pushValue_4 : decode prog_15_method_12_code 4 = .ok (.bipush 40, 2) := by decide +kernel
theorem d_Mo_pushValue_6 : decode prog_15_method_12_code 6 = .ok (.if_icmp .ne 5, 3) := by decide +kernel
theorem d_Mo_pushValue_11 : decode prog_15_method_12_code 11 = .ok (.aload_n 0, 1) := by decide +kernel
theorem d_Mo_pushValue_12 : decode prog_15_method_12_code 12 = .ok (.aload_n 0, 1) := by decide +kernel
theorem d_Mo_pushValue_13 : decode prog_15_method_12_code 13 = .ok (.getfield 247, 3) := by decide +kernel
theorem d_Mo_pushValue_16 : decode prog_15_method_12_code 16 = .ok (.iload_n 1, 1) := by decide +kernel
theorem d_Mo_pushValue_17 : decode prog_15_method_12_code 17 = .ok (.invokevirtual 254, 3) := by decide +kernel
theorem k_7_76 : Cond.code ⟨"PageScribeModel", "move", "(II)V"⟩ prog_15_method_3_code 3 none ∈ gw := gw_of (tb_7 (List.mem_of_getElem? (i := 76) (by decide +kernel))) (by decide +kernel)
theorem k_7_73 : Cond.methodLink "PageScribeModel" 254 ⟨"PageScribeModel", "move", "(II)V"⟩ ∈ gw := gw_of (tb_7 (List.mem_of_getElem? (i := 73) (by decide +kernel))) (by decide +kernel)
theorem k_7_75 : Cond.instanceMethod ⟨"PageScribeModel", "move", "(II)V"⟩ ∈ gw := gw_of (tb_7 (List.mem_of_getElem? (i := 75) (by decide +kernel))) (by decide +kernel)
theorem k_0_82 : Cond.selects "PageScribeModel" ⟨"PageScribeModel", "move", "(II)V"⟩ ⟨"PageScribeModel", "move", "(II)V"⟩ ∈ gw := gw_of (tb_0 (List.mem_of_getElem? (i := 82) (by decide +kernel))) (by decide +kernel)
theorem d_Mo_pushValue_20 : decode prog_15_method_12_code 20 = .ok (.aload_n 0, 1) := by decide +kernel
theorem d_Mo_pushValue_21 : decode prog_15_method_12_code 21 = .ok (.dup, 1) := by decide +kernel
theorem d_Mo_pushValue_22 : decode prog_15_method_12_code 22 = .ok (.getfield 247, 3) := by decide +kernel
theorem d_Mo_pushValue_25 : decode prog_15_method_12_code 25 = .ok (.iconst 1, 1) := by decide +kernel
theorem d_Mo_pushValue_26 : decode prog_15_method_12_code 26 = .ok (.iadd, 1) := by decide +kernel
theorem d_Mo_pushValue_27 : decode prog_15_method_12_code 27 = .ok (.putfield 247, 3) := by decide +kernel
theorem d_Mo_pushValue_30 : decode prog_15_method_12_code 30 = .ok (.iconst 0, 1) := by decide +kernel
theorem d_Mo_pushValue_31 : decode prog_15_method_12_code 31 = .ok (.ireturn, 1) := by decide +kernel
theorem d_Mo_pushValue_9 : decode prog_15_method_12_code 9 = .ok (.iconst 2, 1) := by decide +kernel
theorem d_Mo_pushValue_10 : decode prog_15_method_12_code 10 = .ok (.ireturn, 1) := by decide +kernel
set_option maxHeartbeats 4000000 in
set_option maxRecDepth 100000 in
theorem m_pushValue (l : Launch) (D : va_G) (T : Nat → ClassId) (h0 : Nat) (ar : Nat → Nat) (S : MS) (p0 : Int32) (sz : Nat) (hI : MI S) (h1 : 0 ≤ p0.toInt ∧ p0.toInt < 1300) : Met l ⟨"PageScribeModel", "pushValue", "(I)I"⟩ (wy ⟨"PageScribeModel", "pushValue", "(I)I"⟩ prog_15_method_12_code 2 (some .int)) ({ frames := 1, cells := 0, slots := 0, locals := 70 }) (va_Pc [.ref h0, .int p0] (Pw D T (mW T h0 ar S) sz E0)) (va_Qi (fun (r : Int32) (u : MS) => MI u ∧ kA S u ∧ kF S u ∧ (r.toInt = 0 ∨ r.toInt = 2)) (fun u t => Bw D T (va_A (mW T h0 ar S) sz) (mW T h0 ar u) t) (va_A (mW T h0 ar S) sz)) 0 0 (va_A (mW T h0 ar S) sz) := by
  refine j_met (y := ⟨"PageScribeModel", "pushValue", "(I)I"⟩) (b := prog_15_method_12_code) (n := 2) (ret := (some .int)) (av := [.ref h0, .int p0]) (Qc := fun A => va_Qi (fun (r : Int32) (u : MS) => MI u ∧ kA S u ∧ kF S u ∧ (r.toInt = 0 ∨ r.toInt = 2)) (fun u t => Bw D T A (mW T h0 ar u) t) A) (by decide +kernel) (Nat.le_of_ble_eq_true rfl) (fun p e s m args below meth c A ls F hr hlocks hnm hK hP hD hS hA hN hE hl => ?_)
  obtain ⟨hx, hb, hml, hown, hts⟩ := id F
  have hl : lv_has ls 2 [(0, .ref h0), (1, .int p0)] := hl
  obtain ⟨i_size, i_taken, i_vals, i_room, i_dicts, i_deep, i_open, i_cells, i_points, i_part, i_length, i_knows, i_page, i_fr, i_ink⟩ := id hI
  refine lv_aload_n hx hb d_Mo_pushValue_0 rfl (lv_at hl 0 rfl) ?_
  refine va_get (D := D) (ci := 11) (v := .int (f_size S)) (C := "PageScribeModel") (T := F_Mo) (N := 45) hx hb hts i_Mo hown hK hP 0 rfl rfl 4 (by decide) (hts _ k_6_164) (fun _ h9 => h9) rfl d_Mo_pushValue_1 ?_
  refine lv_bipush (v := 40) hx hb d_Mo_pushValue_4 (by decide) ?_
  refine lv_icmp_ne (tgt := 11) hx hb d_Mo_pushValue_6 (by decide) (fun c6_1 => ?_) (fun c6_1 => ?_)
  · have fc6_1 : ¬ (f_size S).toInt = 40 := zt_ne rfl tI_40 c6_1
    refine lv_aload_n hx hb d_Mo_pushValue_11 rfl (lv_at hl 0 rfl) ?_
    refine lv_aload_n hx hb d_Mo_pushValue_12 rfl (lv_at hl 0 rfl) ?_
    refine va_get (D := D) (ci := 11) (v := .int (f_size S)) (C := "PageScribeModel") (T := F_Mo) (N := 45) hx hb hts i_Mo hown hK hP 0 rfl rfl 4 (by decide) (hts _ k_6_164) (fun _ h9 => h9) rfl d_Mo_pushValue_13 ?_
    refine lv_iload_n hx hb d_Mo_pushValue_16 rfl (lv_at hl 1 rfl) ?_
    refine j_cv (wc := (mW T h0 ar S)) (wr := []) hK hP hD hS hA [0, 1, 2, 3, 4, 5, 6, 7, 8, 9, 10, 11, 12, 13, 14, 15, 16, 17, 18, 19, 20, 21, 22, 23, 24, 25] [] rfl rfl (by decide) (by decide) (va_runV (As := [.int (f_size S), .int p0]) (rest := []) F (m_move l D T h0 ar S (f_size S) p0 s.heap.size (show 0 ≤ (f_size S).toInt ∧ (f_size S).toInt < 1300 by omega) (show 0 ≤ p0.toInt ∧ p0.toInt < 1300 by omega)) (j_cV (k := 2) (C := "PageScribeModel") hts k_7_76 k_1_12 k_7_73 k_7_75 k_0_82 (by decide +kernel) ⟨Nat.le_of_ble_eq_true rfl, Nat.le_of_ble_eq_true rfl⟩) (j_preV (q0 := 0) (ci := 11) hK hP hD [0, 1, 2, 3, 4, 5, 6, 7, 8, 9, 10, 11, 12, 13, 14, 15, 16, 17, 18, 19, 20, 21, 22, 23, 24, 25] rfl (by decide) rfl rfl (fun _ _ _ _ h => h) (fun _ _ _ => trivial)) rfl rfl hl.1 rfl (lv_room (Nat.le_of_ble_eq_true rfl)) d_Mo_pushValue_17 ⟨Nat.le_of_ble_eq_true rfl, Nat.le_of_ble_eq_true rfl⟩) (fun S1 H locs hw1 hP hD hS => ?_)
    obtain rfl := hw1
    have hP : va_P D classes (mW T h0 ar ((((f_thrown S), (upd (a_kinds S) ((f_size S).toInt.toNat) ((a_kinds S) (p0.toInt.toNat))), (vp_updL (a_codes S) ((f_size S).toInt.toNat) ((a_codes S) (p0.toInt.toNat))), (vf_upd (a_reals S) ((f_size S).toInt.toNat) ((a_reals S) (p0.toInt.toNat))), (f_size S), (f_taken S), (a_words S), (a_many S)), S.2.1, S.2.2.1, S.2.2.2.1, S.2.2.2.2.1, S.2.2.2.2.2) : MS)) H := hP
    have hD : va_D A (mW T h0 ar ((((f_thrown S), (upd (a_kinds S) ((f_size S).toInt.toNat) ((a_kinds S) (p0.toInt.toNat))), (vp_updL (a_codes S) ((f_size S).toInt.toNat) ((a_codes S) (p0.toInt.toNat))), (vf_upd (a_reals S) ((f_size S).toInt.toNat) ((a_reals S) (p0.toInt.toNat))), (f_size S), (f_taken S), (a_words S), (a_many S)), S.2.1, S.2.2.1, S.2.2.2.1, S.2.2.2.2.1, S.2.2.2.2.2) : MS)) := hD
    have i_vals : ∀ k, k < 1300 → vOk ((upd (a_kinds S) ((f_size S).toInt.toNat) ((a_kinds S) (p0.toInt.toNat))) k) ((vp_updL (a_codes S) ((f_size S).toInt.toNat) ((a_codes S) (p0.toInt.toNat))) k) ((vf_upd (a_reals S) ((f_size S).toInt.toNat) ((a_reals S) (p0.toInt.toNat))) k) := vOk_upd i_vals (i_vals (p0.toInt.toNat) (by omega))
    have fa1 : ((upd (a_kinds S) ((f_size S).toInt.toNat) ((a_kinds S) (p0.toInt.toNat))) ((f_size S).toInt.toNat)).toInt = ((a_kinds S) (p0.toInt.toNat)).toInt := congrArg Int32.toInt upd_s
    have fa2 : ((vp_updL (a_codes S) ((f_size S).toInt.toNat) ((a_codes S) (p0.toInt.toNat))) ((f_size S).toInt.toNat)).toInt = ((a_codes S) (p0.toInt.toNat)).toInt := congrArg Int64.toInt updL_s
    refine lv_aload_n hx hb d_Mo_pushValue_20 rfl (lv_at hl 0 rfl) ?_
    refine lv_dup hx hb d_Mo_pushValue_21 rfl ?_
    refine va_get (D := D) (ci := 11) (v := .int (f_size S)) (C := "PageScribeModel") (T := F_Mo) (N := 45) hx hb hts i_Mo hown hK hP 0 rfl rfl 4 (by decide) (hts _ k_6_164) (fun _ h9 => h9) rfl d_Mo_pushValue_22 ?_
    refine lv_iconst (v := 1) hx hb d_Mo_pushValue_25 (by decide) ?_
    refine lv_iadd hx hb d_Mo_pushValue_26 ?_
    refine lv_topi (fun x1 ex1 => ?_)
    try have fx1 : x1.toInt = (f_size S).toInt + 1 := by rw [ex1]; exact zt_add rfl tI_1 (by omega) (by omega)
    refine va_put (D := D) (ci := 11) (v := .int x1) (ty := .int) (C := "PageScribeModel") (T := F_Mo) (N := 45) hx hb hts i_Mo t_Mo t_Mo_ok n_Mo hown hK hP hD hS 0 rfl rfl 4 (by decide) (hts _ k_6_164) (fun _ h9 => h9) rfl (by decide +kernel) rfl rfl (Nat.le_of_ble_eq_true rfl) d_Mo_pushValue_27 (fun H locs hP hD hS => ?_)
    have hP : va_P D classes (mW T h0 ar ((((f_thrown S), (upd (a_kinds S) ((f_size S).toInt.toNat) ((a_kinds S) (p0.toInt.toNat))), (vp_updL (a_codes S) ((f_size S).toInt.toNat) ((a_codes S) (p0.toInt.toNat))), (vf_upd (a_reals S) ((f_size S).toInt.toNat) ((a_reals S) (p0.toInt.toNat))), x1, (f_taken S), (a_words S), (a_many S)), S.2.1, S.2.2.1, S.2.2.2.1, S.2.2.2.2.1, S.2.2.2.2.2) : MS)) H := hP
    have hD : va_D A (mW T h0 ar ((((f_thrown S), (upd (a_kinds S) ((f_size S).toInt.toNat) ((a_kinds S) (p0.toInt.toNat))), (vp_updL (a_codes S) ((f_size S).toInt.toNat) ((a_codes S) (p0.toInt.toNat))), (vf_upd (a_reals S) ((f_size S).toInt.toNat) ((a_reals S) (p0.toInt.toNat))), x1, (f_taken S), (a_words S), (a_many S)), S.2.1, S.2.2.1, S.2.2.2.1, S.2.2.2.2.1, S.2.2.2.2.2) : MS)) := hD
    refine lv_iconst (v := 0) hx hb d_Mo_pushValue_30 (by decide) ?_
    exact j_iret F hr hlocks hK hS ((((f_thrown S), (upd (a_kinds S) ((f_size S).toInt.toNat) ((a_kinds S) (p0.toInt.toNat))), (vp_updL (a_codes S) ((f_size S).toInt.toNat) ((a_codes S) (p0.toInt.toNat))), (vf_upd (a_reals S) ((f_size S).toInt.toNat) ((a_reals S) (p0.toInt.toNat))), x1, (f_taken S), (a_words S), (a_many S)), S.2.1, S.2.2.1, S.2.2.2.1, S.2.2.2.2.1, S.2.2.2.2.2) : MS) ⟨⟨(show 0 ≤ x1.toInt ∧ x1.toInt ≤ 40 by omega), i_taken, i_vals, i_room, i_dicts, i_deep, i_open, i_cells, i_points, i_part, i_length, i_knows, i_page, i_fr, i_ink⟩, (kA_r S), (kF_r S), (show (0 : Int32).toInt = 0 ∨ (0 : Int32).toInt = 2 by have := tI_0; omega)⟩ hP hD d_Mo_pushValue_31
  · have fc6_1 : (f_size S).toInt = 40 := zt_eq rfl tI_40 c6_1
    refine lv_iconst (v := 2) hx hb d_Mo_pushValue_9 (by decide) ?_
    exact j_iret F hr hlocks hK hS S ⟨⟨i_size, i_taken, i_vals, i_room, i_dicts, i_deep, i_open, i_cells, i_points, i_part, i_length, i_knows, i_page, i_fr, i_ink⟩, (kA_r S), (kF_r S), (show (2 : Int32).toInt = 0 ∨ (2 : Int32).toInt = 2 by have := tI_2; omega)⟩ hP hD d_Mo_pushValue_10
theorem d_Mo_give_0 : decode prog_15_method_14_code 0 = .ok (.aload_n 0, 1) := by decide +kernel
theorem d_Mo_give_1 : decode prog_15_method_14_code 1 = .ok (.dup, 1) := by decide +kernel
theorem d_Mo_give_2 : decode prog_15_method_14_code 2 = .ok (.getfield 247, 3) := by decide +kernel
theorem d_Mo_give_5 : decode prog_15_method_14_code 5 = .ok (.iload_n 1, 1) := by decide +kernel
theorem d_Mo_give_6 : decode prog_15_method_14_code 6 = .ok (.isub, 1) := by decide +kernel
theorem d_Mo_give_7 : decode prog_15_method_14_code 7 = .ok (.putfield 247, 3) := by decide +kernel
theorem d_Mo_give_10 : decode prog_15_method_14_code 10 = .ok (.aload_n 0, 1) := by decide +kernel
theorem d_Mo_give_11 : decode prog_15_method_14_code 11 = .ok (.aload_n 0, 1) := by decide +kernel
theorem d_Mo_give_12 : decode prog_15_method_14_code 12 = .ok (.getfield 247, 3) := by decide +kernel
theorem d_Mo_give_15 : decode prog_15_method_14_code 15 = .ok (.iload_n 2, 1) := by decide +kernel
theorem d_Mo_give_16 : decode prog_15_method_14_code 16 = .ok (.lload_n 3, 1) := by decide +kernel
theorem d_Mo_give_17 : decode prog_15_method_14_code 17 = .ok (.invokevirtual 250, 3) := by decide +kernel
theorem d_Mo_give_20 : decode prog_15_method_14_code 20 = .ok (.aload_n 0, 1) := by decide +kernel
theorem d_Mo_give_21 : decode prog_15_method_14_code 21 = .ok (.dup, 1) := by decide +kernel
theorem d_Mo_give_22 : decode prog_15_method_14_code 22 = .ok (.getfield 247, 3) := by decide +kernel
theorem d_Mo_give_25 : decode prog_15_method_14_code 25 = .ok (.iconst 1, 1) := by decide +kernel
theorem d_Mo_give_26 : decode prog_15_method_14_code 26 = .ok (.iadd, 1) := by decide +kernel
theorem d_Mo_give_27 : decode prog_15_method_14_code 27 = .ok (.putfield 247, 3) := by decide +kernel
theorem d_Mo_give_30 : decode prog_15_method_14_code 30 = .ok (.iconst 0, 1) := by decide +kernel
theorem d_Mo_give_31 : decode prog_15_method_14_code 31 = .ok (.ireturn, 1) := by decide +kernel
set_option maxHeartbeats 4000000 in
set_option maxRecDepth 100000 in
theorem m_give (l : Launch) (D : va_G) (T : Nat → ClassId) (h0 : Nat) (ar : Nat → Nat) (S : MS) (p0 : Int32) (p1 : Int32) (v0 : Int64) (sz : Nat) (hI : MI S) (h3 : 0 ≤ p0.toInt ∧ p0.toInt ≤ (f_size S).toInt ∧ (f_size S).toInt - p0.toInt ≤ 39) (h1 : (0 ≤ p1.toInt ∧ p1.toInt ≤ 13 ∧ ¬ p1.toInt = 8 ∧ ¬ p1.toInt = 9 ∧ ¬ p1.toInt = 10 ∧ ¬ p1.toInt = 12)) (h2 : ((p1.toInt = 0 → -2147483648 ≤ v0.toInt ∧ v0.toInt ≤ 2147483647) ∧ ((p1.toInt = 5 ∨ p1.toInt = 13) → cOk v0) ∧ (p1.toInt = 6 → 0 ≤ v0.toInt ∧ v0.toInt ≤ 6))) : Met l ⟨"PageScribeModel", "give", "(IIJ)I"⟩ (wy ⟨"PageScribeModel", "give", "(IIJ)I"⟩ prog_15_method_14_code 5 (some .int)) ({ frames := 1, cells := 0, slots := 0, locals := 70 }) (va_Pc [.ref h0, .int p0, .int p1, .long v0] (Pw D T (mW T h0 ar S) sz E0)) (va_Qi (fun (r : Int32) (u : MS) => MI u ∧ kA S u ∧ kF S u ∧ (r.toInt = 0)) (fun u t => Bw D T (va_A (mW T h0 ar S) sz) (mW T h0 ar u) t) (va_A (mW T h0 ar S) sz)) 0 0 (va_A (mW T h0 ar S) sz) := by
  refine j_met (y := ⟨"PageScribeModel", "give", "(IIJ)I"⟩) (b := prog_15_method_14_code) (n := 5) (ret := (some .int)) (av := [.ref h0, .int p0, .int p1, .long v0]) (Qc := fun A => va_Qi (fun (r : Int32) (u : MS) => MI u ∧ kA S u ∧ kF S u ∧ (r.toInt = 0)) (fun u t => Bw D T A (mW T h0 ar u) t) A) (by decide +kernel) (Nat.le_of_ble_eq_true rfl) (fun p e s m args below meth c A ls F hr hlocks hnm hK hP hD hS hA hN hE hl => ?_)
  obtain ⟨hx, hb, hml, hown, hts⟩ := id F
  have hl : lv_has ls 5 [(0, .ref h0), (1, .int p0), (2, .int p1), (3, .long v0)] := hl
  obtain ⟨i_size, i_taken, i_vals, i_room, i_dicts, i_deep, i_open, i_cells, i_points, i_part, i_length, i_knows, i_page, i_fr, i_ink⟩ := id hI
  refine lv_aload_n hx hb d_Mo_give_0 rfl (lv_at hl 0 rfl) ?_
  refine lv_dup hx hb d_Mo_give_1 rfl ?_
  refine va_get (D := D) (ci := 11) (v := .int (f_size S)) (C := "PageScribeModel") (T := F_Mo) (N := 45) hx hb hts i_Mo hown hK hP 0 rfl rfl 4 (by decide) (hts _ k_6_164) (fun _ h9 => h9) rfl d_Mo_give_2 ?_
  refine lv_iload_n hx hb d_Mo_give_5 rfl (lv_at hl 1 rfl) ?_
  refine lv_isub hx hb d_Mo_give_6 ?_
  refine lv_topi (fun x1 ex1 => ?_)
  try have fx1 : x1.toInt = (f_size S).toInt - p0.toInt := by rw [ex1]; exact zt_sub rfl rfl (by omega) (by omega)
  refine va_put (D := D) (ci := 11) (v := .int x1) (ty := .int) (C := "PageScribeModel") (T := F_Mo) (N := 45) hx hb hts i_Mo t_Mo t_Mo_ok n_Mo hown hK hP hD hS 0 rfl rfl 4 (by decide) (hts _ k_6_164) (fun _ h9 => h9) rfl (by decide +kernel) rfl rfl (Nat.le_of_ble_eq_true rfl) d_Mo_give_7 (fun H locs hP hD hS => ?_)
  have hP : va_P D classes (mW T h0 ar ((((f_thrown S), (a_kinds S), (a_codes S), (a_reals S), x1, (f_taken S), (a_words S), (a_many S)), S.2.1, S.2.2.1, S.2.2.2.1, S.2.2.2.2.1, S.2.2.2.2.2) : MS)) H := hP
  have hD : va_D A (mW T h0 ar ((((f_thrown S), (a_kinds S), (a_codes S), (a_reals S), x1, (f_taken S), (a_words S), (a_many S)), S.2.1, S.2.2.1, S.2.2.2.1, S.2.2.2.2.1, S.2.2.2.2.2) : MS)) := hD
  refine lv_aload_n hx hb d_Mo_give_10 rfl (lv_at hl 0 rfl) ?_
  refine lv_aload_n hx hb d_Mo_give_11 rfl (lv_at hl 0 rfl) ?_
  refine va_get (D := D) (ci := 11) (v := .int x1) (C := "PageScribeModel") (T := F_Mo) (N := 45) hx hb hts i_Mo hown hK hP 0 rfl rfl 4 (by decide) (hts _ k_6_164) (fun _ h9 => h9) rfl d_Mo_give_12 ?_
  refine lv_iload_n hx hb d_Mo_give_15 rfl (lv_at hl 2 rfl) ?_
  refine lv_lload_n hx hb d_Mo_give_16 rfl (lv_at hl 3 rfl) ?_
  refine j_cv (wc := (mW T h0 ar ((((f_thrown S), (a_kinds S), (a_codes S), (a_reals S), x1, (f_taken S), (a_words S), (a_many S)), S.2.1, S.2.2.1, S.2.2.2.1, S.2.2.2.2.1, S.2.2.2.2.2) : MS))) (wr := []) hK hP hD hS hA [0, 1, 2, 3, 4, 5, 6, 7, 8, 9, 10, 11, 12, 13, 14, 15, 16, 17, 18, 19, 20, 21, 22, 23, 24, 25] [] rfl rfl (by decide) (by decide) (va_runV (As := [.int x1, .int p1, .long v0]) (rest := []) F (m_set l D T h0 ar ((((f_thrown S), (a_kinds S), (a_codes S), (a_reals S), x1, (f_taken S), (a_words S), (a_many S)), S.2.1, S.2.2.1, S.2.2.2.1, S.2.2.2.2.1, S.2.2.2.2.2) : MS) x1 p1 v0 H.size (show 0 ≤ x1.toInt ∧ x1.toInt < 1300 by omega)) (j_cV (k := 3) (C := "PageScribeModel") hts k_7_81 k_1_12 k_7_78 k_7_80 k_0_83 (by decide +kernel) ⟨Nat.le_of_ble_eq_true rfl, Nat.le_of_ble_eq_true rfl⟩) (j_preV (q0 := 0) (ci := 11) hK hP hD [0, 1, 2, 3, 4, 5, 6, 7, 8, 9, 10, 11, 12, 13, 14, 15, 16, 17, 18, 19, 20, 21, 22, 23, 24, 25] rfl (by decide) rfl rfl (fun _ _ _ _ h => h) (fun _ _ _ => trivial)) rfl rfl hl.1 rfl (lv_room (Nat.le_of_ble_eq_true rfl)) d_Mo_give_17 ⟨Nat.le_of_ble_eq_true rfl, Nat.le_of_ble_eq_true rfl⟩) (fun S1 H locs hw1 hP hD hS => ?_)
  obtain rfl := hw1
  have hP : va_P D classes (mW T h0 ar ((((f_thrown S), (upd (a_kinds S) (x1.toInt.toNat) p1), (vp_updL (a_codes S) (x1.toInt.toNat) v0), (vf_upd (a_reals S) (x1.toInt.toNat) 0), x1, (f_taken S), (a_words S), (a_many S)), S.2.1, S.2.2.1, S.2.2.2.1, S.2.2.2.2.1, S.2.2.2.2.2) : MS)) H := hP
  have hD : va_D A (mW T h0 ar ((((f_thrown S), (upd (a_kinds S) (x1.toInt.toNat) p1), (vp_updL (a_codes S) (x1.toInt.toNat) v0), (vf_upd (a_reals S) (x1.toInt.toNat) 0), x1, (f_taken S), (a_words S), (a_many S)), S.2.1, S.2.2.1, S.2.2.2.1, S.2.2.2.2.1, S.2.2.2.2.2) : MS)) := hD
  have i_vals : ∀ k, k < 1300 → vOk ((upd (a_kinds S) (x1.toInt.toNat) p1) k) ((vp_updL (a_codes S) (x1.toInt.toNat) v0) k) ((vf_upd (a_reals S) (x1.toInt.toNat) 0) k) := vOk_upd i_vals ⟨by omega, by omega, by omega, by omega, dF_0⟩
  have fa1 : ((upd (a_kinds S) (x1.toInt.toNat) p1) (x1.toInt.toNat)).toInt = p1.toInt := congrArg Int32.toInt upd_s
  refine lv_aload_n hx hb d_Mo_give_20 rfl (lv_at hl 0 rfl) ?_
  refine lv_dup hx hb d_Mo_give_21 rfl ?_
  refine va_get (D := D) (ci := 11) (v := .int x1) (C := "PageScribeModel") (T := F_Mo) (N := 45) hx hb hts i_Mo hown hK hP 0 rfl rfl 4 (by decide) (hts _ k_6_164) (fun _ h9 => h9) rfl d_Mo_give_22 ?_
  refine lv_iconst (v := 1) hx hb d_Mo_give_25 (by decide) ?_
  refine lv_iadd hx hb d_Mo_give_26 ?_
  refine lv_topi (fun x2 ex2 => ?_)
  try have fx2 : x2.toInt = x1.toInt + 1 := by rw [ex2]; exact zt_add rfl tI_1 (by omega) (by omega)
  refine va_put (D := D) (ci := 11) (v := .int x2) (ty := .int) (C := "PageScribeModel") (T := F_Mo) (N := 45) hx hb hts i_Mo t_Mo t_Mo_ok n_Mo hown hK hP hD hS 0 rfl rfl 4 (by decide) (hts _ k_6_164) (fun _ h9 => h9) rfl (by decide +kernel) rfl rfl (Nat.le_of_ble_eq_true rfl) d_Mo_give_27 (fun H locs hP hD hS => ?_)
  have hP : va_P D classes (mW T h0 ar ((((f_thrown S), (upd (a_kinds S) (x1.toInt.toNat) p1), (vp_updL (a_codes S) (x1.toInt.toNat) v0), (vf_upd (a_reals S) (x1.toInt.toNat) 0), x2, (f_taken S), (a_words S), (a_many S)), S.2.1, S.2.2.1, S.2.2.2.1, S.2.2.2.2.1, S.2.2.2.2.2) : MS)) H := hP
  have hD : va_D A (mW T h0 ar ((((f_thrown S), (upd (a_kinds S) (x1.toInt.toNat) p1), (vp_updL (a_codes S) (x1.toInt.toNat) v0), (vf_upd (a_reals S) (x1.toInt.toNat) 0), x2, (f_taken S), (a_words S), (a_many S)), S.2.1, S.2.2.1, S.2.2.2.1, S.2.2.2.2.1, S.2.2.2.2.2) : MS)) := hD
  refine lv_iconst (v := 0) hx hb d_Mo_give_30 (by decide) ?_
  exact j_iret F hr hlocks hK hS ((((f_thrown S), (upd (a_kinds S) (x1.toInt.toNat) p1), (vp_updL (a_codes S) (x1.toInt.toNat) v0), (vf_upd (a_reals S) (x1.toInt.toNat) 0), x2, (f_taken S), (a_words S), (a_many S)), S.2.1, S.2.2.1, S.2.2.2.1, S.2.2.2.2.1, S.2.2.2.2.2) : MS) ⟨⟨(show 0 ≤ x2.toInt ∧ x2.toInt ≤ 40 by omega), i_taken, i_vals, i_room, i_dicts, i_deep, i_open, i_cells, i_points, i_part, i_length, i_knows, i_page, i_fr, i_ink⟩, (kA_r S), (kF_r S), (show (0 : Int32).toInt = 0 by have := tI_0; omega)⟩ hP hD d_Mo_give_31
