theorem d_Mo_push_0 : decode prog_15_method_11_code 0 = .ok (.aload_n 0, 1) := by decide +kernel
theorem k_6_164 : Cond.fieldLink "PageScribeModel" 247 "PageScribeModel" "size" "I" ∈ gw := gw_of (tb_6 (List.mem_of_getElem? (i := 164) (by decide +kernel))) (by decide +kernel)
theorem d_Mo_push_1 : decode prog_15_method_11_code 1 = .ok (.getfield 247, 3) := by decide +kernel
theorem d_Mo_push_4 : decode prog_15_method_11_code 4 = .ok (.bipush 40, 2) := by decide +kernel
theorem d_Mo_push_6 : decode prog_15_method_11_code 6 = .ok (.if_icmp .ne 5, 3) := by decide +kernel
theorem tI_40 : (40 : Int32).toInt = 40 := by decide +kernel
theorem d_Mo_push_11 : decode prog_15_method_11_code 11 = .ok (.aload_n 0, 1) := by decide +kernel
theorem d_Mo_push_12 : decode prog_15_method_11_code 12 = .ok (.aload_n 0, 1) := by decide +kernel
theorem d_Mo_push_13 : decode prog_15_method_11_code 13 = .ok (.getfield 247, 3) := by decide +kernel
theorem d_Mo_push_16 : decode prog_15_method_11_code 16 = .ok (.iload_n 1, 1) := by decide +kernel
theorem d_Mo_push_17 : decode prog_15_method_11_code 17 = .ok (.lload_n 2, 1) := by decide +kernel
theorem d_Mo_push_18 : decode prog_15_method_11_code 18 = .ok (.invokevirtual 250, 3) := by decide +kernel
theorem k_7_81 : Cond.code ⟨"PageScribeModel", "set", "(IIJ)V"⟩ prog_15_method_4_code 5 none ∈ gw := gw_of (tb_7 (List.mem_of_getElem? (i := 81) (by decide +kernel))) (by decide +kernel)
theorem k_1_12 : Cond.initialized "PageScribeModel" ∈ gw := gw_of (tb_1 (List.mem_of_getElem? (i := 12) (by decide +kernel))) (by decide +kernel)
theorem k_7_78 : Cond.methodLink "PageScribeModel" 250 ⟨"PageScribeModel", "set", "(IIJ)V"⟩ ∈ gw := gw_of (tb_7 (List.mem_of_getElem? (i := 78) (by decide +kernel))) (by decide +kernel)
theorem k_7_80 : Cond.instanceMethod ⟨"PageScribeModel", "set", "(IIJ)V"⟩ ∈ gw := gw_of (tb_7 (List.mem_of_getElem? (i := 80) (by decide +kernel))) (by decide +kernel)
theorem k_0_83 : Cond.selects "PageScribeModel" ⟨"PageScribeModel", "set", "(IIJ)V"⟩ ⟨"PageScribeModel", "set", "(IIJ)V"⟩ ∈ gw := gw_of (tb_0 (List.mem_of_getElem? (i := 83) (by decide +kernel))) (by decide +kernel)
theorem d_Mo_push_21 : decode prog_15_method_11_code 21 = .ok (.aload_n 0, 1) := by decide +kernel
theorem d_Mo_push_22 : decode prog_15_method_11_code 22 = .ok (.dup, 1) := by decide +kernel
theorem d_Mo_push_23 : decode prog_15_method_11_code 23 = .ok (.getfield 247, 3) := by decide +kernel
theorem d_Mo_push_26 : decode prog_15_method_11_code 26 = .ok (.iconst 1, 1) := by decide +kernel
theorem d_Mo_push_27 : decode prog_15_method_11_code 27 = .ok (.iadd, 1) := by decide +kernel
theorem d_Mo_push_28 : decode prog_15_method_11_code 28 = .ok (.putfield 247, 3) := by decide +kernel
theorem d_Mo_push_31 : decode prog_15_method_11_code 31 = .ok (.iconst 0, 1) := by decide +kernel
theorem d_Mo_push_32 : decode prog_15_method_11_code 32 = .ok (.ireturn, 1) := by decide +kernel
theorem d_Mo_push_9 : decode prog_15_method_11_code 9 = .ok (.iconst 2, 1) := by decide +kernel
theorem d_Mo_push_10 : decode prog_15_method_11_code 10 = .ok (.ireturn, 1) := by decide +kernel
set_option maxHeartbeats 4000000 in
set_option maxRecDepth 100000 in
theorem m_push (l : Launch) (D : va_G) (T : Nat → ClassId) (h0 : Nat) (ar : Nat → Nat) (S : MS) (p0 : Int32) (v0 : Int64) (sz : Nat) (hI : MI S) (h1 : vOk p0 v0 0) : Met l ⟨"PageScribeModel", "push", "(IJ)I"⟩ (wy ⟨"PageScribeModel", "push", "(IJ)I"⟩ prog_15_method_11_code 4 (some .int)) ({ frames := 1, cells := 0, slots := 0, locals := 70 }) (va_Pc [.ref h0, .int p0, .long v0] (Pw D T (mW T h0 ar S) sz E0)) (va_Qi (fun (r : Int32) (u : MS) => MI u ∧ kA S u ∧ kF S u ∧ (r.toInt = 0 ∨ r.toInt = 2)) (fun u t => Bw D T (va_A (mW T h0 ar S) sz) (mW T h0 ar u) t) (va_A (mW T h0 ar S) sz)) 0 0 (va_A (mW T h0 ar S) sz) := by
  refine j_met (y := ⟨"PageScribeModel", "push", "(IJ)I"⟩) (b := prog_15_method_11_code) (n := 4) (ret := (some .int)) (av := [.ref h0, .int p0, .long v0]) (Qc := fun A => va_Qi (fun (r : Int32) (u : MS) => MI u ∧ kA S u ∧ kF S u ∧ (r.toInt = 0 ∨ r.toInt = 2)) (fun u t => Bw D T A (mW T h0 ar u) t) A) (by decide +kernel) (Nat.le_of_ble_eq_true rfl) (fun p e s m args below meth c A ls F hr hlocks hnm hK hP hD hS hA hN hE hl => ?_)
  obtain ⟨hx, hb, hml, hown, hts⟩ := id F
  have hl : lv_has ls 4 [(0, .ref h0), (1, .int p0), (2, .long v0)] := hl
  obtain ⟨i_size, i_taken, i_vals, i_room, i_dicts, i_deep, i_open, i_cells, i_points, i_part, i_length, i_knows, i_page, i_text, i_pats, i_fuel, i_fr, i_ink⟩ := id hI
  refine lv_aload_n hx hb d_Mo_push_0 rfl (lv_at hl 0 rfl) ?_
  refine va_get (D := D) (ci := 11) (v := .int (f_size S)) (C := "PageScribeModel") (T := F_Mo) (N := 45) hx hb hts i_Mo hown hK hP 0 mW_0 cl_11 4 (by decide) (hts _ k_6_164) (fun _ h9 => h9) (mg_size _ _) d_Mo_push_1 ?_
  refine lv_bipush (v := 40) hx hb d_Mo_push_4 (by decide) ?_
  refine lv_icmp_ne (tgt := 11) hx hb d_Mo_push_6 (by decide) (fun c6_1 => ?_) (fun c6_1 => ?_)
  · first | have fc6_1 : (f_size S).toInt < 40 := (by have := zt_ne (show (f_size S).toInt = _ from rfl) tI_40 c6_1; omega) | have fc6_1 : 40 < (f_size S).toInt := (by have := zt_ne (show (f_size S).toInt = _ from rfl) tI_40 c6_1; omega) | skip
    refine lv_aload_n hx hb d_Mo_push_11 rfl (lv_at hl 0 rfl) ?_
    refine lv_aload_n hx hb d_Mo_push_12 rfl (lv_at hl 0 rfl) ?_
    refine va_get (D := D) (ci := 11) (v := .int (f_size S)) (C := "PageScribeModel") (T := F_Mo) (N := 45) hx hb hts i_Mo hown hK hP 0 mW_0 cl_11 4 (by decide) (hts _ k_6_164) (fun _ h9 => h9) (mg_size _ _) d_Mo_push_13 ?_
    refine lv_iload_n hx hb d_Mo_push_16 rfl (lv_at hl 1 rfl) ?_
    refine lv_lload_n hx hb d_Mo_push_17 rfl (lv_at hl 2 rfl) ?_
    refine jm_cv (w := (fun u => u)) hK hP hD hS hA (va_runV (As := [.int (f_size S), .int p0, .long v0]) (rest := []) F (m_set l D T h0 ar S (f_size S) p0 v0 s.heap.size (show 0 ≤ (f_size S).toInt ∧ (f_size S).toInt < 1300 by omega)) (j_cV (k := 3) (C := "PageScribeModel") hts k_7_81 k_1_12 k_7_78 k_7_80 k_0_83 (by decide +kernel) ⟨Nat.le_of_ble_eq_true rfl, Nat.le_of_ble_eq_true rfl⟩) (jm_pre hK hP hD) rfl rfl hl.1 rfl (lv_room (Nat.le_of_ble_eq_true rfl)) d_Mo_push_18 ⟨Nat.le_of_ble_eq_true rfl, Nat.le_of_ble_eq_true rfl⟩) (fun S1 H locs hw1 hP hD hS => ?_)
    obtain rfl := hw1
    have hP : va_P D classes (mW T h0 ar ((((f_thrown S), (upd (a_kinds S) ((f_size S).toInt.toNat) p0), (vp_updL (a_codes S) ((f_size S).toInt.toNat) v0), (vf_upd (a_reals S) ((f_size S).toInt.toNat) 0), (f_size S), (f_taken S), (a_words S), (a_many S)), S.2.1, S.2.2.1, S.2.2.2.1, S.2.2.2.2.1, S.2.2.2.2.2) : MS)) H := hP
    have hD : va_D A (mW T h0 ar ((((f_thrown S), (upd (a_kinds S) ((f_size S).toInt.toNat) p0), (vp_updL (a_codes S) ((f_size S).toInt.toNat) v0), (vf_upd (a_reals S) ((f_size S).toInt.toNat) 0), (f_size S), (f_taken S), (a_words S), (a_many S)), S.2.1, S.2.2.1, S.2.2.2.1, S.2.2.2.2.1, S.2.2.2.2.2) : MS)) := hD
    have i_vals : ∀ k, k < 1300 → vOk ((upd (a_kinds S) ((f_size S).toInt.toNat) p0) k) ((vp_updL (a_codes S) ((f_size S).toInt.toNat) v0) k) ((vf_upd (a_reals S) ((f_size S).toInt.toNat) 0) k) := vOk_upd i_vals h1
    have fa1 : ((upd (a_kinds S) ((f_size S).toInt.toNat) p0) ((f_size S).toInt.toNat)).toInt = p0.toInt := congrArg Int32.toInt upd_s
    refine lv_aload_n hx hb d_Mo_push_21 rfl (lv_at hl 0 rfl) ?_
    refine lv_dup hx hb d_Mo_push_22 rfl ?_
    refine va_get (D := D) (ci := 11) (v := .int (f_size S)) (C := "PageScribeModel") (T := F_Mo) (N := 45) hx hb hts i_Mo hown hK hP 0 mW_0 cl_11 4 (by decide) (hts _ k_6_164) (fun _ h9 => h9) (mg_size _ _) d_Mo_push_23 ?_
    refine lv_iconst (v := 1) hx hb d_Mo_push_26 (by decide) ?_
    refine lv_iadd hx hb d_Mo_push_27 ?_
    refine lv_topi (fun x1 ex1 => ?_)
    have fx1 : x1.toInt = ((f_size S).toInt + 1) := by rw [ex1]; exact (zt_add (show (f_size S).toInt = _ from rfl) tI_1 (by omega) (by omega)).trans (by omega)
    refine va_put (D := D) (ci := 11) (v := .int x1) (ty := .int) (C := "PageScribeModel") (T := F_Mo) (N := 45) hx hb hts i_Mo t_Mo t_Mo_ok n_Mo hown hK hP hD hS 0 mW_0 cl_11 4 (by decide) (hts _ k_6_164) (fun _ h9 => h9) rfl (by decide +kernel) rfl rfl (Nat.le_of_ble_eq_true rfl) d_Mo_push_28 (fun H locs hP hD hS => ?_)
    rw [mp_size] at hP hD
    have hP : va_P D classes (mW T h0 ar ((((f_thrown S), (upd (a_kinds S) ((f_size S).toInt.toNat) p0), (vp_updL (a_codes S) ((f_size S).toInt.toNat) v0), (vf_upd (a_reals S) ((f_size S).toInt.toNat) 0), x1, (f_taken S), (a_words S), (a_many S)), S.2.1, S.2.2.1, S.2.2.2.1, S.2.2.2.2.1, S.2.2.2.2.2) : MS)) H := hP
    have hD : va_D A (mW T h0 ar ((((f_thrown S), (upd (a_kinds S) ((f_size S).toInt.toNat) p0), (vp_updL (a_codes S) ((f_size S).toInt.toNat) v0), (vf_upd (a_reals S) ((f_size S).toInt.toNat) 0), x1, (f_taken S), (a_words S), (a_many S)), S.2.1, S.2.2.1, S.2.2.2.1, S.2.2.2.2.1, S.2.2.2.2.2) : MS)) := hD
    refine lv_iconst (v := 0) hx hb d_Mo_push_31 (by decide) ?_
    exact j_iret F hr hlocks hK hS ((((f_thrown S), (upd (a_kinds S) ((f_size S).toInt.toNat) p0), (vp_updL (a_codes S) ((f_size S).toInt.toNat) v0), (vf_upd (a_reals S) ((f_size S).toInt.toNat) 0), x1, (f_taken S), (a_words S), (a_many S)), S.2.1, S.2.2.1, S.2.2.2.1, S.2.2.2.2.1, S.2.2.2.2.2) : MS) ⟨⟨(show 0 ≤ x1.toInt ∧ x1.toInt ≤ 40 by omega), i_taken, i_vals, i_room, i_dicts, i_deep, i_open, i_cells, i_points, i_part, i_length, i_knows, i_page, i_text, i_pats, i_fuel, i_fr, i_ink⟩, (kA_r S), (kF_r S), (show (0 : Int32).toInt = 0 ∨ (0 : Int32).toInt = 2 by have := tI_0; omega)⟩ hP hD d_Mo_push_32
  · have fc6_1 : (f_size S).toInt = 40 := zt_eq (show (f_size S).toInt = _ from rfl) tI_40 c6_1
    refine lv_iconst (v := 2) hx hb d_Mo_push_9 (by decide) ?_
    exact j_iret F hr hlocks hK hS S ⟨⟨i_size, i_taken, i_vals, i_room, i_dicts, i_deep, i_open, i_cells, i_points, i_part, i_length, i_knows, i_page, i_text, i_pats, i_fuel, i_fr, i_ink⟩, (kA_r S), (kF_r S), (show (2 : Int32).toInt = 0 ∨ (2 : Int32).toInt = 2 by have := tI_2; omega)⟩ hP hD d_Mo_push_10
theorem d_Mo_pushValue_0 : decode prog_15_method_12_code 0 = .ok (.aload_n 0, 1) := by decide +kernel
theorem d_Mo_pushValue_1 : decode prog_15_method_12_code 1 = .ok (.getfield 247, 3) := by decide +kernel
theorem d_Mo_pushValue_4 : decode prog_15_method_12_code 4 = .ok (.bipush 40, 2) := by decide +kernel
theorem d_Mo_pushValue_6 : decode prog_15_method_12_code 6 = .ok (.if_icmp .ne 5, 3) := by decide +kernel
theorem d_Mo_pushValue_11 : decode prog_15_method_12_code 11 = .ok (.aload_n 0, 1) := by decide +kernel
theorem d_Mo_pushValue_12 : decode prog_15_method_12_code 12 = .ok (.aload_n 0, 1) := by decide +kernel
theorem d_Mo_pushValue_13 : decode prog_15_method_12_code 13 = .ok (.getfield 247, 3) := by decide +kernel
theorem d_Mo_pushValue_16 : decode prog_15_method_12_code 16 = .ok (.iload_n 1, 1) := by decide +kernel
theorem d_Mo_pushValue_17 : decode prog_15_method_12_code 17 = .ok (.invokevirtual 254, 3) := by decide +kernel
theorem k_7_76 : Cond.code ⟨"PageScribeModel", "move", "(II)V"⟩ prog_15_method_3_code 3 none ∈ gw := gw_of (tb_7 (List.mem_of_getElem? (i := 76) (by decide +kernel))) (by decide +kernel)
theorem k_7_73 : Cond.methodLink "PageScribeModel" 254 ⟨"PageScribeModel", "move", "(II)V"⟩ ∈ gw := gw_of (tb_7 (List.mem_of_getElem? (i := 73) (by decide +kernel))) (by decide +kernel)
theorem k_7_75 : Cond.instanceMethod ⟨"PageScribeModel", "move", "(II)V"⟩ ∈ gw := gw_of (tb_7 (List.mem_of_getElem? (i := 75) (by decide +kernel))) (by decide +kernel)
theorem k_0_82 : Cond.selects "PageScribeModel" ⟨"PageScribeModel", "move", "(II)V"⟩ ⟨"PageScribeModel", "move", "(II)V"⟩ ∈ gw := gw_of (tb_0 (List.mem_of_getElem? (i := 82) (by decide +kernel))) (by decide +kernel)
theorem d_Mo_pushValue_20 : decode prog_15_method_12_code 20 = .ok (.aload_n 0, 1) := by decide +kernel
theorem d_Mo_pushValue_21 : decode prog_15_method_12_code 21 = .ok (.dup, 1) := by decide +kernel
theorem d_Mo_pushValue_22 : decode prog_15_method_12_code 22 = .ok (.getfield 247, 3) := by decide +kernel
theorem d_Mo_pushValue_25 : decode prog_15_method_12_code 25 = .ok (.iconst 1, 1) := by decide +kernel
theorem d_Mo_pushValue_26 : decode prog_15_method_12_code 26 = .ok (.iadd, 1) := by decide +kernel
theorem d_Mo_pushValue_27 : decode prog_15_method_12_code 27 = .ok (.putfield 247, 3) := by decide +kernel
theorem d_Mo_pushValue_30 : decode prog_15_method_12_code 30 = .ok (.iconst 0, 1) := by decide +kernel
theorem d_Mo_pushValue_31 : decode prog_15_method_12_code 31 = .ok (.ireturn, 1) := by decide +kernel
theorem d_Mo_pushValue_9 : decode prog_15_method_12_code 9 = .ok (.iconst 2, 1) := by decide +kernel
theorem d_Mo_pushValue_10 : decode prog_15_method_12_code 10 = .ok (.ireturn, 1) := by decide +kernel
set_option maxHeartbeats 4000000 in
set_option maxRecDepth 100000 in
theorem m_pushValue (l : Launch) (D : va_G) (T : Nat → ClassId) (h0 : Nat) (ar : Nat → Nat) (S : MS) (p0 : Int32) (sz : Nat) (hI : MI S) (h1 : 0 ≤ p0.toInt ∧ p0.toInt < 1300) : Met l ⟨"PageScribeModel", "pushValue", "(I)I"⟩ (wy ⟨"PageScribeModel", "pushValue", "(I)I"⟩ prog_15_method_12_code 2 (some .int)) ({ frames := 1, cells := 0, slots := 0, locals := 70 }) (va_Pc [.ref h0, .int p0] (Pw D T (mW T h0 ar S) sz E0)) (va_Qi (fun (r : Int32) (u : MS) => MI u ∧ kA S u ∧ kF S u ∧ (r.toInt = 0 ∨ r.toInt = 2)) (fun u t => Bw D T (va_A (mW T h0 ar S) sz) (mW T h0 ar u) t) (va_A (mW T h0 ar S) sz)) 0 0 (va_A (mW T h0 ar S) sz) := by
  refine j_met (y := ⟨"PageScribeModel", "pushValue", "(I)I"⟩) (b := prog_15_method_12_code) (n := 2) (ret := (some .int)) (av := [.ref h0, .int p0]) (Qc := fun A => va_Qi (fun (r : Int32) (u : MS) => MI u ∧ kA S u ∧ kF S u ∧ (r.toInt = 0 ∨ r.toInt = 2)) (fun u t => Bw D T A (mW T h0 ar u) t) A) (by decide +kernel) (Nat.le_of_ble_eq_true rfl) (fun p e s m args below meth c A ls F hr hlocks hnm hK hP hD hS hA hN hE hl => ?_)
  obtain ⟨hx, hb, hml, hown, hts⟩ := id F
  have hl : lv_has ls 2 [(0, .ref h0), (1, .int p0)] := hl
  obtain ⟨i_size, i_taken, i_vals, i_room, i_dicts, i_deep, i_open, i_cells, i_points, i_part, i_length, i_knows, i_page, i_text, i_pats, i_fuel, i_fr, i_ink⟩ := id hI
  refine lv_aload_n hx hb d_Mo_pushValue_0 rfl (lv_at hl 0 rfl) ?_
  refine va_get (D := D) (ci := 11) (v := .int (f_size S)) (C := "PageScribeModel") (T := F_Mo) (N := 45) hx hb hts i_Mo hown hK hP 0 mW_0 cl_11 4 (by decide) (hts _ k_6_164) (fun _ h9 => h9) (mg_size _ _) d_Mo_pushValue_1 ?_
  refine lv_bipush (v := 40) hx hb d_Mo_pushValue_4 (by decide) ?_
  refine lv_icmp_ne (tgt := 11) hx hb d_Mo_pushValue_6 (by decide) (fun c6_1 => ?_) (fun c6_1 => ?_)
  · first | have fc6_1 : (f_size S).toInt < 40 := (by have := zt_ne (show (f_size S).toInt = _ from rfl) tI_40 c6_1; omega) | have fc6_1 : 40 < (f_size S).toInt := (by have := zt_ne (show (f_size S).toInt = _ from rfl) tI_40 c6_1; omega) | skip
    refine lv_aload_n hx hb d_Mo_pushValue_11 rfl (lv_at hl 0 rfl) ?_
    refine lv_aload_n hx hb d_Mo_pushValue_12 rfl (lv_at hl 0 rfl) ?_
    refine va_get (D := D) (ci := 11) (v := .int (f_size S)) (C := "PageScribeModel") (T := F_Mo) (N := 45) hx hb hts i_Mo hown hK hP 0 mW_0 cl_11 4 (by decide) (hts _ k_6_164) (fun _ h9 => h9) (mg_size _ _) d_Mo_pushValue_13 ?_
    refine lv_iload_n hx hb d_Mo_pushValue_16 rfl (lv_at hl 1 rfl) ?_
    refine jm_cv (w := (fun u => u)) hK hP hD hS hA (va_runV (As := [.int (f_size S), .int p0]) (rest := []) F (m_move l D T h0 ar S (f_size S) p0 s.heap.size (show 0 ≤ (f_size S).toInt ∧ (f_size S).toInt < 1300 by omega) (show 0 ≤ p0.toInt ∧ p0.toInt < 1300 by omega)) (j_cV (k := 2) (C := "PageScribeModel") hts k_7_76 k_1_12 k_7_73 k_7_75 k_0_82 (by decide +kernel) ⟨Nat.le_of_ble_eq_true rfl, Nat.le_of_ble_eq_true rfl⟩) (jm_pre hK hP hD) rfl rfl hl.1 rfl (lv_room (Nat.le_of_ble_eq_true rfl)) d_Mo_pushValue_17 ⟨Nat.le_of_ble_eq_true rfl, Nat.le_of_ble_eq_true rfl⟩) (fun S1 H locs hw1 hP hD hS => ?_)
    obtain rfl := hw1
    have hP : va_P D classes (mW T h0 ar ((((f_thrown S), (upd (a_kinds S) ((f_size S).toInt.toNat) ((a_kinds S) (p0.toInt.toNat))), (vp_updL (a_codes S) ((f_size S).toInt.toNat) ((a_codes S) (p0.toInt.toNat))), (vf_upd (a_reals S) ((f_size S).toInt.toNat) ((a_reals S) (p0.toInt.toNat))), (f_size S), (f_taken S), (a_words S), (a_many S)), S.2.1, S.2.2.1, S.2.2.2.1, S.2.2.2.2.1, S.2.2.2.2.2) : MS)) H := hP
    have hD : va_D A (mW T h0 ar ((((f_thrown S), (upd (a_kinds S) ((f_size S).toInt.toNat) ((a_kinds S) (p0.toInt.toNat))), (vp_updL (a_codes S) ((f_size S).toInt.toNat) ((a_codes S) (p0.toInt.toNat))), (vf_upd (a_reals S) ((f_size S).toInt.toNat) ((a_reals S) (p0.toInt.toNat))), (f_size S), (f_taken S), (a_words S), (a_many S)), S.2.1, S.2.2.1, S.2.2.2.1, S.2.2.2.2.1, S.2.2.2.2.2) : MS)) := hD
    have i_vals : ∀ k, k < 1300 → vOk ((upd (a_kinds S) ((f_size S).toInt.toNat) ((a_kinds S) (p0.toInt.toNat))) k) ((vp_updL (a_codes S) ((f_size S).toInt.toNat) ((a_codes S) (p0.toInt.toNat))) k) ((vf_upd (a_reals S) ((f_size S).toInt.toNat) ((a_reals S) (p0.toInt.toNat))) k) := vOk_upd i_vals (i_vals (p0.toInt.toNat) (by omega))
    have fa1 : ((upd (a_kinds S) ((f_size S).toInt.toNat) ((a_kinds S) (p0.toInt.toNat))) ((f_size S).toInt.toNat)).toInt = ((a_kinds S) (p0.toInt.toNat)).toInt := congrArg Int32.toInt upd_s
    have fa2 : ((vp_updL (a_codes S) ((f_size S).toInt.toNat) ((a_codes S) (p0.toInt.toNat))) ((f_size S).toInt.toNat)).toInt = ((a_codes S) (p0.toInt.toNat)).toInt := congrArg Int64.toInt updL_s
    refine lv_aload_n hx hb d_Mo_pushValue_20 rfl (lv_at hl 0 rfl) ?_
    refine lv_dup hx hb d_Mo_pushValue_21 rfl ?_
    refine va_get (D := D) (ci := 11) (v := .int (f_size S)) (C := "PageScribeModel") (T := F_Mo) (N := 45) hx hb hts i_Mo hown hK hP 0 mW_0 cl_11 4 (by decide) (hts _ k_6_164) (fun _ h9 => h9) (mg_size _ _) d_Mo_pushValue_22 ?_
    refine lv_iconst (v := 1) hx hb d_Mo_pushValue_25 (by decide) ?_
    refine lv_iadd hx hb d_Mo_pushValue_26 ?_
    refine lv_topi (fun x1 ex1 => ?_)
    have fx1 : x1.toInt = ((f_size S).toInt + 1) := by rw [ex1]; exact (zt_add (show (f_size S).toInt = _ from rfl) tI_1 (by omega) (by omega)).trans (by omega)
    refine va_put (D := D) (ci := 11) (v := .int x1) (ty := .int) (C := "PageScribeModel") (T := F_Mo) (N := 45) hx hb hts i_Mo t_Mo t_Mo_ok n_Mo hown hK hP hD hS 0 mW_0 cl_11 4 (by decide) (hts _ k_6_164) (fun _ h9 => h9) rfl (by decide +kernel) rfl rfl (Nat.le_of_ble_eq_true rfl) d_Mo_pushValue_27 (fun H locs hP hD hS => ?_)
    rw [mp_size] at hP hD
    have hP : va_P D classes (mW T h0 ar ((((f_thrown S), (upd (a_kinds S) ((f_size S).toInt.toNat) ((a_kinds S) (p0.toInt.toNat))), (vp_updL (a_codes S) ((f_size S).toInt.toNat) ((a_codes S) (p0.toInt.toNat))), (vf_upd (a_reals S) ((f_size S).toInt.toNat) ((a_reals S) (p0.toInt.toNat))), x1, (f_taken S), (a_words S), (a_many S)), S.2.1, S.2.2.1, S.2.2.2.1, S.2.2.2.2.1, S.2.2.2.2.2) : MS)) H := hP
    have hD : va_D A (mW T h0 ar ((((f_thrown S), (upd (a_kinds S) ((f_size S).toInt.toNat) ((a_kinds S) (p0.toInt.toNat))), (vp_updL (a_codes S) ((f_size S).toInt.toNat) ((a_codes S) (p0.toInt.toNat))), (vf_upd (a_reals S) ((f_size S).toInt.toNat) ((a_reals S) (p0.toInt.toNat))), x1, (f_taken S), (a_words S), (a_many S)), S.2.1, S.2.2.1, S.2.2.2.1, S.2.2.2.2.1, S.2.2.2.2.2) : MS)) := hD
    refine lv_iconst (v := 0) hx hb d_Mo_pushValue_30 (by decide) ?_
    exact j_iret F hr hlocks hK hS ((((f_thrown S), (upd (a_kinds S) ((f_size S).toInt.toNat) ((a_kinds S) (p0.toInt.toNat))), (vp_updL (a_codes S) ((f_size S).toInt.toNat) ((a_codes S) (p0.toInt.toNat))), (vf_upd (a_reals S) ((f_size S).toInt.toNat) ((a_reals S) (p0.toInt.toNat))), x1, (f_taken S), (a_words S), (a_many S)), S.2.1, S.2.2.1, S.2.2.2.1, S.2.2.2.2.1, S.2.2.2.2.2) : MS) ⟨⟨(show 0 ≤ x1.toInt ∧ x1.toInt ≤ 40 by omega), i_taken, i_vals, i_room, i_dicts, i_deep, i_open, i_cells, i_points, i_part, i_length, i_knows, i_page, i_text, i_pats, i_fuel, i_fr, i_ink⟩, (kA_r S), (kF_r S), (show (0 : Int32).toInt = 0 ∨ (0 : Int32).toInt = 2 by have := tI_0; omega)⟩ hP hD d_Mo_pushValue_31
  · have fc6_1 : (f_size S).toInt = 40 := zt_eq (show (f_size S).toInt = _ from rfl) tI_40 c6_1
    refine lv_iconst (v := 2) hx hb d_Mo_pushValue_9 (by decide) ?_
    exact j_iret F hr hlocks hK hS S ⟨⟨i_size, i_taken, i_vals, i_room, i_dicts, i_deep, i_open, i_cells, i_points, i_part, i_length, i_knows, i_page, i_text, i_pats, i_fuel, i_fr, i_ink⟩, (kA_r S), (kF_r S), (show (2 : Int32).toInt = 0 ∨ (2 : Int32).toInt = 2 by have := tI_2; omega)⟩ hP hD d_Mo_pushValue_10
theorem d_Mo_give_0 : decode prog_15_method_14_code 0 = .ok (.aload_n 0, 1) := by decide +kernel
theorem d_Mo_give_1 : decode prog_15_method_14_code 1 = .ok (.dup, 1) := by decide +kernel
theorem d_Mo_give_2 : decode prog_15_method_14_code 2 = .ok (.getfield 247, 3) := by decide +kernel
theorem d_Mo_give_5 : decode prog_15_method_14_code 5 = .ok (.iload_n 1, 1) := by decide +kernel
theorem d_Mo_give_6 : decode prog_15_method_14_code 6 = .ok (.isub, 1) := by decide +kernel
theorem d_Mo_give_7 : decode prog_15_method_14_code 7 = .ok (.putfield 247, 3) := by decide +kernel
theorem d_Mo_give_10 : decode prog_15_method_14_code 10 = .ok (.aload_n 0, 1) := by decide +kernel
theorem d_Mo_give_11 : decode prog_15_method_14_code 11 = .ok (.aload_n 0, 1) := by decide +kernel
theorem d_Mo_give_12 : decode prog_15_method_14_code 12 = .ok (.getfield 247, 3) := by decide +kernel
theorem d_Mo_give_15 : decode prog_15_method_14_code 15 = .ok (.iload_n 2, 1) := by decide +kernel
theorem d_Mo_give_16 : decode prog_15_method_14_code 16 = .ok (.lload_n 3, 1) := by decide +kernel
theorem d_Mo_give_17 : decode prog_15_method_14_code 17 = .ok (.invokevirtual 250, 3) := by decide +kernel
theorem d_Mo_give_20 : decode prog_15_method_14_code 20 = .ok (.aload_n 0, 1) := by decide +kernel
theorem d_Mo_give_21 : decode prog_15_method_14_code 21 = .ok (.dup, 1) := by decide +kernel
theorem d_Mo_give_22 : decode prog_15_method_14_code 22 = .ok (.getfield 247, 3) := by decide +kernel
theorem d_Mo_give_25 : decode prog_15_method_14_code 25 = .ok (.iconst 1, 1) := by decide +kernel
theorem d_Mo_give_26 : decode prog_15_method_14_code 26 = .ok (.iadd, 1) := by decide +kernel
theorem d_Mo_give_27 : decode prog_15_method_14_code 27 = .ok (.putfield 247, 3) := by decide +kernel
theorem d_Mo_give_30 : decode prog_15_method_14_code 30 = .ok (.iconst 0, 1) := by decide +kernel
theorem d_Mo_give_31 : decode prog_15_method_14_code 31 = .ok (.ireturn, 1) := by decide +kernel
set_option maxHeartbeats 4000000 in
set_option maxRecDepth 100000 in
theorem m_give (l : Launch) (D : va_G) (T : Nat → ClassId) (h0 : Nat) (ar : Nat → Nat) (S : MS) (p0 : Int32) (p1 : Int32) (v0 : Int64) (sz : Nat) (hI : MI S) (h3 : 0 ≤ p0.toInt ∧ p0.toInt ≤ (f_size S).toInt ∧ (f_size S).toInt - p0.toInt ≤ 39) (h1 : vOk p1 v0 0) : Met l ⟨"PageScribeModel", "give", "(IIJ)I"⟩ (wy ⟨"PageScribeModel", "give", "(IIJ)I"⟩ prog_15_method_14_code 5 (some .int)) ({ frames := 1, cells := 0, slots := 0, locals := 70 }) (va_Pc [.ref h0, .int p0, .int p1, .long v0] (Pw D T (mW T h0 ar S) sz E0)) (va_Qi (fun (r : Int32) (u : MS) => MI u ∧ kA S u ∧ kF S u ∧ (r.toInt = 0 ∧ (f_taken u).toInt = (f_taken S).toInt)) (fun u t => Bw D T (va_A (mW T h0 ar S) sz) (mW T h0 ar u) t) (va_A (mW T h0 ar S) sz)) 0 0 (va_A (mW T h0 ar S) sz) := by
  refine j_met (y := ⟨"PageScribeModel", "give", "(IIJ)I"⟩) (b := prog_15_method_14_code) (n := 5) (ret := (some .int)) (av := [.ref h0, .int p0, .int p1, .long v0]) (Qc := fun A => va_Qi (fun (r : Int32) (u : MS) => MI u ∧ kA S u ∧ kF S u ∧ (r.toInt = 0 ∧ (f_taken u).toInt = (f_taken S).toInt)) (fun u t => Bw D T A (mW T h0 ar u) t) A) (by decide +kernel) (Nat.le_of_ble_eq_true rfl) (fun p e s m args below meth c A ls F hr hlocks hnm hK hP hD hS hA hN hE hl => ?_)
  obtain ⟨hx, hb, hml, hown, hts⟩ := id F
  have hl : lv_has ls 5 [(0, .ref h0), (1, .int p0), (2, .int p1), (3, .long v0)] := hl
  obtain ⟨i_size, i_taken, i_vals, i_room, i_dicts, i_deep, i_open, i_cells, i_points, i_part, i_length, i_knows, i_page, i_text, i_pats, i_fuel, i_fr, i_ink⟩ := id hI
  refine lv_aload_n hx hb d_Mo_give_0 rfl (lv_at hl 0 rfl) ?_
  refine lv_dup hx hb d_Mo_give_1 rfl ?_
  refine va_get (D := D) (ci := 11) (v := .int (f_size S)) (C := "PageScribeModel") (T := F_Mo) (N := 45) hx hb hts i_Mo hown hK hP 0 mW_0 cl_11 4 (by decide) (hts _ k_6_164) (fun _ h9 => h9) (mg_size _ _) d_Mo_give_2 ?_
  refine lv_iload_n hx hb d_Mo_give_5 rfl (lv_at hl 1 rfl) ?_
  refine lv_isub hx hb d_Mo_give_6 ?_
  refine lv_topi (fun x1 ex1 => ?_)
  have fx1 : x1.toInt = ((f_size S).toInt - p0.toInt) := by rw [ex1]; exact (zt_sub (show (f_size S).toInt = _ from rfl) (show p0.toInt = _ from rfl) (by omega) (by omega)).trans (by omega)
  refine va_put (D := D) (ci := 11) (v := .int x1) (ty := .int) (C := "PageScribeModel") (T := F_Mo) (N := 45) hx hb hts i_Mo t_Mo t_Mo_ok n_Mo hown hK hP hD hS 0 mW_0 cl_11 4 (by decide) (hts _ k_6_164) (fun _ h9 => h9) rfl (by decide +kernel) rfl rfl (Nat.le_of_ble_eq_true rfl) d_Mo_give_7 (fun H locs hP hD hS => ?_)
  rw [mp_size] at hP hD
  have hP : va_P D classes (mW T h0 ar ((((f_thrown S), (a_kinds S), (a_codes S), (a_reals S), x1, (f_taken S), (a_words S), (a_many S)), S.2.1, S.2.2.1, S.2.2.2.1, S.2.2.2.2.1, S.2.2.2.2.2) : MS)) H := hP
  have hD : va_D A (mW T h0 ar ((((f_thrown S), (a_kinds S), (a_codes S), (a_reals S), x1, (f_taken S), (a_words S), (a_many S)), S.2.1, S.2.2.1, S.2.2.2.1, S.2.2.2.2.1, S.2.2.2.2.2) : MS)) := hD
  refine lv_aload_n hx hb d_Mo_give_10 rfl (lv_at hl 0 rfl) ?_
  refine lv_aload_n hx hb d_Mo_give_11 rfl (lv_at hl 0 rfl) ?_
  refine va_get (D := D) (ci := 11) (v := .int x1) (C := "PageScribeModel") (T := F_Mo) (N := 45) hx hb hts i_Mo hown hK hP 0 mW_0 cl_11 4 (by decide) (hts _ k_6_164) (fun _ h9 => h9) (mg_size _ _) d_Mo_give_12 ?_
  refine lv_iload_n hx hb d_Mo_give_15 rfl (lv_at hl 2 rfl) ?_
  refine lv_lload_n hx hb d_Mo_give_16 rfl (lv_at hl 3 rfl) ?_
  refine jm_cv (w := (fun u => u)) hK hP hD hS hA (va_runV (As := [.int x1, .int p1, .long v0]) (rest := []) F (m_set l D T h0 ar ((((f_thrown S), (a_kinds S), (a_codes S), (a_reals S), x1, (f_taken S), (a_words S), (a_many S)), S.2.1, S.2.2.1, S.2.2.2.1, S.2.2.2.2.1, S.2.2.2.2.2) : MS) x1 p1 v0 H.size (show 0 ≤ x1.toInt ∧ x1.toInt < 1300 by first | omega | (simp only [fx1]; omega))) (j_cV (k := 3) (C := "PageScribeModel") hts k_7_81 k_1_12 k_7_78 k_7_80 k_0_83 (by decide +kernel) ⟨Nat.le_of_ble_eq_true rfl, Nat.le_of_ble_eq_true rfl⟩) (jm_pre hK hP hD) rfl rfl hl.1 rfl (lv_room (Nat.le_of_ble_eq_true rfl)) d_Mo_give_17 ⟨Nat.le_of_ble_eq_true rfl, Nat.le_of_ble_eq_true rfl⟩) (fun S1 H locs hw1 hP hD hS => ?_)
  try simp only [fx1] at hw1
  obtain rfl := hw1
  have hP : va_P D classes (mW T h0 ar ((((f_thrown S), (upd (a_kinds S) (((f_size S).toInt - p0.toInt).toNat) p1), (vp_updL (a_codes S) (((f_size S).toInt - p0.toInt).toNat) v0), (vf_upd (a_reals S) (((f_size S).toInt - p0.toInt).toNat) 0), x1, (f_taken S), (a_words S), (a_many S)), S.2.1, S.2.2.1, S.2.2.2.1, S.2.2.2.2.1, S.2.2.2.2.2) : MS)) H := hP
  have hD : va_D A (mW T h0 ar ((((f_thrown S), (upd (a_kinds S) (((f_size S).toInt - p0.toInt).toNat) p1), (vp_updL (a_codes S) (((f_size S).toInt - p0.toInt).toNat) v0), (vf_upd (a_reals S) (((f_size S).toInt - p0.toInt).toNat) 0), x1, (f_taken S), (a_words S), (a_many S)), S.2.1, S.2.2.1, S.2.2.2.1, S.2.2.2.2.1, S.2.2.2.2.2) : MS)) := hD
  have i_vals : ∀ k, k < 1300 → vOk ((upd (a_kinds S) (((f_size S).toInt - p0.toInt).toNat) p1) k) ((vp_updL (a_codes S) (((f_size S).toInt - p0.toInt).toNat) v0) k) ((vf_upd (a_reals S) (((f_size S).toInt - p0.toInt).toNat) 0) k) := vOk_upd i_vals h1
  have fa1 : ((upd (a_kinds S) (((f_size S).toInt - p0.toInt).toNat) p1) (((f_size S).toInt - p0.toInt).toNat)).toInt = p1.toInt := congrArg Int32.toInt upd_s
  refine lv_aload_n hx hb d_Mo_give_20 rfl (lv_at hl 0 rfl) ?_
  refine lv_dup hx hb d_Mo_give_21 rfl ?_
  refine va_get (D := D) (ci := 11) (v := .int x1) (C := "PageScribeModel") (T := F_Mo) (N := 45) hx hb hts i_Mo hown hK hP 0 mW_0 cl_11 4 (by decide) (hts _ k_6_164) (fun _ h9 => h9) (mg_size _ _) d_Mo_give_22 ?_
  refine lv_iconst (v := 1) hx hb d_Mo_give_25 (by decide) ?_
  refine lv_iadd hx hb d_Mo_give_26 ?_
  refine lv_topi (fun x2 ex2 => ?_)
  have fx2 : x2.toInt = ((f_size S).toInt - p0.toInt + 1) := by rw [ex2]; exact (zt_add fx1 tI_1 (by omega) (by omega)).trans (by omega)
  refine va_put (D := D) (ci := 11) (v := .int x2) (ty := .int) (C := "PageScribeModel") (T := F_Mo) (N := 45) hx hb hts i_Mo t_Mo t_Mo_ok n_Mo hown hK hP hD hS 0 mW_0 cl_11 4 (by decide) (hts _ k_6_164) (fun _ h9 => h9) rfl (by decide +kernel) rfl rfl (Nat.le_of_ble_eq_true rfl) d_Mo_give_27 (fun H locs hP hD hS => ?_)
  rw [mp_size] at hP hD
  have hP : va_P D classes (mW T h0 ar ((((f_thrown S), (upd (a_kinds S) (((f_size S).toInt - p0.toInt).toNat) p1), (vp_updL (a_codes S) (((f_size S).toInt - p0.toInt).toNat) v0), (vf_upd (a_reals S) (((f_size S).toInt - p0.toInt).toNat) 0), x2, (f_taken S), (a_words S), (a_many S)), S.2.1, S.2.2.1, S.2.2.2.1, S.2.2.2.2.1, S.2.2.2.2.2) : MS)) H := hP
  have hD : va_D A (mW T h0 ar ((((f_thrown S), (upd (a_kinds S) (((f_size S).toInt - p0.toInt).toNat) p1), (vp_updL (a_codes S) (((f_size S).toInt - p0.toInt).toNat) v0), (vf_upd (a_reals S) (((f_size S).toInt - p0.toInt).toNat) 0), x2, (f_taken S), (a_words S), (a_many S)), S.2.1, S.2.2.1, S.2.2.2.1, S.2.2.2.2.1, S.2.2.2.2.2) : MS)) := hD
  refine lv_iconst (v := 0) hx hb d_Mo_give_30 (by decide) ?_
  exact j_iret F hr hlocks hK hS ((((f_thrown S), (upd (a_kinds S) (((f_size S).toInt - p0.toInt).toNat) p1), (vp_updL (a_codes S) (((f_size S).toInt - p0.toInt).toNat) v0), (vf_upd (a_reals S) (((f_size S).toInt - p0.toInt).toNat) 0), x2, (f_taken S), (a_words S), (a_many S)), S.2.1, S.2.2.1, S.2.2.2.1, S.2.2.2.2.1, S.2.2.2.2.2) : MS) ⟨⟨(show 0 ≤ x2.toInt ∧ x2.toInt ≤ 40 by omega), i_taken, i_vals, i_room, i_dicts, i_deep, i_open, i_cells, i_points, i_part, i_length, i_knows, i_page, i_text, i_pats, i_fuel, i_fr, i_ink⟩, (kA_r S), (kF_r S), (show (0 : Int32).toInt = 0 ∧ (f_taken S).toInt = (f_taken S).toInt by have := tI_0; omega)⟩ hP hD d_Mo_give_31
theorem d_Mo_giveReal_0 : decode prog_15_method_13_code 0 = .ok (.dload_n 2, 1) := by decide +kernel
theorem d_Mo_giveReal_1 : decode prog_15_method_13_code 1 = .ok (.ldc2_w 258, 3) := by decide +kernel
theorem k_7_212 : Cond.constantDouble "PageScribeModel" 258 (4786511204640096256 : UInt64) ∈ gw := gw_of (tb_7 (List.mem_of_getElem? (i := 212) (by decide +kernel))) (by decide +kernel)
theorem tD_4786511204640096256 : dk 4786511204640096256 = 4786511204640096256 := by decide +kernel
theorem d_Mo_giveReal_4 : decode prog_15_method_13_code 4 = .ok (.dcmp .l, 1) := by decide +kernel
theorem d_Mo_giveReal_5 : decode prog_15_method_13_code 5 = .ok (.ifCond .gt 11, 3) := by decide +kernel
theorem d_Mo_giveReal_16 : decode prog_15_method_13_code 16 = .ok (.iconst 4, 1) := by decide +kernel
theorem d_Mo_giveReal_17 : decode prog_15_method_13_code 17 = .ok (.ireturn, 1) := by decide +kernel
theorem tI_4 : (4 : Int32).toInt = 4 := by decide +kernel
theorem d_Mo_giveReal_8 : decode prog_15_method_13_code 8 = .ok (.dload_n 2, 1) := by decide +kernel
theorem d_Mo_giveReal_9 : decode prog_15_method_13_code 9 = .ok (.ldc2_w 260, 3) := by decide +kernel
theorem k_7_213 : Cond.constantDouble "PageScribeModel" 260 (14009883241494872064 : UInt64) ∈ gw := gw_of (tb_7 (List.mem_of_getElem? (i := 213) (by decide +kernel))) (by decide +kernel)
theorem tD_14009883241494872064 : dk 14009883241494872064 = -4786511204640096256 := by decide +kernel
theorem d_Mo_giveReal_12 : decode prog_15_method_13_code 12 = .ok (.dcmp .g, 1) := by decide +kernel
theorem d_Mo_giveReal_13 : decode prog_15_method_13_code 13 = .ok (.ifCond .ge 5, 3) := by decide +kernel
theorem d_Mo_giveReal_18 : decode prog_15_method_13_code 18 = .ok (.aload_n 0, 1) := by decide +kernel
theorem d_Mo_giveReal_19 : decode prog_15_method_13_code 19 = .ok (.dup, 1) := by decide +kernel
theorem d_Mo_giveReal_20 : decode prog_15_method_13_code 20 = .ok (.getfield 247, 3) := by decide +kernel
theorem d_Mo_giveReal_23 : decode prog_15_method_13_code 23 = .ok (.iload_n 1, 1) := by decide +kernel
theorem d_Mo_giveReal_24 : decode prog_15_method_13_code 24 = .ok (.isub, 1) := by decide +kernel
theorem d_Mo_giveReal_25 : decode prog_15_method_13_code 25 = .ok (.putfield 247, 3) := by decide +kernel
theorem d_Mo_giveReal_28 : decode prog_15_method_13_code 28 = .ok (.aload_n 0, 1) := by decide +kernel
theorem d_Mo_giveReal_29 : decode prog_15_method_13_code 29 = .ok (.aload_n 0, 1) := by decide +kernel
theorem d_Mo_giveReal_30 : decode prog_15_method_13_code 30 = .ok (.getfield 247, 3) := by decide +kernel
theorem d_Mo_giveReal_33 : decode prog_15_method_13_code 33 = .ok (.iconst 1, 1) := by decide +kernel
theorem d_Mo_giveReal_34 : decode prog_15_method_13_code 34 = .ok (.lconst 0, 1) := by decide +kernel
theorem d_Mo_giveReal_35 : decode prog_15_method_13_code 35 = .ok (.invokevirtual 250, 3) := by decide +kernel
theorem tJ_0 : (0 : Int64).toInt = 0 := by decide +kernel
theorem d_Mo_giveReal_38 : decode prog_15_method_13_code 38 = .ok (.aload_n 0, 1) := by decide +kernel
theorem d_Mo_giveReal_39 : decode prog_15_method_13_code 39 = .ok (.getfield 17, 3) := by decide +kernel
theorem d_Mo_giveReal_42 : decode prog_15_method_13_code 42 = .ok (.aload_n 0, 1) := by decide +kernel
theorem d_Mo_giveReal_43 : decode prog_15_method_13_code 43 = .ok (.getfield 247, 3) := by decide +kernel
theorem d_Mo_giveReal_46 : decode prog_15_method_13_code 46 = .ok (.dload_n 2, 1) := by decide +kernel
theorem d_Mo_giveReal_47 : decode prog_15_method_13_code 47 = .ok (.dastore, 1) := by decide +kernel
theorem d_Mo_giveReal_48 : decode prog_15_method_13_code 48 = .ok (.aload_n 0, 1) := by decide +kernel
theorem d_Mo_giveReal_49 : decode prog_15_method_13_code 49 = .ok (.dup, 1) := by decide +kernel
theorem d_Mo_giveReal_50 : decode prog_15_method_13_code 50 = .ok (.getfield 247, 3) := by decide +kernel
theorem d_Mo_giveReal_53 : decode prog_15_method_13_code 53 = .ok (.iconst 1, 1) := by decide +kernel
theorem d_Mo_giveReal_54 : decode prog_15_method_13_code 54 = .ok (.iadd, 1) := by decide +kernel
theorem d_Mo_giveReal_55 : decode prog_15_method_13_code 55 = .ok (.putfield 247, 3) := by decide +kernel
theorem d_Mo_giveReal_58 : decode prog_15_method_13_code 58 = .ok (.iconst 0, 1) := by decide +kernel
theorem d_Mo_giveReal_59 : decode prog_15_method_13_code 59 = .ok (.ireturn, 1) := by decide +kernel
set_option maxHeartbeats 4000000 in
set_option maxRecDepth 100000 in
theorem m_giveReal (l : Launch) (D : va_G) (T : Nat → ClassId) (h0 : Nat) (ar : Nat → Nat) (S : MS) (p0 : Int32) (d0 : UInt64) (sz : Nat) (hI : MI S) (h3 : 0 ≤ p0.toInt ∧ p0.toInt ≤ (f_size S).toInt ∧ (f_size S).toInt - p0.toInt ≤ 39) (h1 : dN d0) : Met l ⟨"PageScribeModel", "giveReal", "(ID)I"⟩ (wy ⟨"PageScribeModel", "giveReal", "(ID)I"⟩ prog_15_method_13_code 4 (some .int)) ({ frames := 1, cells := 0, slots := 0, locals := 70 }) (va_Pc [.ref h0, .int p0, .double d0] (Pw D T (mW T h0 ar S) sz E0)) (va_Qi (fun (r : Int32) (u : MS) => MI u ∧ kA S u ∧ kF S u ∧ (r.toInt = 0 ∨ r.toInt = 4)) (fun u t => Bw D T (va_A (mW T h0 ar S) sz) (mW T h0 ar u) t) (va_A (mW T h0 ar S) sz)) 0 0 (va_A (mW T h0 ar S) sz) := by
  refine j_met (y := ⟨"PageScribeModel", "giveReal", "(ID)I"⟩) (b := prog_15_method_13_code) (n := 4) (ret := (some .int)) (av := [.ref h0, .int p0, .double d0]) (Qc := fun A => va_Qi (fun (r : Int32) (u : MS) => MI u ∧ kA S u ∧ kF S u ∧ (r.toInt = 0 ∨ r.toInt = 4)) (fun u t => Bw D T A (mW T h0 ar u) t) A) (by decide +kernel) (Nat.le_of_ble_eq_true rfl) (fun p e s m args below meth c A ls F hr hlocks hnm hK hP hD hS hA hN hE hl => ?_)
  obtain ⟨hx, hb, hml, hown, hts⟩ := id F
  have hl : lv_has ls 4 [(0, .ref h0), (1, .int p0), (2, .double d0)] := hl
  obtain ⟨i_size, i_taken, i_vals, i_room, i_dicts, i_deep, i_open, i_cells, i_points, i_part, i_length, i_knows, i_page, i_text, i_pats, i_fuel, i_fr, i_ink⟩ := id hI
  refine lv_dload_n hx hb d_Mo_giveReal_0 rfl (lv_at hl 2 rfl) ?_
  refine lv_ldc2d (v := 4786511204640096256) hx hb hown (hts _ k_7_212) d_Mo_giveReal_1 ?_
  have := tD_4786511204640096256
  refine lv_dcmp hx hb d_Mo_giveReal_4 ?_
  refine lv_topi (fun x1 ex1 => ?_)
  refine lv_if_gt (tgt := 16) hx hb d_Mo_giveReal_5 (by decide) (fun c5_1 => ?_) (fun c5_1 => ?_)
  · have fc5_1 : 0 < x1.toInt := zt_lt tI_0 (show x1.toInt = _ from rfl) c5_1
    have vc5_1 : dk d0 > dk 4786511204640096256 := by have := zr_dcmp (a := d0) (b := 4786511204640096256) ex1 (show dN d0 by omega) (show dN 4786511204640096256 by omega); have := zt_lt tI_0 (show x1.toInt = _ from rfl) c5_1; omega
    refine lv_iconst (v := 4) hx hb d_Mo_giveReal_16 (by decide) ?_
    exact j_iret F hr hlocks hK hS S ⟨⟨i_size, i_taken, i_vals, i_room, i_dicts, i_deep, i_open, i_cells, i_points, i_part, i_length, i_knows, i_page, i_text, i_pats, i_fuel, i_fr, i_ink⟩, (kA_r S), (kF_r S), (show (4 : Int32).toInt = 0 ∨ (4 : Int32).toInt = 4 by have := tI_4; omega)⟩ hP hD d_Mo_giveReal_17
  · have fc5_1 : x1.toInt ≤ 0 := Int.not_lt.mp (zt_nlt tI_0 (show x1.toInt = _ from rfl) c5_1)
    have vc5_1 : dk d0 ≤ dk 4786511204640096256 := by have := zr_dcmp (a := d0) (b := 4786511204640096256) ex1 (show dN d0 by omega) (show dN 4786511204640096256 by omega); have := Int.not_lt.mp (zt_nlt tI_0 (show x1.toInt = _ from rfl) c5_1); omega
    refine lv_dload_n hx hb d_Mo_giveReal_8 rfl (lv_at hl 2 rfl) ?_
    refine lv_ldc2d (v := 14009883241494872064) hx hb hown (hts _ k_7_213) d_Mo_giveReal_9 ?_
    have := tD_14009883241494872064
    refine lv_dcmp hx hb d_Mo_giveReal_12 ?_
    refine lv_topi (fun x2 ex2 => ?_)
    refine lv_if_ge (tgt := 18) hx hb d_Mo_giveReal_13 (by decide) (fun c13_1 => ?_) (fun c13_1 => ?_)
    · have fc13_1 : 0 ≤ x2.toInt := zt_le tI_0 (show x2.toInt = _ from rfl) c13_1
      have vc13_1 : dk d0 ≥ dk 14009883241494872064 := by have := zr_dcmp (a := d0) (b := 14009883241494872064) ex2 (show dN d0 by omega) (show dN 14009883241494872064 by omega); have := zt_le tI_0 (show x2.toInt = _ from rfl) c13_1; omega
      refine lv_aload_n hx hb d_Mo_giveReal_18 rfl (lv_at hl 0 rfl) ?_
      refine lv_dup hx hb d_Mo_giveReal_19 rfl ?_
      refine va_get (D := D) (ci := 11) (v := .int (f_size S)) (C := "PageScribeModel") (T := F_Mo) (N := 45) hx hb hts i_Mo hown hK hP 0 mW_0 cl_11 4 (by decide) (hts _ k_6_164) (fun _ h9 => h9) (mg_size _ _) d_Mo_giveReal_20 ?_
      refine lv_iload_n hx hb d_Mo_giveReal_23 rfl (lv_at hl 1 rfl) ?_
      refine lv_isub hx hb d_Mo_giveReal_24 ?_
      refine lv_topi (fun x3 ex3 => ?_)
      have fx3 : x3.toInt = ((f_size S).toInt - p0.toInt) := by rw [ex3]; exact (zt_sub (show (f_size S).toInt = _ from rfl) (show p0.toInt = _ from rfl) (by omega) (by omega)).trans (by omega)
      refine va_put (D := D) (ci := 11) (v := .int x3) (ty := .int) (C := "PageScribeModel") (T := F_Mo) (N := 45) hx hb hts i_Mo t_Mo t_Mo_ok n_Mo hown hK hP hD hS 0 mW_0 cl_11 4 (by decide) (hts _ k_6_164) (fun _ h9 => h9) rfl (by decide +kernel) rfl rfl (Nat.le_of_ble_eq_true rfl) d_Mo_giveReal_25 (fun H locs hP hD hS => ?_)
      rw [mp_size] at hP hD
      have hP : va_P D classes (mW T h0 ar ((((f_thrown S), (a_kinds S), (a_codes S), (a_reals S), x3, (f_taken S), (a_words S), (a_many S)), S.2.1, S.2.2.1, S.2.2.2.1, S.2.2.2.2.1, S.2.2.2.2.2) : MS)) H := hP
      have hD : va_D A (mW T h0 ar ((((f_thrown S), (a_kinds S), (a_codes S), (a_reals S), x3, (f_taken S), (a_words S), (a_many S)), S.2.1, S.2.2.1, S.2.2.2.1, S.2.2.2.2.1, S.2.2.2.2.2) : MS)) := hD
      refine lv_aload_n hx hb d_Mo_giveReal_28 rfl (lv_at hl 0 rfl) ?_
      refine lv_aload_n hx hb d_Mo_giveReal_29 rfl (lv_at hl 0 rfl) ?_
      refine va_get (D := D) (ci := 11) (v := .int x3) (C := "PageScribeModel") (T := F_Mo) (N := 45) hx hb hts i_Mo hown hK hP 0 mW_0 cl_11 4 (by decide) (hts _ k_6_164) (fun _ h9 => h9) (mg_size _ _) d_Mo_giveReal_30 ?_
      refine lv_iconst (v := 1) hx hb d_Mo_giveReal_33 (by decide) ?_
      refine lv_lconst (v := 0) hx hb d_Mo_giveReal_34 (by decide) ?_
      refine jm_cv (w := (fun u => u)) hK hP hD hS hA (va_runV (As := [.int x3, .int 1, .long 0]) (rest := []) F (m_set l D T h0 ar ((((f_thrown S), (a_kinds S), (a_codes S), (a_reals S), x3, (f_taken S), (a_words S), (a_many S)), S.2.1, S.2.2.1, S.2.2.2.1, S.2.2.2.2.1, S.2.2.2.2.2) : MS) x3 (1 : Int32) (0 : Int64) H.size (show 0 ≤ x3.toInt ∧ x3.toInt < 1300 by have := tI_1; have := tJ_0; first | omega | (simp only [fx3]; omega))) (j_cV (k := 3) (C := "PageScribeModel") hts k_7_81 k_1_12 k_7_78 k_7_80 k_0_83 (by decide +kernel) ⟨Nat.le_of_ble_eq_true rfl, Nat.le_of_ble_eq_true rfl⟩) (jm_pre hK hP hD) rfl rfl hl.1 rfl (lv_room (Nat.le_of_ble_eq_true rfl)) d_Mo_giveReal_35 ⟨Nat.le_of_ble_eq_true rfl, Nat.le_of_ble_eq_true rfl⟩) (fun S1 H locs hw1 hP hD hS => ?_)
      try simp only [fx3, tI_1, tJ_0] at hw1
      obtain rfl := hw1
      have hP : va_P D classes (mW T h0 ar ((((f_thrown S), (upd (a_kinds S) (((f_size S).toInt - p0.toInt).toNat) (1 : Int32)), (vp_updL (a_codes S) (((f_size S).toInt - p0.toInt).toNat) (0 : Int64)), (vf_upd (a_reals S) (((f_size S).toInt - p0.toInt).toNat) 0), x3, (f_taken S), (a_words S), (a_many S)), S.2.1, S.2.2.1, S.2.2.2.1, S.2.2.2.2.1, S.2.2.2.2.2) : MS)) H := hP
      have hD : va_D A (mW T h0 ar ((((f_thrown S), (upd (a_kinds S) (((f_size S).toInt - p0.toInt).toNat) (1 : Int32)), (vp_updL (a_codes S) (((f_size S).toInt - p0.toInt).toNat) (0 : Int64)), (vf_upd (a_reals S) (((f_size S).toInt - p0.toInt).toNat) 0), x3, (f_taken S), (a_words S), (a_many S)), S.2.1, S.2.2.1, S.2.2.2.1, S.2.2.2.2.1, S.2.2.2.2.2) : MS)) := hD
      have i_vals : ∀ k, k < 1300 → vOk ((upd (a_kinds S) (((f_size S).toInt - p0.toInt).toNat) (1 : Int32)) k) ((vp_updL (a_codes S) (((f_size S).toInt - p0.toInt).toNat) (0 : Int64)) k) ((vf_upd (a_reals S) (((f_size S).toInt - p0.toInt).toNat) 0) k) := vOk_upd i_vals (vO_of 1 tI_1 (by decide))
      have fa1 : ((upd (a_kinds S) (((f_size S).toInt - p0.toInt).toNat) (1 : Int32)) (((f_size S).toInt - p0.toInt).toNat)).toInt = (1 : Int32).toInt := congrArg Int32.toInt upd_s
      have := tI_1
      refine lv_aload_n hx hb d_Mo_giveReal_38 rfl (lv_at hl 0 rfl) ?_
      refine va_get (D := D) (ci := 11) (v := .ref (ar 2)) (C := "PageScribeModel") (T := F_Mo) (N := 45) hx hb hts i_Mo hown hK hP 0 mW_0 cl_11 3 (by decide) (hts _ k_6_163) (fun _ h9 => h9) (mg_reals _ _) d_Mo_giveReal_39 ?_
      refine lv_aload_n hx hb d_Mo_giveReal_42 rfl (lv_at hl 0 rfl) ?_
      refine va_get (D := D) (ci := 11) (v := .int x3) (C := "PageScribeModel") (T := F_Mo) (N := 45) hx hb hts i_Mo hown hK hP 0 mW_0 cl_11 4 (by decide) (hts _ k_6_164) (fun _ h9 => h9) (mg_size _ _) d_Mo_giveReal_43 ?_
      refine lv_dload_n hx hb d_Mo_giveReal_46 rfl (lv_at hl 2 rfl) ?_
      refine va_dast hx hb hK hP hD hS 3 3 (ma_reals _ _ _ _) rfl (zt_in fx3 (by omega) (by omega)) d_Mo_giveReal_47 (fun H locs hP hD hS => ?_)
      rw [ms_reals] at hP hD
      rw [zt_ix fx3] at hP hD
      have hP : va_P D classes (mW T h0 ar ((((f_thrown S), (upd (a_kinds S) (((f_size S).toInt - p0.toInt).toNat) (1 : Int32)), (vp_updL (a_codes S) (((f_size S).toInt - p0.toInt).toNat) (0 : Int64)), (vf_upd (vf_upd (a_reals S) (((f_size S).toInt - p0.toInt).toNat) 0) (((f_size S).toInt - p0.toInt).toNat) d0), x3, (f_taken S), (a_words S), (a_many S)), S.2.1, S.2.2.1, S.2.2.2.1, S.2.2.2.2.1, S.2.2.2.2.2) : MS)) H := hP
      have hD : va_D A (mW T h0 ar ((((f_thrown S), (upd (a_kinds S) (((f_size S).toInt - p0.toInt).toNat) (1 : Int32)), (vp_updL (a_codes S) (((f_size S).toInt - p0.toInt).toNat) (0 : Int64)), (vf_upd (vf_upd (a_reals S) (((f_size S).toInt - p0.toInt).toNat) 0) (((f_size S).toInt - p0.toInt).toNat) d0), x3, (f_taken S), (a_words S), (a_many S)), S.2.1, S.2.2.1, S.2.2.2.1, S.2.2.2.2.1, S.2.2.2.2.2) : MS)) := hD
      refine lv_aload_n hx hb d_Mo_giveReal_48 rfl (lv_at hl 0 rfl) ?_
      refine lv_dup hx hb d_Mo_giveReal_49 rfl ?_
      refine va_get (D := D) (ci := 11) (v := .int x3) (C := "PageScribeModel") (T := F_Mo) (N := 45) hx hb hts i_Mo hown hK hP 0 mW_0 cl_11 4 (by decide) (hts _ k_6_164) (fun _ h9 => h9) (mg_size _ _) d_Mo_giveReal_50 ?_
      refine lv_iconst (v := 1) hx hb d_Mo_giveReal_53 (by decide) ?_
      refine lv_iadd hx hb d_Mo_giveReal_54 ?_
      refine lv_topi (fun x4 ex4 => ?_)
      have fx4 : x4.toInt = ((f_size S).toInt - p0.toInt + 1) := by rw [ex4]; exact (zt_add fx3 tI_1 (by omega) (by omega)).trans (by omega)
      refine va_put (D := D) (ci := 11) (v := .int x4) (ty := .int) (C := "PageScribeModel") (T := F_Mo) (N := 45) hx hb hts i_Mo t_Mo t_Mo_ok n_Mo hown hK hP hD hS 0 mW_0 cl_11 4 (by decide) (hts _ k_6_164) (fun _ h9 => h9) rfl (by decide +kernel) rfl rfl (Nat.le_of_ble_eq_true rfl) d_Mo_giveReal_55 (fun H locs hP hD hS => ?_)
      rw [mp_size] at hP hD
      have hP : va_P D classes (mW T h0 ar ((((f_thrown S), (upd (a_kinds S) (((f_size S).toInt - p0.toInt).toNat) (1 : Int32)), (vp_updL (a_codes S) (((f_size S).toInt - p0.toInt).toNat) (0 : Int64)), (vf_upd (vf_upd (a_reals S) (((f_size S).toInt - p0.toInt).toNat) 0) (((f_size S).toInt - p0.toInt).toNat) d0), x4, (f_taken S), (a_words S), (a_many S)), S.2.1, S.2.2.1, S.2.2.2.1, S.2.2.2.2.1, S.2.2.2.2.2) : MS)) H := hP
      have hD : va_D A (mW T h0 ar ((((f_thrown S), (upd (a_kinds S) (((f_size S).toInt - p0.toInt).toNat) (1 : Int32)), (vp_updL (a_codes S) (((f_size S).toInt - p0.toInt).toNat) (0 : Int64)), (vf_upd (vf_upd (a_reals S) (((f_size S).toInt - p0.toInt).toNat) 0) (((f_size S).toInt - p0.toInt).toNat) d0), x4, (f_taken S), (a_words S), (a_many S)), S.2.1, S.2.2.1, S.2.2.2.1, S.2.2.2.2.1, S.2.2.2.2.2) : MS)) := hD
      refine lv_iconst (v := 0) hx hb d_Mo_giveReal_58 (by decide) ?_
      exact j_iret F hr hlocks hK hS ((((f_thrown S), (upd (a_kinds S) (((f_size S).toInt - p0.toInt).toNat) (1 : Int32)), (vp_updL (a_codes S) (((f_size S).toInt - p0.toInt).toNat) (0 : Int64)), (vf_upd (vf_upd (a_reals S) (((f_size S).toInt - p0.toInt).toNat) 0) (((f_size S).toInt - p0.toInt).toNat) d0), x4, (f_taken S), (a_words S), (a_many S)), S.2.1, S.2.2.1, S.2.2.2.1, S.2.2.2.2.1, S.2.2.2.2.2) : MS) ⟨⟨(show 0 ≤ x4.toInt ∧ x4.toInt ≤ 40 by omega), i_taken, (vOk_updR i_vals (by omega)), i_room, i_dicts, i_deep, i_open, i_cells, i_points, i_part, i_length, i_knows, i_page, i_text, i_pats, i_fuel, i_fr, i_ink⟩, (kA_r S), (kF_r S), (show (0 : Int32).toInt = 0 ∨ (0 : Int32).toInt = 4 by have := tI_0; omega)⟩ hP hD d_Mo_giveReal_59
    · have fc13_1 : x2.toInt < 0 := Int.not_le.mp (zt_nle tI_0 (show x2.toInt = _ from rfl) c13_1)
      have vc13_1 : dk d0 < dk 14009883241494872064 := by have := zr_dcmp (a := d0) (b := 14009883241494872064) ex2 (show dN d0 by omega) (show dN 14009883241494872064 by omega); have := Int.not_le.mp (zt_nle tI_0 (show x2.toInt = _ from rfl) c13_1); omega
      refine lv_iconst (v := 4) hx hb d_Mo_giveReal_16 (by decide) ?_
      exact j_iret F hr hlocks hK hS S ⟨⟨i_size, i_taken, i_vals, i_room, i_dicts, i_deep, i_open, i_cells, i_points, i_part, i_length, i_knows, i_page, i_text, i_pats, i_fuel, i_fr, i_ink⟩, (kA_r S), (kF_r S), (show (4 : Int32).toInt = 0 ∨ (4 : Int32).toInt = 4 by have := tI_4; omega)⟩ hP hD d_Mo_giveReal_17
theorem d_Mo_giveExact_0 : decode prog_15_method_15_code 0 = .ok (.lload_n 2, 1) := by decide +kernel
theorem d_Mo_giveExact_1 : decode prog_15_method_15_code 1 = .ok (.lload_n 2, 1) := by decide +kernel
theorem d_Mo_giveExact_2 : decode prog_15_method_15_code 2 = .ok (.l2i, 1) := by decide +kernel
theorem d_Mo_giveExact_3 : decode prog_15_method_15_code 3 = .ok (.i2l, 1) := by decide +kernel
theorem d_Mo_giveExact_4 : decode prog_15_method_15_code 4 = .ok (.lcmp, 1) := by decide +kernel
theorem d_Mo_giveExact_5 : decode prog_15_method_15_code 5 = .ok (.ifCond .ne 13, 3) := by decide +kernel
theorem d_Mo_giveExact_18 : decode prog_15_method_15_code 18 = .ok (.aload_n 0, 1) := by decide +kernel
theorem d_Mo_giveExact_19 : decode prog_15_method_15_code 19 = .ok (.iload_n 1, 1) := by decide +kernel
theorem d_Mo_giveExact_20 : decode prog_15_method_15_code 20 = .ok (.lload_n 2, 1) := by decide +kernel
theorem d_Mo_giveExact_21 : decode prog_15_method_15_code 21 = .ok (.l2d, 1) := by decide +kernel
theorem d_Mo_giveExact_22 : decode prog_15_method_15_code 22 = .ok (.invokevirtual 266, 3) := by decide +kernel
theorem k_7_211 : Cond.code ⟨"PageScribeModel", "giveReal", "(ID)I"⟩ prog_15_method_13_code 4 (some .int) ∈ gw := gw_of (tb_7 (List.mem_of_getElem? (i := 211) (by decide +kernel))) (by decide +kernel)
theorem k_7_208 : Cond.methodLink "PageScribeModel" 266 ⟨"PageScribeModel", "giveReal", "(ID)I"⟩ ∈ gw := gw_of (tb_7 (List.mem_of_getElem? (i := 208) (by decide +kernel))) (by decide +kernel)
theorem k_7_210 : Cond.instanceMethod ⟨"PageScribeModel", "giveReal", "(ID)I"⟩ ∈ gw := gw_of (tb_7 (List.mem_of_getElem? (i := 210) (by decide +kernel))) (by decide +kernel)
theorem k_0_111 : Cond.selects "PageScribeModel" ⟨"PageScribeModel", "giveReal", "(ID)I"⟩ ⟨"PageScribeModel", "giveReal", "(ID)I"⟩ ∈ gw := gw_of (tb_0 (List.mem_of_getElem? (i := 111) (by decide +kernel))) (by decide +kernel)
theorem d_Mo_giveExact_25 : decode prog_15_method_15_code 25 = .ok (.ireturn, 1) := by decide +kernel
theorem d_Mo_giveExact_8 : decode prog_15_method_15_code 8 = .ok (.aload_n 0, 1) := by decide +kernel
theorem d_Mo_giveExact_9 : decode prog_15_method_15_code 9 = .ok (.iload_n 1, 1) := by decide +kernel
theorem d_Mo_giveExact_10 : decode prog_15_method_15_code 10 = .ok (.iconst 0, 1) := by decide +kernel
theorem d_Mo_giveExact_11 : decode prog_15_method_15_code 11 = .ok (.lload_n 2, 1) := by decide +kernel
theorem d_Mo_giveExact_12 : decode prog_15_method_15_code 12 = .ok (.invokevirtual 262, 3) := by decide +kernel
theorem k_7_221 : Cond.code ⟨"PageScribeModel", "give", "(IIJ)I"⟩ prog_15_method_14_code 5 (some .int) ∈ gw := gw_of (tb_7 (List.mem_of_getElem? (i := 221) (by decide +kernel))) (by decide +kernel)
theorem k_7_218 : Cond.methodLink "PageScribeModel" 262 ⟨"PageScribeModel", "give", "(IIJ)I"⟩ ∈ gw := gw_of (tb_7 (List.mem_of_getElem? (i := 218) (by decide +kernel))) (by decide +kernel)
theorem k_7_220 : Cond.instanceMethod ⟨"PageScribeModel", "give", "(IIJ)I"⟩ ∈ gw := gw_of (tb_7 (List.mem_of_getElem? (i := 220) (by decide +kernel))) (by decide +kernel)
theorem k_0_113 : Cond.selects "PageScribeModel" ⟨"PageScribeModel", "give", "(IIJ)I"⟩ ⟨"PageScribeModel", "give", "(IIJ)I"⟩ ∈ gw := gw_of (tb_0 (List.mem_of_getElem? (i := 113) (by decide +kernel))) (by decide +kernel)
theorem d_Mo_giveExact_15 : decode prog_15_method_15_code 15 = .ok (.goto 10, 3) := by decide +kernel
set_option maxHeartbeats 4000000 in
set_option maxRecDepth 100000 in
theorem m_giveExact (l : Launch) (D : va_G) (T : Nat → ClassId) (h0 : Nat) (ar : Nat → Nat) (S : MS) (p0 : Int32) (v0 : Int64) (sz : Nat) (hI : MI S) (h3 : 0 ≤ p0.toInt ∧ p0.toInt ≤ (f_size S).toInt ∧ (f_size S).toInt - p0.toInt ≤ 39) : Met l ⟨"PageScribeModel", "giveExact", "(IJ)I"⟩ (wy ⟨"PageScribeModel", "giveExact", "(IJ)I"⟩ prog_15_method_15_code 4 (some .int)) ({ frames := 2, cells := 0, slots := 0, locals := 140 }) (va_Pc [.ref h0, .int p0, .long v0] (Pw D T (mW T h0 ar S) sz E0)) (va_Qi (fun (r : Int32) (u : MS) => MI u ∧ kA S u ∧ kF S u ∧ (r.toInt = 0 ∨ r.toInt = 4)) (fun u t => Bw D T (va_A (mW T h0 ar S) sz) (mW T h0 ar u) t) (va_A (mW T h0 ar S) sz)) 0 0 (va_A (mW T h0 ar S) sz) := by
  refine j_met (y := ⟨"PageScribeModel", "giveExact", "(IJ)I"⟩) (b := prog_15_method_15_code) (n := 4) (ret := (some .int)) (av := [.ref h0, .int p0, .long v0]) (Qc := fun A => va_Qi (fun (r : Int32) (u : MS) => MI u ∧ kA S u ∧ kF S u ∧ (r.toInt = 0 ∨ r.toInt = 4)) (fun u t => Bw D T A (mW T h0 ar u) t) A) (by decide +kernel) (Nat.le_of_ble_eq_true rfl) (fun p e s m args below meth c A ls F hr hlocks hnm hK hP hD hS hA hN hE hl => ?_)
  obtain ⟨hx, hb, hml, hown, hts⟩ := id F
  have hl : lv_has ls 4 [(0, .ref h0), (1, .int p0), (2, .long v0)] := hl
  obtain ⟨i_size, i_taken, i_vals, i_room, i_dicts, i_deep, i_open, i_cells, i_points, i_part, i_length, i_knows, i_page, i_text, i_pats, i_fuel, i_fr, i_ink⟩ := id hI
  refine lv_lload_n hx hb d_Mo_giveExact_0 rfl (lv_at hl 2 rfl) ?_
  refine lv_lload_n hx hb d_Mo_giveExact_1 rfl (lv_at hl 2 rfl) ?_
  refine lv_l2i (v := (v0).toInt32) hx hb d_Mo_giveExact_2 rfl ?_
  refine lv_topi (fun x1 ex1 => ?_)
  have wx1 := zt_rng x1
  refine lv_i2l (v := (x1).toInt64) hx hb d_Mo_giveExact_3 rfl ?_
  refine lv_topl (fun x2 ex2 => ?_)
  have fx2 : x2.toInt = x1.toInt := by rw [ex2]; exact zu_i2l (show x1.toInt = _ from rfl)
  refine W.lcmp hx hb d_Mo_giveExact_4 ?_
  refine lv_topi (fun x3 ex3 => ?_)
  refine lv_if_ne (tgt := 18) hx hb d_Mo_giveExact_5 (by decide) (fun c5_1 => ?_) (fun c5_1 => ?_)
  · first | have fc5_1 : x3.toInt < 0 := (by have := zt_ne (show x3.toInt = _ from rfl) tI_0 c5_1; omega) | have fc5_1 : 0 < x3.toInt := (by have := zt_ne (show x3.toInt = _ from rfl) tI_0 c5_1; omega) | skip
    have vc5_1 : ¬ v0.toInt = x1.toInt := by have := zr_cmp ex3 (show v0.toInt = _ from rfl) fx2; have := zt_ne (show x3.toInt = _ from rfl) tI_0 c5_1; omega
    refine lv_aload_n hx hb d_Mo_giveExact_18 rfl (lv_at hl 0 rfl) ?_
    refine lv_iload_n hx hb d_Mo_giveExact_19 rfl (lv_at hl 1 rfl) ?_
    refine lv_lload_n hx hb d_Mo_giveExact_20 rfl (lv_at hl 2 rfl) ?_
    refine lv_l2d hx hb d_Mo_giveExact_21 ?_
    refine lv_topd (fun x4 ex4 => ?_)
    have fx4 : dB x4 := by rw [ex4]; exact zd_l2d _
    refine jm_ci (w := (fun u => u)) hK hP hD hS hA (va_runV (As := [.int p0, .double x4]) (rest := []) F (m_giveReal l D T h0 ar S p0 x4 s.heap.size ⟨i_size, i_taken, i_vals, i_room, i_dicts, i_deep, i_open, i_cells, i_points, i_part, i_length, i_knows, i_page, i_text, i_pats, i_fuel, i_fr, i_ink⟩ (show 0 ≤ p0.toInt ∧ p0.toInt ≤ (f_size S).toInt ∧ (f_size S).toInt - p0.toInt ≤ 39 by omega) (show dN x4 by omega)) (j_cV (k := 2) (C := "PageScribeModel") hts k_7_211 k_1_12 k_7_208 k_7_210 k_0_111 (by decide +kernel) ⟨Nat.le_of_ble_eq_true rfl, Nat.le_of_ble_eq_true rfl⟩) (jm_pre hK hP hD) rfl rfl hl.1 rfl (lv_room (Nat.le_of_ble_eq_true rfl)) d_Mo_giveExact_22 ⟨Nat.le_of_ble_eq_true rfl, Nat.le_of_ble_eq_true rfl⟩) (fun rv1 S1 H locs hw1 hP hD hS => ?_)
    have hP : va_P D classes (mW T h0 ar S1) H := hP
    have hD : va_D A (mW T h0 ar S1) := hD
    obtain ⟨⟨i_size, i_taken, i_vals, i_room, i_dicts, i_deep, i_open, i_cells, i_points, i_part, i_length, i_knows, i_page, i_text, i_pats, i_fuel, i_fr, i_ink⟩, kpA_S1, kpF_S1, qqhw1⟩ := hw1
    have kSA_S1 : kA S S1 := kA_t (show kA S S from (kA_r S)) kpA_S1
    have kSF_S1 : kF S S1 := kF_t (show kF S S from (kF_r S)) kpF_S1
    have kST_S1 : kT S S1 := kT_t (show kT S S from (kT_r S)) (kT_A kpA_S1)
    have qhw1 : rv1.toInt = 0 ∨ rv1.toInt = 4 := qqhw1
    exact j_iret F hr hlocks hK hS S1 ⟨⟨i_size, i_taken, i_vals, i_room, i_dicts, i_deep, i_open, i_cells, i_points, i_part, i_length, i_knows, i_page, i_text, i_pats, i_fuel, i_fr, i_ink⟩, kSA_S1, kSF_S1, (show rv1.toInt = 0 ∨ rv1.toInt = 4 by omega)⟩ hP hD d_Mo_giveExact_25
  · have fc5_1 : x3.toInt = 0 := zt_eq (show x3.toInt = _ from rfl) tI_0 c5_1
    have vc5_1 : v0.toInt = x1.toInt := by have := zr_cmp ex3 (show v0.toInt = _ from rfl) fx2; have := zt_eq (show x3.toInt = _ from rfl) tI_0 c5_1; omega
    refine lv_aload_n hx hb d_Mo_giveExact_8 rfl (lv_at hl 0 rfl) ?_
    refine lv_iload_n hx hb d_Mo_giveExact_9 rfl (lv_at hl 1 rfl) ?_
    refine lv_iconst (v := 0) hx hb d_Mo_giveExact_10 (by decide) ?_
    refine lv_lload_n hx hb d_Mo_giveExact_11 rfl (lv_at hl 2 rfl) ?_
    refine jm_ci (w := (fun u => u)) hK hP hD hS hA (va_runV (As := [.int p0, .int 0, .long v0]) (rest := []) F (m_give l D T h0 ar S p0 (0 : Int32) v0 s.heap.size ⟨i_size, i_taken, i_vals, i_room, i_dicts, i_deep, i_open, i_cells, i_points, i_part, i_length, i_knows, i_page, i_text, i_pats, i_fuel, i_fr, i_ink⟩ (show 0 ≤ p0.toInt ∧ p0.toInt ≤ (f_size S).toInt ∧ (f_size S).toInt - p0.toInt ≤ 39 by have := tI_0; omega) (vO_int (by omega))) (j_cV (k := 3) (C := "PageScribeModel") hts k_7_221 k_1_12 k_7_218 k_7_220 k_0_113 (by decide +kernel) ⟨Nat.le_of_ble_eq_true rfl, Nat.le_of_ble_eq_true rfl⟩) (jm_pre hK hP hD) rfl rfl hl.1 rfl (lv_room (Nat.le_of_ble_eq_true rfl)) d_Mo_giveExact_12 ⟨Nat.le_of_ble_eq_true rfl, Nat.le_of_ble_eq_true rfl⟩) (fun rv2 S2 H locs hw2 hP hD hS => ?_)
    have hP : va_P D classes (mW T h0 ar S2) H := hP
    have hD : va_D A (mW T h0 ar S2) := hD
    obtain ⟨⟨i_size, i_taken, i_vals, i_room, i_dicts, i_deep, i_open, i_cells, i_points, i_part, i_length, i_knows, i_page, i_text, i_pats, i_fuel, i_fr, i_ink⟩, kpA_S2, kpF_S2, qqhw2⟩ := hw2
    have kSA_S2 : kA S S2 := kA_t (show kA S S from (kA_r S)) kpA_S2
    have kSF_S2 : kF S S2 := kF_t (show kF S S from (kF_r S)) kpF_S2
    have kST_S2 : kT S S2 := kT_t (show kT S S from (kT_r S)) (kT_A kpA_S2)
    have qhw2 : rv2.toInt = 0 ∧ (f_taken S2).toInt = (f_taken S).toInt := by simpa only [tI_0] using qqhw2
    refine lv_goto (tgt := 25) hx hb d_Mo_giveExact_15 (by decide) ?_
    exact j_iret F hr hlocks hK hS S2 ⟨⟨i_size, i_taken, i_vals, i_room, i_dicts, i_deep, i_open, i_cells, i_points, i_part, i_length, i_knows, i_page, i_text, i_pats, i_fuel, i_fr, i_ink⟩, kSA_S2, kSF_S2, (show rv2.toInt = 0 ∨ rv2.toInt = 4 by omega)⟩ hP hD d_Mo_giveExact_25
theorem d_Mo_below_0 : decode prog_15_method_48_code 0 = .ok (.dload_n 0, 1) := by decide +kernel
theorem d_Mo_below_1 : decode prog_15_method_48_code 1 = .ok (.d2l, 1) := by decide +kernel
theorem d_Mo_below_2 : decode prog_15_method_48_code 2 = .ok (.lstore_n 2, 1) := by decide +kernel
theorem d_Mo_below_3 : decode prog_15_method_48_code 3 = .ok (.lload_n 2, 1) := by decide +kernel
theorem d_Mo_below_4 : decode prog_15_method_48_code 4 = .ok (.l2d, 1) := by decide +kernel
theorem d_Mo_below_5 : decode prog_15_method_48_code 5 = .ok (.dload_n 0, 1) := by decide +kernel
theorem d_Mo_below_6 : decode prog_15_method_48_code 6 = .ok (.dcmp .l, 1) := by decide +kernel
theorem d_Mo_below_7 : decode prog_15_method_48_code 7 = .ok (.ifCond .le 10, 3) := by decide +kernel
theorem d_Mo_below_17 : decode prog_15_method_48_code 17 = .ok (.lload_n 2, 1) := by decide +kernel
theorem d_Mo_below_18 : decode prog_15_method_48_code 18 = .ok (.l2d, 1) := by decide +kernel
theorem d_Mo_below_19 : decode prog_15_method_48_code 19 = .ok (.dreturn, 1) := by decide +kernel
theorem d_Mo_below_10 : decode prog_15_method_48_code 10 = .ok (.lload_n 2, 1) := by decide +kernel
theorem d_Mo_below_11 : decode prog_15_method_48_code 11 = .ok (.lconst 1, 1) := by decide +kernel
theorem d_Mo_below_12 : decode prog_15_method_48_code 12 = .ok (.lsub, 1) := by decide +kernel
theorem tJ_1 : (1 : Int64).toInt = 1 := by decide +kernel
theorem d_Mo_below_13 : decode prog_15_method_48_code 13 = .ok (.l2d, 1) := by decide +kernel
theorem d_Mo_below_14 : decode prog_15_method_48_code 14 = .ok (.goto 5, 3) := by decide +kernel
set_option maxHeartbeats 4000000 in
set_option maxRecDepth 100000 in
theorem m_below (l : Launch) (D : va_G) (T : Nat → ClassId) (d0 : UInt64) (sz : Nat) (h1 : dF d0) : Met l ⟨"PageScribeModel", "below", "(D)D"⟩ (wy ⟨"PageScribeModel", "below", "(D)D"⟩ prog_15_method_48_code 4 (some .double)) ({ frames := 0, cells := 0, slots := 0, locals := 0 }) (va_Pc [.double d0] (Pw D T [] sz E0)) (va_Qd (fun (r : UInt64) (u : Unit) => dB r) (fun u t => Bw D T (va_A [] sz) [] t) (va_A [] sz)) 0 0 (va_A [] sz) := by
  refine j_met (y := ⟨"PageScribeModel", "below", "(D)D"⟩) (b := prog_15_method_48_code) (n := 4) (ret := (some .double)) (av := [.double d0]) (Qc := fun A => va_Qd (fun (r : UInt64) (u : Unit) => dB r) (fun u t => Bw D T A [] t) A) (by decide +kernel) (Nat.le_of_ble_eq_true rfl) (fun p e s m args below meth c A ls F hr hlocks hnm hK hP hD hS hA hN hE hl => ?_)
  obtain ⟨hx, hb, hml, hown, hts⟩ := id F
  have hl : lv_has ls 4 [(0, .double d0)] := hl
  refine lv_dload_n hx hb d_Mo_below_0 rfl (lv_at hl 0 rfl) ?_
  refine lv_d2l hx hb d_Mo_below_1 ?_
  refine lv_topl (fun x1 ex1 => ?_)
  refine lv_lstore_n (lv' := [(2, .long x1), (0, .double d0)]) hx hb d_Mo_below_2 rfl hl (by decide) rfl (fun ls hl => ?_)
  refine lv_lload_n hx hb d_Mo_below_3 rfl (lv_at hl 0 rfl) ?_
  refine lv_l2d hx hb d_Mo_below_4 ?_
  refine lv_topd (fun x2 ex2 => ?_)
  have fx2 : dB x2 := by rw [ex2]; exact zd_l2d _
  refine lv_dload_n hx hb d_Mo_below_5 rfl (lv_at hl 1 rfl) ?_
  refine lv_dcmp hx hb d_Mo_below_6 ?_
  refine lv_topi (fun x3 ex3 => ?_)
  refine lv_if_le (tgt := 17) hx hb d_Mo_below_7 (by decide) (fun c7_1 => ?_) (fun c7_1 => ?_)
  · have fc7_1 : x3.toInt ≤ 0 := zt_le (show x3.toInt = _ from rfl) tI_0 c7_1
    have vc7_1 : dk x2 ≤ dk d0 := by have := zr_dcmp (a := x2) (b := d0) ex3 (show dN x2 by omega) (show dN d0 by omega); have := zt_le (show x3.toInt = _ from rfl) tI_0 c7_1; omega
    refine lv_lload_n hx hb d_Mo_below_17 rfl (lv_at hl 0 rfl) ?_
    refine lv_l2d hx hb d_Mo_below_18 ?_
    refine lv_topd (fun x4 ex4 => ?_)
    have fx4 : dB x4 := by rw [ex4]; exact zd_l2d _
    exact j_dret F hr hlocks hK hS () (show dB x4 by omega) hP hD d_Mo_below_19
  · have fc7_1 : 0 < x3.toInt := Int.not_le.mp (zt_nle (show x3.toInt = _ from rfl) tI_0 c7_1)
    have vc7_1 : dk x2 > dk d0 := by have := zr_dcmp (a := x2) (b := d0) ex3 (show dN x2 by omega) (show dN d0 by omega); have := Int.not_le.mp (zt_nle (show x3.toInt = _ from rfl) tI_0 c7_1); omega
    refine lv_lload_n hx hb d_Mo_below_10 rfl (lv_at hl 0 rfl) ?_
    refine lv_lconst (v := 1) hx hb d_Mo_below_11 (by decide) ?_
    refine lv_lsub hx hb d_Mo_below_12 ?_
    refine lv_topl (fun x5 ex5 => ?_)
    refine lv_l2d hx hb d_Mo_below_13 ?_
    refine lv_topd (fun x6 ex6 => ?_)
    have fx6 : dB x6 := by rw [ex6]; exact zd_l2d _
    refine lv_goto (tgt := 19) hx hb d_Mo_below_14 (by decide) ?_
    exact j_dret F hr hlocks hK hS () (show dB x6 by omega) hP hD d_Mo_below_19
