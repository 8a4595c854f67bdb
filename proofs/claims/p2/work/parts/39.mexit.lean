theorem d_Mo_runArray_0 : decode prog_15_method_30_code 0 = .ok (.aload_n 0, 1) := by decide +kernel
theorem d_Mo_runArray_1 : decode prog_15_method_30_code 1 = .ok (.getfield 349, 3) := by decide +kernel
theorem d_Mo_runArray_4 : decode prog_15_method_30_code 4 = .ok (.bipush 8, 2) := by decide +kernel
theorem d_Mo_runArray_6 : decode prog_15_method_30_code 6 = .ok (.if_icmp .ne 6, 3) := by decide +kernel
theorem d_Mo_runArray_12 : decode prog_15_method_30_code 12 = .ok (.aload_n 0, 1) := by decide +kernel
theorem d_Mo_runArray_13 : decode prog_15_method_30_code 13 = .ok (.iconst 1, 1) := by decide +kernel
theorem d_Mo_runArray_14 : decode prog_15_method_30_code 14 = .ok (.lload_n 1, 1) := by decide +kernel
theorem d_Mo_runArray_15 : decode prog_15_method_30_code 15 = .ok (.invokevirtual 352, 3) := by decide +kernel
theorem k_8_59 : Cond.code ⟨"PageScribeModel", "frame", "(IJ)V"⟩ prog_15_method_28_code 4 none ∈ gw := gw_of (tb_8 (List.mem_of_getElem? (i := 59) (by decide +kernel))) (by decide +kernel)
theorem k_8_56 : Cond.methodLink "PageScribeModel" 352 ⟨"PageScribeModel", "frame", "(IJ)V"⟩ ∈ gw := gw_of (tb_8 (List.mem_of_getElem? (i := 56) (by decide +kernel))) (by decide +kernel)
theorem k_8_58 : Cond.instanceMethod ⟨"PageScribeModel", "frame", "(IJ)V"⟩ ∈ gw := gw_of (tb_8 (List.mem_of_getElem? (i := 58) (by decide +kernel))) (by decide +kernel)
theorem k_0_129 : Cond.selects "PageScribeModel" ⟨"PageScribeModel", "frame", "(IJ)V"⟩ ⟨"PageScribeModel", "frame", "(IJ)V"⟩ ∈ gw := gw_of (tb_0 (List.mem_of_getElem? (i := 129) (by decide +kernel))) (by decide +kernel)
theorem d_Mo_runArray_18 : decode prog_15_method_30_code 18 = .ok (.iconst 0, 1) := by decide +kernel
theorem d_Mo_runArray_19 : decode prog_15_method_30_code 19 = .ok (.ireturn, 1) := by decide +kernel
theorem d_Mo_runArray_9 : decode prog_15_method_30_code 9 = .ok (.bipush 12, 2) := by decide +kernel
theorem d_Mo_runArray_11 : decode prog_15_method_30_code 11 = .ok (.ireturn, 1) := by decide +kernel
set_option maxHeartbeats 4000000 in
set_option maxRecDepth 100000 in
theorem m_runArray (l : Launch) (D : va_G) (T : Nat → ClassId) (h0 : Nat) (ar : Nat → Nat) (S : MS) (v0 : Int64) (sz : Nat) (hI : MI S) (h1 : cOk v0) : Met l ⟨"PageScribeModel", "runArray", "(J)I"⟩ (wy ⟨"PageScribeModel", "runArray", "(J)I"⟩ prog_15_method_30_code 3 (some .int)) ({ frames := 1, cells := 0, slots := 0, locals := 70 }) (va_Pc [.ref h0, .long v0] (Pw D T (mW T h0 ar S) sz E0)) (va_Qi (fun (r : Int32) (u : MS) => MI u ∧ kA S u ∧ ((r.toInt = 0 ∧ (f_frames u).toInt = (f_frames S).toInt + 1) ∨ (r.toInt = 12 ∧ (f_frames u).toInt = (f_frames S).toInt))) (fun u t => Bw D T (va_A (mW T h0 ar S) sz) (mW T h0 ar u) t) (va_A (mW T h0 ar S) sz)) 0 0 (va_A (mW T h0 ar S) sz) := by
  refine j_met (y := ⟨"PageScribeModel", "runArray", "(J)I"⟩) (b := prog_15_method_30_code) (n := 3) (ret := (some .int)) (av := [.ref h0, .long v0]) (Qc := fun A => va_Qi (fun (r : Int32) (u : MS) => MI u ∧ kA S u ∧ ((r.toInt = 0 ∧ (f_frames u).toInt = (f_frames S).toInt + 1) ∨ (r.toInt = 12 ∧ (f_frames u).toInt = (f_frames S).toInt))) (fun u t => Bw D T A (mW T h0 ar u) t) A) (by decide +kernel) (Nat.le_of_ble_eq_true rfl) (fun p e s m args below meth c A ls F hr hlocks hnm hK hP hD hS hA hN hE hl => ?_)
  obtain ⟨hx, hb, hml, hown, hts⟩ := id F
  have hl : lv_has ls 3 [(0, .ref h0), (1, .long v0)] := hl
  obtain ⟨i_size, i_taken, i_vals, i_room, i_dicts, i_deep, i_open, i_cells, i_points, i_part, i_length, i_knows, i_page, i_text, i_pats, i_fuel, i_fr, i_ink⟩ := id hI
  refine lv_aload_n hx hb d_Mo_runArray_0 rfl (lv_at hl 0 rfl) ?_
  refine va_get (D := D) (ci := 11) (v := .int (f_under S)) (C := "PageScribeModel") (T := F_Mo) (N := 45) hx hb hts i_Mo hown hK hP 0 mW_0 cl_11 16 (by decide) (hts _ k_6_176) (fun _ h9 => h9) (mg_under _ _) d_Mo_runArray_1 ?_
  refine lv_bipush (v := 8) hx hb d_Mo_runArray_4 (by decide) ?_
  refine lv_icmp_ne (tgt := 12) hx hb d_Mo_runArray_6 (by decide) (fun c6_1 => ?_) (fun c6_1 => ?_)
  · first | have fc6_1 : (f_under S).toInt < 8 := (by have := zt_ne (show (f_under S).toInt = _ from rfl) tI_8 c6_1; omega) | have fc6_1 : 8 < (f_under S).toInt := (by have := zt_ne (show (f_under S).toInt = _ from rfl) tI_8 c6_1; omega) | skip
    refine lv_aload_n hx hb d_Mo_runArray_12 rfl (lv_at hl 0 rfl) ?_
    refine lv_iconst (v := 1) hx hb d_Mo_runArray_13 (by decide) ?_
    refine lv_lload_n hx hb d_Mo_runArray_14 rfl (lv_at hl 1 rfl) ?_
    refine jm_cv (w := (fun u => u)) hK hP hD hS hA (va_runV (As := [.int 1, .long v0]) (rest := []) F (m_frame l D T h0 ar S (1 : Int32) v0 s.heap.size ⟨i_size, i_taken, i_vals, i_room, i_dicts, i_deep, i_open, i_cells, i_points, i_part, i_length, i_knows, i_page, i_text, i_pats, i_fuel, i_fr, i_ink⟩ (show ((1 : Int32).toInt ≤ 2 ∧ (f_under S).toInt < 8) ∨ (2 < (1 : Int32).toInt ∧ ((f_frames S).toInt = 0 ∨ ((a_what S) ((f_frames S).toInt - 1).toNat).toInt ≤ 2)) by have := tI_1; omega) (by have := tI_1; have := tI_0; have := tI_2; have := tI_7; exact ⟨by omega, by omega, h1, by omega, fun q => by omega, fun q => by omega⟩)) (j_cV (k := 2) (C := "PageScribeModel") hts k_8_59 k_1_12 k_8_56 k_8_58 k_0_129 (by decide +kernel) ⟨Nat.le_of_ble_eq_true rfl, Nat.le_of_ble_eq_true rfl⟩) (jm_pre hK hP hD) rfl rfl hl.1 rfl (lv_room (Nat.le_of_ble_eq_true rfl)) d_Mo_runArray_15 ⟨Nat.le_of_ble_eq_true rfl, Nat.le_of_ble_eq_true rfl⟩) (fun S1 H locs hw1 hP hD hS => ?_)
    have hP : va_P D classes (mW T h0 ar S1) H := hP
    have hD : va_D A (mW T h0 ar S1) := hD
    obtain ⟨⟨i_size, i_taken, i_vals, i_room, i_dicts, i_deep, i_open, i_cells, i_points, i_part, i_length, i_knows, i_page, i_text, i_pats, i_fuel, i_fr, i_ink⟩, kpA_S1, qqhw1⟩ := hw1
    have kSA_S1 : kA S S1 := kA_t (show kA S S from (kA_r S)) kpA_S1
    have kST_S1 : kT S S1 := kT_t (show kT S S from (kT_r S)) (kT_A kpA_S1)
    have qhw1 : (f_frames S1).toInt = (f_frames S).toInt + 1 ∧ ((a_what S1) ((f_frames S1).toInt - 1).toNat).toInt = 1 ∧ (f_size S1) = (f_size S) ∧ (a_kinds S1) = (a_kinds S) ∧ (a_codes S1) = (a_codes S) := by simpa only [tI_1] using qqhw1
    refine lv_iconst (v := 0) hx hb d_Mo_runArray_18 (by decide) ?_
    exact j_iret F hr hlocks hK hS S1 ⟨⟨i_size, i_taken, i_vals, i_room, i_dicts, i_deep, i_open, i_cells, i_points, i_part, i_length, i_knows, i_page, i_text, i_pats, i_fuel, i_fr, i_ink⟩, kSA_S1, (show ((0 : Int32).toInt = 0 ∧ (f_frames S1).toInt = (f_frames S).toInt + 1) ∨ ((0 : Int32).toInt = 12 ∧ (f_frames S1).toInt = (f_frames S).toInt) by have := tI_0; omega)⟩ hP hD d_Mo_runArray_19
  · have fc6_1 : (f_under S).toInt = 8 := zt_eq (show (f_under S).toInt = _ from rfl) tI_8 c6_1
    refine lv_bipush (v := 12) hx hb d_Mo_runArray_9 (by decide) ?_
    exact j_iret F hr hlocks hK hS S ⟨⟨i_size, i_taken, i_vals, i_room, i_dicts, i_deep, i_open, i_cells, i_points, i_part, i_length, i_knows, i_page, i_text, i_pats, i_fuel, i_fr, i_ink⟩, (kA_r S), (show ((12 : Int32).toInt = 0 ∧ (f_frames S).toInt = (f_frames S).toInt + 1) ∨ ((12 : Int32).toInt = 12 ∧ (f_frames S).toInt = (f_frames S).toInt) by have := tI_12; omega)⟩ hP hD d_Mo_runArray_11
theorem d_Mo_again_0 : decode prog_15_method_31_code 0 = .ok (.aload_n 0, 1) := by decide +kernel
theorem d_Mo_again_1 : decode prog_15_method_31_code 1 = .ok (.getfield 7, 3) := by decide +kernel
theorem d_Mo_again_4 : decode prog_15_method_31_code 4 = .ok (.bipush 40, 2) := by decide +kernel
theorem d_Mo_again_6 : decode prog_15_method_31_code 6 = .ok (.iaload, 1) := by decide +kernel
theorem d_Mo_again_7 : decode prog_15_method_31_code 7 = .ok (.bipush 11, 2) := by decide +kernel
theorem d_Mo_again_9 : decode prog_15_method_31_code 9 = .ok (.if_icmp .eq 5, 3) := by decide +kernel
theorem d_Mo_again_14 : decode prog_15_method_31_code 14 = .ok (.aload_n 0, 1) := by decide +kernel
theorem d_Mo_again_15 : decode prog_15_method_31_code 15 = .ok (.getfield 349, 3) := by decide +kernel
theorem d_Mo_again_18 : decode prog_15_method_31_code 18 = .ok (.bipush 8, 2) := by decide +kernel
theorem d_Mo_again_20 : decode prog_15_method_31_code 20 = .ok (.if_icmp .ne 6, 3) := by decide +kernel
theorem d_Mo_again_26 : decode prog_15_method_31_code 26 = .ok (.aload_n 0, 1) := by decide +kernel
theorem d_Mo_again_27 : decode prog_15_method_31_code 27 = .ok (.iconst 2, 1) := by decide +kernel
theorem d_Mo_again_28 : decode prog_15_method_31_code 28 = .ok (.lconst 0, 1) := by decide +kernel
theorem d_Mo_again_29 : decode prog_15_method_31_code 29 = .ok (.invokevirtual 352, 3) := by decide +kernel
theorem d_Mo_again_32 : decode prog_15_method_31_code 32 = .ok (.iconst (-1), 1) := by decide +kernel
theorem d_Mo_again_33 : decode prog_15_method_31_code 33 = .ok (.ireturn, 1) := by decide +kernel
theorem d_Mo_again_23 : decode prog_15_method_31_code 23 = .ok (.bipush 12, 2) := by decide +kernel
theorem d_Mo_again_25 : decode prog_15_method_31_code 25 = .ok (.ireturn, 1) := by decide +kernel
theorem d_Mo_again_12 : decode prog_15_method_31_code 12 = .ok (.iconst (-1), 1) := by decide +kernel
theorem d_Mo_again_13 : decode prog_15_method_31_code 13 = .ok (.ireturn, 1) := by decide +kernel
set_option maxHeartbeats 4000000 in
set_option maxRecDepth 100000 in
theorem m_again (l : Launch) (D : va_G) (T : Nat → ClassId) (h0 : Nat) (ar : Nat → Nat) (S : MS)  (sz : Nat) (hI : MI S) : Met l ⟨"PageScribeModel", "again", "()I"⟩ (wy ⟨"PageScribeModel", "again", "()I"⟩ prog_15_method_31_code 1 (some .int)) ({ frames := 1, cells := 0, slots := 0, locals := 70 }) (va_Pc [.ref h0] (Pw D T (mW T h0 ar S) sz E0)) (va_Qi (fun (r : Int32) (u : MS) => MI u ∧ kA S u ∧ ((r.toInt = -1 ∨ r.toInt = 12) ∧ (f_frames S).toInt ≤ (f_frames u).toInt ∧ (f_frames u).toInt ≤ (f_frames S).toInt + 1 ∧ (r.toInt = -1 → ((a_kinds u) 40).toInt = 11 → 1 ≤ (f_frames u).toInt ∧ ((a_what u) ((f_frames u).toInt - 1).toNat).toInt ≤ 2))) (fun u t => Bw D T (va_A (mW T h0 ar S) sz) (mW T h0 ar u) t) (va_A (mW T h0 ar S) sz)) 0 0 (va_A (mW T h0 ar S) sz) := by
  refine j_met (y := ⟨"PageScribeModel", "again", "()I"⟩) (b := prog_15_method_31_code) (n := 1) (ret := (some .int)) (av := [.ref h0]) (Qc := fun A => va_Qi (fun (r : Int32) (u : MS) => MI u ∧ kA S u ∧ ((r.toInt = -1 ∨ r.toInt = 12) ∧ (f_frames S).toInt ≤ (f_frames u).toInt ∧ (f_frames u).toInt ≤ (f_frames S).toInt + 1 ∧ (r.toInt = -1 → ((a_kinds u) 40).toInt = 11 → 1 ≤ (f_frames u).toInt ∧ ((a_what u) ((f_frames u).toInt - 1).toNat).toInt ≤ 2))) (fun u t => Bw D T A (mW T h0 ar u) t) A) (by decide +kernel) (Nat.le_of_ble_eq_true rfl) (fun p e s m args below meth c A ls F hr hlocks hnm hK hP hD hS hA hN hE hl => ?_)
  obtain ⟨hx, hb, hml, hown, hts⟩ := id F
  have hl : lv_has ls 1 [(0, .ref h0)] := hl
  obtain ⟨i_size, i_taken, i_vals, i_room, i_dicts, i_deep, i_open, i_cells, i_points, i_part, i_length, i_knows, i_page, i_text, i_pats, i_fuel, i_fr, i_ink⟩ := id hI
  refine lv_aload_n hx hb d_Mo_again_0 rfl (lv_at hl 0 rfl) ?_
  refine va_get (D := D) (ci := 11) (v := .ref (ar 0)) (C := "PageScribeModel") (T := F_Mo) (N := 45) hx hb hts i_Mo hown hK hP 0 mW_0 cl_11 1 (by decide) (hts _ k_6_161) (fun _ h9 => h9) (mg_kinds _ _) d_Mo_again_1 ?_
  refine lv_bipush (v := 40) hx hb d_Mo_again_4 (by decide) ?_
  refine va_iald hx hb hK hP 1 0 (ma_kinds _ _ _ _) rfl (zt_in tI_40 (by omega) (by omega)) d_Mo_again_6 ?_
  refine lv_topi (fun x1 ex1 => ?_)
  have gx1 : x1 = (a_kinds S) 40 := ex1.trans (congrArg _ (zt_ix tI_40))
  have fx1 : x1.toInt = ((a_kinds S) 40).toInt := by rw [gx1]
  have kx1 : vOk ((a_kinds S) 40) ((a_codes S) 40) ((a_reals S) 40) := i_vals (40) (by omega)
  have rx1 := vk_rng kx1
  refine lv_bipush (v := 11) hx hb d_Mo_again_7 (by decide) ?_
  refine lv_icmp_eq (tgt := 14) hx hb d_Mo_again_9 (by decide) (fun c9_1 => ?_) (fun c9_1 => ?_)
  · have fc9_1 : x1.toInt = 11 := zt_eq (show x1.toInt = _ from rfl) tI_11 c9_1
    refine lv_aload_n hx hb d_Mo_again_14 rfl (lv_at hl 0 rfl) ?_
    refine va_get (D := D) (ci := 11) (v := .int (f_under S)) (C := "PageScribeModel") (T := F_Mo) (N := 45) hx hb hts i_Mo hown hK hP 0 mW_0 cl_11 16 (by decide) (hts _ k_6_176) (fun _ h9 => h9) (mg_under _ _) d_Mo_again_15 ?_
    refine lv_bipush (v := 8) hx hb d_Mo_again_18 (by decide) ?_
    refine lv_icmp_ne (tgt := 26) hx hb d_Mo_again_20 (by decide) (fun c20_1 => ?_) (fun c20_1 => ?_)
    · first | have fc20_1 : (f_under S).toInt < 8 := (by have := zt_ne (show (f_under S).toInt = _ from rfl) tI_8 c20_1; omega) | have fc20_1 : 8 < (f_under S).toInt := (by have := zt_ne (show (f_under S).toInt = _ from rfl) tI_8 c20_1; omega) | skip
      refine lv_aload_n hx hb d_Mo_again_26 rfl (lv_at hl 0 rfl) ?_
      refine lv_iconst (v := 2) hx hb d_Mo_again_27 (by decide) ?_
      refine lv_lconst (v := 0) hx hb d_Mo_again_28 (by decide) ?_
      refine jm_cv (w := (fun u => u)) hK hP hD hS hA (va_runV (As := [.int 2, .long 0]) (rest := []) F (m_frame l D T h0 ar S (2 : Int32) (0 : Int64) s.heap.size ⟨i_size, i_taken, i_vals, i_room, i_dicts, i_deep, i_open, i_cells, i_points, i_part, i_length, i_knows, i_page, i_text, i_pats, i_fuel, i_fr, i_ink⟩ (show ((2 : Int32).toInt ≤ 2 ∧ (f_under S).toInt < 8) ∨ (2 < (2 : Int32).toInt ∧ ((f_frames S).toInt = 0 ∨ ((a_what S) ((f_frames S).toInt - 1).toNat).toInt ≤ 2)) by have := tI_2; have := tJ_0; omega) (by have := tI_1; have := tI_0; have := tI_2; have := tI_7; exact ⟨by omega, by omega, (by decide +kernel), by omega, fun q => by omega, fun q => by omega⟩)) (j_cV (k := 2) (C := "PageScribeModel") hts k_8_59 k_1_12 k_8_56 k_8_58 k_0_129 (by decide +kernel) ⟨Nat.le_of_ble_eq_true rfl, Nat.le_of_ble_eq_true rfl⟩) (jm_pre hK hP hD) rfl rfl hl.1 rfl (lv_room (Nat.le_of_ble_eq_true rfl)) d_Mo_again_29 ⟨Nat.le_of_ble_eq_true rfl, Nat.le_of_ble_eq_true rfl⟩) (fun S1 H locs hw1 hP hD hS => ?_)
      have hP : va_P D classes (mW T h0 ar S1) H := hP
      have hD : va_D A (mW T h0 ar S1) := hD
      obtain ⟨⟨i_size, i_taken, i_vals, i_room, i_dicts, i_deep, i_open, i_cells, i_points, i_part, i_length, i_knows, i_page, i_text, i_pats, i_fuel, i_fr, i_ink⟩, kpA_S1, qqhw1⟩ := hw1
      have kSA_S1 : kA S S1 := kA_t (show kA S S from (kA_r S)) kpA_S1
      have kST_S1 : kT S S1 := kT_t (show kT S S from (kT_r S)) (kT_A kpA_S1)
      have qhw1 : (f_frames S1).toInt = (f_frames S).toInt + 1 ∧ ((a_what S1) ((f_frames S1).toInt - 1).toNat).toInt = 2 ∧ (f_size S1) = (f_size S) ∧ (a_kinds S1) = (a_kinds S) ∧ (a_codes S1) = (a_codes S) := by simpa only [tI_2, tJ_0] using qqhw1
      refine lv_iconst (v := (-1)) hx hb d_Mo_again_32 (by decide) ?_
      exact j_iret F hr hlocks hK hS S1 ⟨⟨i_size, i_taken, i_vals, i_room, i_dicts, i_deep, i_open, i_cells, i_points, i_part, i_length, i_knows, i_page, i_text, i_pats, i_fuel, i_fr, i_ink⟩, kSA_S1, (show ((-1 : Int32).toInt = -1 ∨ (-1 : Int32).toInt = 12) ∧ (f_frames S).toInt ≤ (f_frames S1).toInt ∧ (f_frames S1).toInt ≤ (f_frames S).toInt + 1 ∧ ((-1 : Int32).toInt = -1 → ((a_kinds S1) 40).toInt = 11 → 1 ≤ (f_frames S1).toInt ∧ ((a_what S1) ((f_frames S1).toInt - 1).toNat).toInt ≤ 2) by have := tI_m1; omega)⟩ hP hD d_Mo_again_33
    · have fc20_1 : (f_under S).toInt = 8 := zt_eq (show (f_under S).toInt = _ from rfl) tI_8 c20_1
      refine lv_bipush (v := 12) hx hb d_Mo_again_23 (by decide) ?_
      exact j_iret F hr hlocks hK hS S ⟨⟨i_size, i_taken, i_vals, i_room, i_dicts, i_deep, i_open, i_cells, i_points, i_part, i_length, i_knows, i_page, i_text, i_pats, i_fuel, i_fr, i_ink⟩, (kA_r S), (show ((12 : Int32).toInt = -1 ∨ (12 : Int32).toInt = 12) ∧ (f_frames S).toInt ≤ (f_frames S).toInt ∧ (f_frames S).toInt ≤ (f_frames S).toInt + 1 ∧ ((12 : Int32).toInt = -1 → ((a_kinds S) 40).toInt = 11 → 1 ≤ (f_frames S).toInt ∧ ((a_what S) ((f_frames S).toInt - 1).toNat).toInt ≤ 2) by have := tI_12; omega)⟩ hP hD d_Mo_again_25
  · have fc9_1 : ¬ x1.toInt = 11 := zt_ne (show x1.toInt = _ from rfl) tI_11 c9_1
    refine lv_iconst (v := (-1)) hx hb d_Mo_again_12 (by decide) ?_
    exact j_iret F hr hlocks hK hS S ⟨⟨i_size, i_taken, i_vals, i_room, i_dicts, i_deep, i_open, i_cells, i_points, i_part, i_length, i_knows, i_page, i_text, i_pats, i_fuel, i_fr, i_ink⟩, (kA_r S), (show ((-1 : Int32).toInt = -1 ∨ (-1 : Int32).toInt = 12) ∧ (f_frames S).toInt ≤ (f_frames S).toInt ∧ (f_frames S).toInt ≤ (f_frames S).toInt + 1 ∧ ((-1 : Int32).toInt = -1 → ((a_kinds S) 40).toInt = 11 → 1 ≤ (f_frames S).toInt ∧ ((a_what S) ((f_frames S).toInt - 1).toNat).toInt ≤ 2) by have := tI_m1; omega)⟩ hP hD d_Mo_again_13
theorem d_Mo_exit_0 : decode prog_15_method_66_code 0 = .ok (.aload_n 0, 1) := by decide +kernel
theorem d_Mo_exit_1 : decode prog_15_method_66_code 1 = .ok (.getfield 346, 3) := by decide +kernel
theorem d_Mo_exit_4 : decode prog_15_method_66_code 4 = .ok (.iconst 1, 1) := by decide +kernel
theorem d_Mo_exit_5 : decode prog_15_method_66_code 5 = .ok (.isub, 1) := by decide +kernel
theorem d_Mo_exit_6 : decode prog_15_method_66_code 6 = .ok (.istore_n 1, 1) := by decide +kernel
theorem d_Mo_exit_7 : decode prog_15_method_66_code 7 = .ok (.iload_n 1, 1) := by decide +kernel
theorem d_Mo_exit_8 : decode prog_15_method_66_code 8 = .ok (.ifCond .lt 19, 3) := by decide +kernel
theorem d_Mo_exit_27 : decode prog_15_method_66_code 27 = .ok (.iload_n 1, 1) := by decide +kernel
theorem d_Mo_exit_28 : decode prog_15_method_66_code 28 = .ok (.ifCond .lt 14, 3) := by decide +kernel
theorem d_Mo_exit_42 : decode prog_15_method_66_code 42 = .ok (.bipush 11, 2) := by decide +kernel
theorem d_Mo_exit_44 : decode prog_15_method_66_code 44 = .ok (.ireturn, 1) := by decide +kernel
theorem d_Mo_exit_31 : decode prog_15_method_66_code 31 = .ok (.aload_n 0, 1) := by decide +kernel
theorem d_Mo_exit_32 : decode prog_15_method_66_code 32 = .ok (.getfield 43, 3) := by decide +kernel
theorem d_Mo_exit_35 : decode prog_15_method_66_code 35 = .ok (.iload_n 1, 1) := by decide +kernel
theorem d_Mo_exit_36 : decode prog_15_method_66_code 36 = .ok (.iaload, 1) := by decide +kernel
theorem d_Mo_exit_37 : decode prog_15_method_66_code 37 = .ok (.bipush 7, 2) := by decide +kernel
theorem d_Mo_exit_39 : decode prog_15_method_66_code 39 = .ok (.if_icmp .ne 6, 3) := by decide +kernel
theorem d_Mo_exit_45 : decode prog_15_method_66_code 45 = .ok (.aload_n 0, 1) := by decide +kernel
theorem d_Mo_exit_46 : decode prog_15_method_66_code 46 = .ok (.getfield 346, 3) := by decide +kernel
theorem d_Mo_exit_49 : decode prog_15_method_66_code 49 = .ok (.iload_n 1, 1) := by decide +kernel
theorem d_Mo_exit_50 : decode prog_15_method_66_code 50 = .ok (.if_icmp .le 10, 3) := by decide +kernel
theorem d_Mo_exit_60 : decode prog_15_method_66_code 60 = .ok (.iconst 0, 1) := by decide +kernel
theorem d_Mo_exit_61 : decode prog_15_method_66_code 61 = .ok (.ireturn, 1) := by decide +kernel
theorem d_Mo_exit_53 : decode prog_15_method_66_code 53 = .ok (.aload_n 0, 1) := by decide +kernel
theorem d_Mo_exit_54 : decode prog_15_method_66_code 54 = .ok (.invokevirtual 385, 3) := by decide +kernel
theorem k_8_75 : Cond.code ⟨"PageScribeModel", "leave", "()V"⟩ prog_15_method_29_code 1 none ∈ gw := gw_of (tb_8 (List.mem_of_getElem? (i := 75) (by decide +kernel))) (by decide +kernel)
theorem k_8_72 : Cond.methodLink "PageScribeModel" 385 ⟨"PageScribeModel", "leave", "()V"⟩ ∈ gw := gw_of (tb_8 (List.mem_of_getElem? (i := 72) (by decide +kernel))) (by decide +kernel)
theorem k_8_74 : Cond.instanceMethod ⟨"PageScribeModel", "leave", "()V"⟩ ∈ gw := gw_of (tb_8 (List.mem_of_getElem? (i := 74) (by decide +kernel))) (by decide +kernel)
theorem k_0_133 : Cond.selects "PageScribeModel" ⟨"PageScribeModel", "leave", "()V"⟩ ⟨"PageScribeModel", "leave", "()V"⟩ ∈ gw := gw_of (tb_0 (List.mem_of_getElem? (i := 133) (by decide +kernel))) (by decide +kernel)
theorem d_Mo_exit_57 : decode prog_15_method_66_code 57 = .ok (.goto (-12), 3) := by decide +kernel
theorem d_Mo_exit_11 : decode prog_15_method_66_code 11 = .ok (.aload_n 0, 1) := by decide +kernel
theorem d_Mo_exit_12 : decode prog_15_method_66_code 12 = .ok (.getfield 43, 3) := by decide +kernel
theorem d_Mo_exit_15 : decode prog_15_method_66_code 15 = .ok (.iload_n 1, 1) := by decide +kernel
theorem d_Mo_exit_16 : decode prog_15_method_66_code 16 = .ok (.iaload, 1) := by decide +kernel
theorem d_Mo_exit_17 : decode prog_15_method_66_code 17 = .ok (.iconst 3, 1) := by decide +kernel
theorem d_Mo_exit_18 : decode prog_15_method_66_code 18 = .ok (.if_icmp .ge 9, 3) := by decide +kernel
theorem d_Mo_exit_21 : decode prog_15_method_66_code 21 = .ok (.iinc 1 (-1), 3) := by decide +kernel
theorem d_Mo_exit_24 : decode prog_15_method_66_code 24 = .ok (.goto (-17), 3) := by decide +kernel
set_option maxHeartbeats 4000000 in
set_option maxRecDepth 100000 in
theorem m_exit (l : Launch) (D : va_G) (T : Nat → ClassId) (h0 : Nat) (ar : Nat → Nat) (S : MS)  (sz : Nat) (hI : MI S) : Met l ⟨"PageScribeModel", "exit", "()I"⟩ (wy ⟨"PageScribeModel", "exit", "()I"⟩ prog_15_method_66_code 2 (some .int)) ({ frames := 1, cells := 0, slots := 0, locals := 70 }) (va_Pc [.ref h0] (Pw D T (mW T h0 ar S) sz E0)) (va_Qi (fun (r : Int32) (u : MS) => MI u ∧ kA S u ∧ ((r.toInt = 0 ∨ r.toInt = 11) ∧ (f_frames u).toInt ≤ (f_frames S).toInt)) (fun u t => Bw D T (va_A (mW T h0 ar S) sz) (mW T h0 ar u) t) (va_A (mW T h0 ar S) sz)) 0 0 (va_A (mW T h0 ar S) sz) := by
  refine j_met (y := ⟨"PageScribeModel", "exit", "()I"⟩) (b := prog_15_method_66_code) (n := 2) (ret := (some .int)) (av := [.ref h0]) (Qc := fun A => va_Qi (fun (r : Int32) (u : MS) => MI u ∧ kA S u ∧ ((r.toInt = 0 ∨ r.toInt = 11) ∧ (f_frames u).toInt ≤ (f_frames S).toInt)) (fun u t => Bw D T A (mW T h0 ar u) t) A) (by decide +kernel) (Nat.le_of_ble_eq_true rfl) (fun p e s m args below meth c A ls F hr hlocks hnm hK hP hD hS hA hN hE hl => ?_)
  obtain ⟨hx, hb, hml, hown, hts⟩ := id F
  have hl : lv_has ls 2 [(0, .ref h0)] := hl
  obtain ⟨i_size, i_taken, i_vals, i_room, i_dicts, i_deep, i_open, i_cells, i_points, i_part, i_length, i_knows, i_page, i_text, i_pats, i_fuel, i_fr, i_ink⟩ := id hI
  refine lv_aload_n hx hb d_Mo_exit_0 rfl (lv_at hl 0 rfl) ?_
  refine va_get (D := D) (ci := 11) (v := .int (f_frames S)) (C := "PageScribeModel") (T := F_Mo) (N := 45) hx hb hts i_Mo hown hK hP 0 mW_0 cl_11 15 (by decide) (hts _ k_6_175) (fun _ h9 => h9) (mg_frames _ _) d_Mo_exit_1 ?_
  refine lv_iconst (v := 1) hx hb d_Mo_exit_4 (by decide) ?_
  refine lv_isub hx hb d_Mo_exit_5 ?_
  refine lv_topi (fun x1 ex1 => ?_)
  have fx1 : x1.toInt = ((f_frames S).toInt - 1) := by rw [ex1]; exact (zt_sub (show (f_frames S).toInt = _ from rfl) tI_1 (by omega) (by omega)).trans (by omega)
  refine lv_istore_n (lv' := [(1, .int x1), (0, .ref h0)]) hx hb d_Mo_exit_6 rfl hl (by decide) rfl (fun ls hl => ?_)
  refine j_loop (α := Int32) (fun k x H locs ls => (-1 ≤ x.toInt ∧ x.toInt ≤ (f_frames S).toInt - 1 ∧ x.toInt + 1 ≤ ((k : Nat) : Int)) ∧ va_P D classes (mW T h0 ar S) H ∧ va_D A (mW T h0 ar S) ∧ va_S A s.heap H locs ∧ lv_has ls 2 [(1, .int x), (0, .ref h0)]) (fun _ _ ls => F0 m 7 ls []) (fun k x H locs ls hI9 ih => ?_) 17 x1 _ _ _ ⟨(show -1 ≤ x1.toInt ∧ x1.toInt ≤ (f_frames S).toInt - 1 ∧ x1.toInt + 1 ≤ ((17 : Nat) : Int) by omega), hP, hD, hS, lv_sub hl [0, 1] rfl⟩
  obtain ⟨i, rfl⟩ : ∃ z, z = x := ⟨_, rfl⟩
  obtain ⟨hf1, hP, hD, hS, hl⟩ := hI9
  have hf1 : -1 ≤ i.toInt ∧ i.toInt ≤ (f_frames S).toInt - 1 ∧ i.toInt + 1 ≤ ((k : Nat) : Int) := hf1
  have hP : va_P D classes (mW T h0 ar S) H := hP
  have hD : va_D A (mW T h0 ar S) := hD
  have hl : lv_has ls 2 [(1, .int i), (0, .ref h0)] := hl
  refine lv_iload_n hx hb d_Mo_exit_7 rfl (lv_at hl 0 rfl) ?_
  refine lv_if_lt (tgt := 27) hx hb d_Mo_exit_8 (by decide) (fun c8_1 => ?_) (fun c8_1 => ?_)
  · have fc8_1 : i.toInt < 0 := zt_lt (show i.toInt = _ from rfl) tI_0 c8_1
    refine lv_iload_n hx hb d_Mo_exit_27 rfl (lv_at hl 0 rfl) ?_
    refine lv_if_lt (tgt := 42) hx hb d_Mo_exit_28 (by decide) (fun c28_1 => ?_) (fun c28_1 => ?_)
    · have fc28_1 : i.toInt < 0 := zt_lt (show i.toInt = _ from rfl) tI_0 c28_1
      refine lv_bipush (v := 11) hx hb d_Mo_exit_42 (by decide) ?_
      exact j_iret F hr hlocks hK hS S ⟨⟨i_size, i_taken, i_vals, i_room, i_dicts, i_deep, i_open, i_cells, i_points, i_part, i_length, i_knows, i_page, i_text, i_pats, i_fuel, i_fr, i_ink⟩, (kA_r S), (show ((11 : Int32).toInt = 0 ∨ (11 : Int32).toInt = 11) ∧ (f_frames S).toInt ≤ (f_frames S).toInt by have := tI_11; omega)⟩ hP hD d_Mo_exit_44
    · have fc28_1 : 0 ≤ i.toInt := Int.not_lt.mp (zt_nlt (show i.toInt = _ from rfl) tI_0 c28_1)
      refine lv_aload_n hx hb d_Mo_exit_31 rfl (lv_at hl 1 rfl) ?_
      refine va_get (D := D) (ci := 11) (v := .ref (ar 9)) (C := "PageScribeModel") (T := F_Mo) (N := 45) hx hb hts i_Mo hown hK hP 0 mW_0 cl_11 17 (by decide) (hts _ k_6_177) (fun _ h9 => h9) (mg_what _ _) d_Mo_exit_32 ?_
      refine lv_iload_n hx hb d_Mo_exit_35 rfl (lv_at hl 0 rfl) ?_
      refine va_iald hx hb hK hP 10 0 (ma_what _ _ _ _) rfl (zt_in (show i.toInt = _ from rfl) (by omega) (by omega)) d_Mo_exit_36 ?_
      refine lv_topi (fun x2 ex2 => ?_)
      have gx2 : x2 = (a_what S) i.toInt.toNat := ex2.trans (congrArg _ (zt_ix (show i.toInt = _ from rfl)))
      have fx2 : x2.toInt = ((a_what S) i.toInt.toNat).toInt := by rw [gx2]
      refine lv_bipush (v := 7) hx hb d_Mo_exit_37 (by decide) ?_
      refine lv_icmp_ne (tgt := 45) hx hb d_Mo_exit_39 (by decide) (fun c39_1 => ?_) (fun c39_1 => ?_)
      · first | have fc39_1 : x2.toInt < 7 := (by have := zt_ne (show x2.toInt = _ from rfl) tI_7 c39_1; omega) | have fc39_1 : 7 < x2.toInt := (by have := zt_ne (show x2.toInt = _ from rfl) tI_7 c39_1; omega) | skip
        refine j_loop (α := MS) (fun k x H locs ls => ((f_frames x).toInt ≤ i.toInt + ((k : Nat) : Int) ∧ (f_frames x).toInt ≤ (f_frames S).toInt ∧ 0 ≤ i.toInt) ∧ MI x ∧ kA S x ∧ va_P D classes (mW T h0 ar x) H ∧ va_D A (mW T h0 ar x) ∧ va_S A s.heap H locs ∧ lv_has ls 2 [(1, .int i), (0, .ref h0)]) (fun _ _ ls => F0 m 45 ls []) (fun k2 x H locs ls hI9 ih2 => ?_) 17 S _ _ _ ⟨(show (f_frames S).toInt ≤ i.toInt + ((17 : Nat) : Int) ∧ (f_frames S).toInt ≤ (f_frames S).toInt ∧ 0 ≤ i.toInt by omega), ⟨i_size, i_taken, i_vals, i_room, i_dicts, i_deep, i_open, i_cells, i_points, i_part, i_length, i_knows, i_page, i_text, i_pats, i_fuel, i_fr, i_ink⟩, (show kA S S from (kA_r S)), hP, hD, hS, lv_sub hl [0, 1] rfl⟩
        obtain ⟨S1, rfl⟩ : ∃ z, z = x := ⟨_, rfl⟩
        obtain ⟨hf2, hIx, klA_S1, hP, hD, hS, hl⟩ := hI9
        obtain ⟨i_size, i_taken, i_vals, i_room, i_dicts, i_deep, i_open, i_cells, i_points, i_part, i_length, i_knows, i_page, i_text, i_pats, i_fuel, i_fr, i_ink⟩ := (show MI S1 from hIx)
        have klA_S1 : kA S S1 := klA_S1
        have hf2 : (f_frames S1).toInt ≤ i.toInt + ((k2 : Nat) : Int) ∧ (f_frames S1).toInt ≤ (f_frames S).toInt ∧ 0 ≤ i.toInt := hf2
        have hP : va_P D classes (mW T h0 ar S1) H := hP
        have hD : va_D A (mW T h0 ar S1) := hD
        have hl : lv_has ls 2 [(1, .int i), (0, .ref h0)] := hl
        refine lv_aload_n hx hb d_Mo_exit_45 rfl (lv_at hl 1 rfl) ?_
        refine va_get (D := D) (ci := 11) (v := .int (f_frames S1)) (C := "PageScribeModel") (T := F_Mo) (N := 45) hx hb hts i_Mo hown hK hP 0 mW_0 cl_11 15 (by decide) (hts _ k_6_175) (fun _ h9 => h9) (mg_frames _ _) d_Mo_exit_46 ?_
        refine lv_iload_n hx hb d_Mo_exit_49 rfl (lv_at hl 0 rfl) ?_
        refine lv_icmp_le (tgt := 60) hx hb d_Mo_exit_50 (by decide) (fun c50_1 => ?_) (fun c50_1 => ?_)
        · have fc50_1 : (f_frames S1).toInt ≤ i.toInt := zt_le (show (f_frames S1).toInt = _ from rfl) (show i.toInt = _ from rfl) c50_1
          refine lv_iconst (v := 0) hx hb d_Mo_exit_60 (by decide) ?_
          exact j_iret F hr hlocks hK hS S1 ⟨⟨i_size, i_taken, i_vals, i_room, i_dicts, i_deep, i_open, i_cells, i_points, i_part, i_length, i_knows, i_page, i_text, i_pats, i_fuel, i_fr, i_ink⟩, klA_S1, (show ((0 : Int32).toInt = 0 ∨ (0 : Int32).toInt = 11) ∧ (f_frames S1).toInt ≤ (f_frames S).toInt by have := tI_0; omega)⟩ hP hD d_Mo_exit_61
        · have fc50_1 : i.toInt < (f_frames S1).toInt := Int.not_le.mp (zt_nle (show (f_frames S1).toInt = _ from rfl) (show i.toInt = _ from rfl) c50_1)
          refine lv_aload_n hx hb d_Mo_exit_53 rfl (lv_at hl 1 rfl) ?_
          refine jm_cv (w := (fun u => u)) hK hP hD hS hA (va_runV (As := []) (rest := []) F (m_leave l D T h0 ar S1  H.size ⟨i_size, i_taken, i_vals, i_room, i_dicts, i_deep, i_open, i_cells, i_points, i_part, i_length, i_knows, i_page, i_text, i_pats, i_fuel, i_fr, i_ink⟩ (show 0 < (f_frames S1).toInt by omega)) (j_cV (k := 0) (C := "PageScribeModel") hts k_8_75 k_1_12 k_8_72 k_8_74 k_0_133 (by decide +kernel) ⟨Nat.le_of_ble_eq_true rfl, Nat.le_of_ble_eq_true rfl⟩) (jm_pre hK hP hD) rfl rfl hl.1 rfl (lv_room (Nat.le_of_ble_eq_true rfl)) d_Mo_exit_54 ⟨Nat.le_of_ble_eq_true rfl, Nat.le_of_ble_eq_true rfl⟩) (fun S2 H locs hw1 hP hD hS => ?_)
          have hP : va_P D classes (mW T h0 ar S2) H := hP
          have hD : va_D A (mW T h0 ar S2) := hD
          obtain ⟨⟨i_size, i_taken, i_vals, i_room, i_dicts, i_deep, i_open, i_cells, i_points, i_part, i_length, i_knows, i_page, i_text, i_pats, i_fuel, i_fr, i_ink⟩, kpA_S2, qqhw1⟩ := hw1
          have kSA_S2 : kA S S2 := kA_t (show kA S S1 from klA_S1) kpA_S2
          have kST_S2 : kT S S2 := kT_t (show kT S S1 from (kT_A klA_S1)) (kT_A kpA_S2)
          have qhw1 : (f_frames S2).toInt = (f_frames S1).toInt - 1 ∧ (a_what S2) = (a_what S1) ∧ (f_size S2) = (f_size S1) ∧ (a_kinds S2) = (a_kinds S1) ∧ (a_codes S2) = (a_codes S1) := qqhw1
          refine lv_goto (tgt := 45) hx hb d_Mo_exit_57 (by decide) ?_
          exact ih2 (k2 - 1) S2 _ _ _ (by omega) ⟨(show (f_frames S2).toInt ≤ i.toInt + (((k2 - 1) : Nat) : Int) ∧ (f_frames S2).toInt ≤ (f_frames S).toInt ∧ 0 ≤ i.toInt by omega), ⟨i_size, i_taken, i_vals, i_room, i_dicts, i_deep, i_open, i_cells, i_points, i_part, i_length, i_knows, i_page, i_text, i_pats, i_fuel, i_fr, i_ink⟩, (show kA S S2 from kSA_S2), hP, hD, hS, lv_sub hl [0, 1] rfl⟩
      · have fc39_1 : x2.toInt = 7 := zt_eq (show x2.toInt = _ from rfl) tI_7 c39_1
        refine lv_bipush (v := 11) hx hb d_Mo_exit_42 (by decide) ?_
        exact j_iret F hr hlocks hK hS S ⟨⟨i_size, i_taken, i_vals, i_room, i_dicts, i_deep, i_open, i_cells, i_points, i_part, i_length, i_knows, i_page, i_text, i_pats, i_fuel, i_fr, i_ink⟩, (kA_r S), (show ((11 : Int32).toInt = 0 ∨ (11 : Int32).toInt = 11) ∧ (f_frames S).toInt ≤ (f_frames S).toInt by have := tI_11; omega)⟩ hP hD d_Mo_exit_44
  · have fc8_1 : 0 ≤ i.toInt := Int.not_lt.mp (zt_nlt (show i.toInt = _ from rfl) tI_0 c8_1)
    refine lv_aload_n hx hb d_Mo_exit_11 rfl (lv_at hl 1 rfl) ?_
    refine va_get (D := D) (ci := 11) (v := .ref (ar 9)) (C := "PageScribeModel") (T := F_Mo) (N := 45) hx hb hts i_Mo hown hK hP 0 mW_0 cl_11 17 (by decide) (hts _ k_6_177) (fun _ h9 => h9) (mg_what _ _) d_Mo_exit_12 ?_
    refine lv_iload_n hx hb d_Mo_exit_15 rfl (lv_at hl 0 rfl) ?_
    refine va_iald hx hb hK hP 10 0 (ma_what _ _ _ _) rfl (zt_in (show i.toInt = _ from rfl) (by omega) (by omega)) d_Mo_exit_16 ?_
    refine lv_topi (fun x3 ex3 => ?_)
    have gx3 : x3 = (a_what S) i.toInt.toNat := ex3.trans (congrArg _ (zt_ix (show i.toInt = _ from rfl)))
    have fx3 : x3.toInt = ((a_what S) i.toInt.toNat).toInt := by rw [gx3]
    refine lv_iconst (v := 3) hx hb d_Mo_exit_17 (by decide) ?_
    refine lv_icmp_ge (tgt := 27) hx hb d_Mo_exit_18 (by decide) (fun c18_1 => ?_) (fun c18_1 => ?_)
    · have fc18_1 : 3 ≤ x3.toInt := zt_le tI_3 (show x3.toInt = _ from rfl) c18_1
      refine lv_iload_n hx hb d_Mo_exit_27 rfl (lv_at hl 0 rfl) ?_
      refine lv_if_lt (tgt := 42) hx hb d_Mo_exit_28 (by decide) (fun c28_2 => ?_) (fun c28_2 => ?_)
      · have fc28_2 : i.toInt < 0 := zt_lt (show i.toInt = _ from rfl) tI_0 c28_2
        refine lv_bipush (v := 11) hx hb d_Mo_exit_42 (by decide) ?_
        exact j_iret F hr hlocks hK hS S ⟨⟨i_size, i_taken, i_vals, i_room, i_dicts, i_deep, i_open, i_cells, i_points, i_part, i_length, i_knows, i_page, i_text, i_pats, i_fuel, i_fr, i_ink⟩, (kA_r S), (show ((11 : Int32).toInt = 0 ∨ (11 : Int32).toInt = 11) ∧ (f_frames S).toInt ≤ (f_frames S).toInt by have := tI_11; omega)⟩ hP hD d_Mo_exit_44
      · have fc28_2 : 0 ≤ i.toInt := Int.not_lt.mp (zt_nlt (show i.toInt = _ from rfl) tI_0 c28_2)
        refine lv_aload_n hx hb d_Mo_exit_31 rfl (lv_at hl 1 rfl) ?_
        refine va_get (D := D) (ci := 11) (v := .ref (ar 9)) (C := "PageScribeModel") (T := F_Mo) (N := 45) hx hb hts i_Mo hown hK hP 0 mW_0 cl_11 17 (by decide) (hts _ k_6_177) (fun _ h9 => h9) (mg_what _ _) d_Mo_exit_32 ?_
        refine lv_iload_n hx hb d_Mo_exit_35 rfl (lv_at hl 0 rfl) ?_
        refine va_iald hx hb hK hP 10 0 (ma_what _ _ _ _) rfl (zt_in (show i.toInt = _ from rfl) (by omega) (by omega)) d_Mo_exit_36 ?_
        refine j_eqi (y := x3) ex3.symm ?_
        refine lv_bipush (v := 7) hx hb d_Mo_exit_37 (by decide) ?_
        refine lv_icmp_ne (tgt := 45) hx hb d_Mo_exit_39 (by decide) (fun c39_2 => ?_) (fun c39_2 => ?_)
        · first | have fc39_2 : x3.toInt < 7 := (by have := zt_ne (show x3.toInt = _ from rfl) tI_7 c39_2; omega) | have fc39_2 : 7 < x3.toInt := (by have := zt_ne (show x3.toInt = _ from rfl) tI_7 c39_2; omega) | skip
          refine j_loop (α := MS) (fun k x H locs ls => ((f_frames x).toInt ≤ i.toInt + ((k : Nat) : Int) ∧ (f_frames x).toInt ≤ (f_frames S).toInt ∧ 0 ≤ i.toInt) ∧ MI x ∧ kA S x ∧ va_P D classes (mW T h0 ar x) H ∧ va_D A (mW T h0 ar x) ∧ va_S A s.heap H locs ∧ lv_has ls 2 [(1, .int i), (0, .ref h0)]) (fun _ _ ls => F0 m 45 ls []) (fun k2 x H locs ls hI9 ih2 => ?_) 17 S _ _ _ ⟨(show (f_frames S).toInt ≤ i.toInt + ((17 : Nat) : Int) ∧ (f_frames S).toInt ≤ (f_frames S).toInt ∧ 0 ≤ i.toInt by omega), ⟨i_size, i_taken, i_vals, i_room, i_dicts, i_deep, i_open, i_cells, i_points, i_part, i_length, i_knows, i_page, i_text, i_pats, i_fuel, i_fr, i_ink⟩, (show kA S S from (kA_r S)), hP, hD, hS, lv_sub hl [0, 1] rfl⟩
          obtain ⟨S3, rfl⟩ : ∃ z, z = x := ⟨_, rfl⟩
          obtain ⟨hf3, hIx, klA_S3, hP, hD, hS, hl⟩ := hI9
          obtain ⟨i_size, i_taken, i_vals, i_room, i_dicts, i_deep, i_open, i_cells, i_points, i_part, i_length, i_knows, i_page, i_text, i_pats, i_fuel, i_fr, i_ink⟩ := (show MI S3 from hIx)
          have klA_S3 : kA S S3 := klA_S3
          have hf3 : (f_frames S3).toInt ≤ i.toInt + ((k2 : Nat) : Int) ∧ (f_frames S3).toInt ≤ (f_frames S).toInt ∧ 0 ≤ i.toInt := hf3
          have hP : va_P D classes (mW T h0 ar S3) H := hP
          have hD : va_D A (mW T h0 ar S3) := hD
          have hl : lv_has ls 2 [(1, .int i), (0, .ref h0)] := hl
          refine lv_aload_n hx hb d_Mo_exit_45 rfl (lv_at hl 1 rfl) ?_
          refine va_get (D := D) (ci := 11) (v := .int (f_frames S3)) (C := "PageScribeModel") (T := F_Mo) (N := 45) hx hb hts i_Mo hown hK hP 0 mW_0 cl_11 15 (by decide) (hts _ k_6_175) (fun _ h9 => h9) (mg_frames _ _) d_Mo_exit_46 ?_
          refine lv_iload_n hx hb d_Mo_exit_49 rfl (lv_at hl 0 rfl) ?_
          refine lv_icmp_le (tgt := 60) hx hb d_Mo_exit_50 (by decide) (fun c50_2 => ?_) (fun c50_2 => ?_)
          · have fc50_2 : (f_frames S3).toInt ≤ i.toInt := zt_le (show (f_frames S3).toInt = _ from rfl) (show i.toInt = _ from rfl) c50_2
            refine lv_iconst (v := 0) hx hb d_Mo_exit_60 (by decide) ?_
            exact j_iret F hr hlocks hK hS S3 ⟨⟨i_size, i_taken, i_vals, i_room, i_dicts, i_deep, i_open, i_cells, i_points, i_part, i_length, i_knows, i_page, i_text, i_pats, i_fuel, i_fr, i_ink⟩, klA_S3, (show ((0 : Int32).toInt = 0 ∨ (0 : Int32).toInt = 11) ∧ (f_frames S3).toInt ≤ (f_frames S).toInt by have := tI_0; omega)⟩ hP hD d_Mo_exit_61
          · have fc50_2 : i.toInt < (f_frames S3).toInt := Int.not_le.mp (zt_nle (show (f_frames S3).toInt = _ from rfl) (show i.toInt = _ from rfl) c50_2)
            refine lv_aload_n hx hb d_Mo_exit_53 rfl (lv_at hl 1 rfl) ?_
            refine jm_cv (w := (fun u => u)) hK hP hD hS hA (va_runV (As := []) (rest := []) F (m_leave l D T h0 ar S3  H.size ⟨i_size, i_taken, i_vals, i_room, i_dicts, i_deep, i_open, i_cells, i_points, i_part, i_length, i_knows, i_page, i_text, i_pats, i_fuel, i_fr, i_ink⟩ (show 0 < (f_frames S3).toInt by omega)) (j_cV (k := 0) (C := "PageScribeModel") hts k_8_75 k_1_12 k_8_72 k_8_74 k_0_133 (by decide +kernel) ⟨Nat.le_of_ble_eq_true rfl, Nat.le_of_ble_eq_true rfl⟩) (jm_pre hK hP hD) rfl rfl hl.1 rfl (lv_room (Nat.le_of_ble_eq_true rfl)) d_Mo_exit_54 ⟨Nat.le_of_ble_eq_true rfl, Nat.le_of_ble_eq_true rfl⟩) (fun S4 H locs hw2 hP hD hS => ?_)
            have hP : va_P D classes (mW T h0 ar S4) H := hP
            have hD : va_D A (mW T h0 ar S4) := hD
            obtain ⟨⟨i_size, i_taken, i_vals, i_room, i_dicts, i_deep, i_open, i_cells, i_points, i_part, i_length, i_knows, i_page, i_text, i_pats, i_fuel, i_fr, i_ink⟩, kpA_S4, qqhw2⟩ := hw2
            have kSA_S4 : kA S S4 := kA_t (show kA S S3 from klA_S3) kpA_S4
            have kST_S4 : kT S S4 := kT_t (show kT S S3 from (kT_A klA_S3)) (kT_A kpA_S4)
            have qhw2 : (f_frames S4).toInt = (f_frames S3).toInt - 1 ∧ (a_what S4) = (a_what S3) ∧ (f_size S4) = (f_size S3) ∧ (a_kinds S4) = (a_kinds S3) ∧ (a_codes S4) = (a_codes S3) := qqhw2
            refine lv_goto (tgt := 45) hx hb d_Mo_exit_57 (by decide) ?_
            exact ih2 (k2 - 1) S4 _ _ _ (by omega) ⟨(show (f_frames S4).toInt ≤ i.toInt + (((k2 - 1) : Nat) : Int) ∧ (f_frames S4).toInt ≤ (f_frames S).toInt ∧ 0 ≤ i.toInt by omega), ⟨i_size, i_taken, i_vals, i_room, i_dicts, i_deep, i_open, i_cells, i_points, i_part, i_length, i_knows, i_page, i_text, i_pats, i_fuel, i_fr, i_ink⟩, (show kA S S4 from kSA_S4), hP, hD, hS, lv_sub hl [0, 1] rfl⟩
        · have fc39_2 : x3.toInt = 7 := zt_eq (show x3.toInt = _ from rfl) tI_7 c39_2
          refine lv_bipush (v := 11) hx hb d_Mo_exit_42 (by decide) ?_
          exact j_iret F hr hlocks hK hS S ⟨⟨i_size, i_taken, i_vals, i_room, i_dicts, i_deep, i_open, i_cells, i_points, i_part, i_length, i_knows, i_page, i_text, i_pats, i_fuel, i_fr, i_ink⟩, (kA_r S), (show ((11 : Int32).toInt = 0 ∨ (11 : Int32).toInt = 11) ∧ (f_frames S).toInt ≤ (f_frames S).toInt by have := tI_11; omega)⟩ hP hD d_Mo_exit_44
    · have fc18_1 : x3.toInt < 3 := Int.not_le.mp (zt_nle tI_3 (show x3.toInt = _ from rfl) c18_1)
      refine lv_iinc (v := (i + (-1))) (lv' := [(1, .int (i + (-1))), (0, .ref h0)]) hx hb d_Mo_exit_21 hl (k := 0) rfl (by first | rfl | decide) (by decide) rfl (fun ls hl => ?_)
      obtain ⟨x4, ex4⟩ : ∃ z, z = (i + (-1)) := ⟨_, rfl⟩
      rw [← ex4] at hl
      have fx4 : x4.toInt = (i.toInt - 1) := by rw [ex4]; exact (zt_add (show i.toInt = _ from rfl) tI_m1 (by omega) (by omega)).trans (by omega)
      have hl : lv_has ls 2 [(1, .int x4), (0, .ref h0)] := hl
      refine lv_goto (tgt := 7) hx hb d_Mo_exit_24 (by decide) ?_
      exact ih (k - 1) x4 _ _ _ (by omega) ⟨(show -1 ≤ x4.toInt ∧ x4.toInt ≤ (f_frames S).toInt - 1 ∧ x4.toInt + 1 ≤ (((k - 1) : Nat) : Int) by omega), hP, hD, hS, lv_sub hl [0, 1] rfl⟩
