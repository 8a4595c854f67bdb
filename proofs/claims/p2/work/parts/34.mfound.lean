theorem d_Mo_found_0 : decode prog_15_method_33_code 0 = .ok (.aload_n 0, 1) := by decide +kernel
theorem k_6_170 : Cond.fieldLink "PageScribeModel" 33 "PageScribeModel" "deep" "I" ∈ gw := gw_of (tb_6 (List.mem_of_getElem? (i := 170) (by decide +kernel))) (by decide +kernel)
theorem d_Mo_found_1 : decode prog_15_method_33_code 1 = .ok (.getfield 33, 3) := by decide +kernel
theorem d_Mo_found_4 : decode prog_15_method_33_code 4 = .ok (.iconst 1, 1) := by decide +kernel
theorem d_Mo_found_5 : decode prog_15_method_33_code 5 = .ok (.isub, 1) := by decide +kernel
theorem d_Mo_found_6 : decode prog_15_method_33_code 6 = .ok (.istore_n 3, 1) := by decide +kernel
theorem d_Mo_found_7 : decode prog_15_method_33_code 7 = .ok (.iload_n 3, 1) := by decide +kernel
theorem d_Mo_found_8 : decode prog_15_method_33_code 8 = .ok (.ifCond .lt 31, 3) := by decide +kernel
theorem d_Mo_found_39 : decode prog_15_method_33_code 39 = .ok (.iconst (-1), 1) := by decide +kernel
theorem d_Mo_found_40 : decode prog_15_method_33_code 40 = .ok (.ireturn, 1) := by decide +kernel
theorem d_Mo_found_11 : decode prog_15_method_33_code 11 = .ok (.aload_n 0, 1) := by decide +kernel
theorem d_Mo_found_12 : decode prog_15_method_33_code 12 = .ok (.aload_n 0, 1) := by decide +kernel
theorem k_6_169 : Cond.fieldLink "PageScribeModel" 30 "PageScribeModel" "dicts" "[I" ∈ gw := gw_of (tb_6 (List.mem_of_getElem? (i := 169) (by decide +kernel))) (by decide +kernel)
theorem d_Mo_found_13 : decode prog_15_method_33_code 13 = .ok (.getfield 30, 3) := by decide +kernel
theorem d_Mo_found_16 : decode prog_15_method_33_code 16 = .ok (.iload_n 3, 1) := by decide +kernel
theorem d_Mo_found_17 : decode prog_15_method_33_code 17 = .ok (.iaload, 1) := by decide +kernel
theorem d_Mo_found_18 : decode prog_15_method_33_code 18 = .ok (.lload_n 1, 1) := by decide +kernel
theorem d_Mo_found_19 : decode prog_15_method_33_code 19 = .ok (.invokevirtual 362, 3) := by decide +kernel
theorem d_Mo_found_22 : decode prog_15_method_33_code 22 = .ok (.istore 4, 2) := by decide +kernel
theorem d_Mo_found_24 : decode prog_15_method_33_code 24 = .ok (.iload 4, 2) := by decide +kernel
theorem d_Mo_found_26 : decode prog_15_method_33_code 26 = .ok (.iconst (-1), 1) := by decide +kernel
theorem d_Mo_found_27 : decode prog_15_method_33_code 27 = .ok (.if_icmp .eq 6, 3) := by decide +kernel
theorem d_Mo_found_33 : decode prog_15_method_33_code 33 = .ok (.iinc 3 (-1), 3) := by decide +kernel
theorem d_Mo_found_36 : decode prog_15_method_33_code 36 = .ok (.goto (-29), 3) := by decide +kernel
theorem d_Mo_found_30 : decode prog_15_method_33_code 30 = .ok (.iload 4, 2) := by decide +kernel
theorem d_Mo_found_32 : decode prog_15_method_33_code 32 = .ok (.ireturn, 1) := by decide +kernel
set_option maxHeartbeats 4000000 in
set_option maxRecDepth 100000 in
theorem m_found (l : Launch) (D : va_G) (T : Nat → ClassId) (h0 : Nat) (ar : Nat → Nat) (S : MS) (v0 : Int64) (sz : Nat) (hI : MI S) : Met l ⟨"PageScribeModel", "found", "(J)I"⟩ (wy ⟨"PageScribeModel", "found", "(J)I"⟩ prog_15_method_33_code 5 (some .int)) ({ frames := 2, cells := 0, slots := 0, locals := 140 }) (va_Pc [.ref h0, .long v0] (Pw D T (mW T h0 ar S) sz E0)) (va_Qi (fun (r : Int32) (u : Unit) => r.toInt = -1 ∨ (250 ≤ r.toInt ∧ r.toInt ≤ 329)) (fun u t => Bw D T (va_A (mW T h0 ar S) sz) (mW T h0 ar S) t) (va_A (mW T h0 ar S) sz)) 0 0 (va_A (mW T h0 ar S) sz) := by
  refine j_met (y := ⟨"PageScribeModel", "found", "(J)I"⟩) (b := prog_15_method_33_code) (n := 5) (ret := (some .int)) (av := [.ref h0, .long v0]) (Qc := fun A => va_Qi (fun (r : Int32) (u : Unit) => r.toInt = -1 ∨ (250 ≤ r.toInt ∧ r.toInt ≤ 329)) (fun u t => Bw D T A (mW T h0 ar S) t) A) (by decide +kernel) (Nat.le_of_ble_eq_true rfl) (fun p e s m args below meth c A ls F hr hlocks hnm hK hP hD hS hA hN hE hl => ?_)
  obtain ⟨hx, hb, hml, hown, hts⟩ := id F
  have hl : lv_has ls 5 [(0, .ref h0), (1, .long v0)] := hl
  obtain ⟨i_size, i_taken, i_vals, i_room, i_dicts, i_deep, i_open, i_cells, i_points, i_part, i_length, i_knows, i_page, i_text, i_pats, i_fuel, i_fr, i_ink⟩ := id hI
  refine lv_aload_n hx hb d_Mo_found_0 rfl (lv_at hl 0 rfl) ?_
  refine va_get (D := D) (ci := 11) (v := .int (f_deep S)) (C := "PageScribeModel") (T := F_Mo) (N := 45) hx hb hts i_Mo hown hK hP 0 mW_0 cl_11 10 (by decide) (hts _ k_6_170) (fun _ h9 => h9) (mg_deep _ _) d_Mo_found_1 ?_
  refine lv_iconst (v := 1) hx hb d_Mo_found_4 (by decide) ?_
  refine lv_isub hx hb d_Mo_found_5 ?_
  refine lv_topi (fun x1 ex1 => ?_)
  have fx1 : x1.toInt = ((f_deep S).toInt - 1) := by rw [ex1]; exact (zt_sub (show (f_deep S).toInt = _ from rfl) tI_1 (by omega) (by omega)).trans (by omega)
  refine lv_istore_n (lv' := [(3, .int x1), (0, .ref h0), (1, .long v0)]) hx hb d_Mo_found_6 rfl hl (by decide) rfl (fun ls hl => ?_)
  refine j_loop (α := Int32) (fun k x H locs ls => (-1 ≤ x.toInt ∧ x.toInt ≤ 5 ∧ x.toInt + 1 ≤ ((k : Nat) : Int)) ∧ va_P D classes (mW T h0 ar S) H ∧ va_D A (mW T h0 ar S) ∧ va_S A s.heap H locs ∧ lv_has ls 5 [(3, .int x), (0, .ref h0), (1, .long v0)]) (fun _ _ ls => F0 m 7 ls []) (fun k x H locs ls hI9 ih => ?_) 6 x1 _ _ _ ⟨(show -1 ≤ x1.toInt ∧ x1.toInt ≤ 5 ∧ x1.toInt + 1 ≤ ((6 : Nat) : Int) by omega), hP, hD, hS, lv_sub hl [0, 1, 2] rfl⟩
  obtain ⟨d, rfl⟩ : ∃ z, z = x := ⟨_, rfl⟩
  obtain ⟨hf1, hP, hD, hS, hl⟩ := hI9
  have hf1 : -1 ≤ d.toInt ∧ d.toInt ≤ 5 ∧ d.toInt + 1 ≤ ((k : Nat) : Int) := hf1
  have hP : va_P D classes (mW T h0 ar S) H := hP
  have hD : va_D A (mW T h0 ar S) := hD
  have hl : lv_has ls 5 [(3, .int d), (0, .ref h0), (1, .long v0)] := hl
  refine lv_iload_n hx hb d_Mo_found_7 rfl (lv_at hl 0 rfl) ?_
  refine lv_if_lt (tgt := 39) hx hb d_Mo_found_8 (by decide) (fun c8_1 => ?_) (fun c8_1 => ?_)
  · have fc8_1 : d.toInt < 0 := zt_lt (show d.toInt = _ from rfl) tI_0 c8_1
    refine lv_iconst (v := (-1)) hx hb d_Mo_found_39 (by decide) ?_
    exact j_iret F hr hlocks hK hS () (show (-1 : Int32).toInt = -1 ∨ (250 ≤ (-1 : Int32).toInt ∧ (-1 : Int32).toInt ≤ 329) by have := tI_m1; omega) hP hD d_Mo_found_40
  · have fc8_1 : 0 ≤ d.toInt := Int.not_lt.mp (zt_nlt (show d.toInt = _ from rfl) tI_0 c8_1)
    refine lv_aload_n hx hb d_Mo_found_11 rfl (lv_at hl 1 rfl) ?_
    refine lv_aload_n hx hb d_Mo_found_12 rfl (lv_at hl 1 rfl) ?_
    refine va_get (D := D) (ci := 11) (v := .ref (ar 6)) (C := "PageScribeModel") (T := F_Mo) (N := 45) hx hb hts i_Mo hown hK hP 0 mW_0 cl_11 9 (by decide) (hts _ k_6_169) (fun _ h9 => h9) (mg_dicts _ _) d_Mo_found_13 ?_
    refine lv_iload_n hx hb d_Mo_found_16 rfl (lv_at hl 0 rfl) ?_
    refine va_iald hx hb hK hP 7 0 (ma_dicts _ _ _ _) rfl (zt_in (show d.toInt = _ from rfl) (by omega) (by omega)) d_Mo_found_17 ?_
    refine lv_topi (fun x2 ex2 => ?_)
    have gx2 : x2 = (a_dicts S) d.toInt.toNat := ex2.trans (congrArg _ (zt_ix (show d.toInt = _ from rfl)))
    have fx2 : x2.toInt = ((a_dicts S) d.toInt.toNat).toInt := by rw [gx2]
    have kx2 := i_dicts (d.toInt.toNat) (by omega)
    refine lv_lload_n hx hb d_Mo_found_18 rfl (lv_at hl 2 rfl) ?_
    refine jm_ci (w := (fun _ => S)) hK hP hD hS hA (va_runV (As := [.int x2, .long v0]) (rest := []) F (m_entry l D T h0 ar S x2 v0 H.size ⟨i_size, i_taken, i_vals, i_room, i_dicts, i_deep, i_open, i_cells, i_points, i_part, i_length, i_knows, i_page, i_text, i_pats, i_fuel, i_fr, i_ink⟩ (show 0 ≤ x2.toInt ∧ x2.toInt ≤ 6 by omega)) (j_cV (k := 2) (C := "PageScribeModel") hts k_7_147 k_1_12 k_7_144 k_7_146 k_0_96 (by decide +kernel) ⟨Nat.le_of_ble_eq_true rfl, Nat.le_of_ble_eq_true rfl⟩) (jm_pre hK hP hD) rfl rfl hl.1 rfl (lv_room (Nat.le_of_ble_eq_true rfl)) d_Mo_found_19 ⟨Nat.le_of_ble_eq_true rfl, Nat.le_of_ble_eq_true rfl⟩) (fun rv1 u1 H locs hw1 hP hD hS => ?_)
    have hP : va_P D classes (mW T h0 ar S) H := hP
    have hD : va_D A (mW T h0 ar S) := hD
    have qhw1 : rv1.toInt = -1 ∨ (250 ≤ rv1.toInt ∧ rv1.toInt ≤ 329) := hw1
    refine lv_istore (lv' := [(4, .int rv1), (3, .int d), (0, .ref h0), (1, .long v0)]) hx hb d_Mo_found_22 hl (by decide) rfl (fun ls hl => ?_)
    refine lv_iload hx hb d_Mo_found_24 (lv_at hl 0 rfl) ?_
    refine lv_iconst (v := (-1)) hx hb d_Mo_found_26 (by decide) ?_
    refine lv_icmp_eq (tgt := 33) hx hb d_Mo_found_27 (by decide) (fun c27_1 => ?_) (fun c27_1 => ?_)
    · have fc27_1 : rv1.toInt = (-1) := zt_eq (show rv1.toInt = _ from rfl) tI_m1 c27_1
      refine lv_iinc (v := (d + (-1))) (lv' := [(3, .int (d + (-1))), (4, .int rv1), (0, .ref h0), (1, .long v0)]) hx hb d_Mo_found_33 hl (k := 1) rfl (by first | rfl | decide) (by decide) rfl (fun ls hl => ?_)
      obtain ⟨x3, ex3⟩ : ∃ z, z = (d + (-1)) := ⟨_, rfl⟩
      rw [← ex3] at hl
      have fx3 : x3.toInt = (d.toInt - 1) := by rw [ex3]; exact (zt_add (show d.toInt = _ from rfl) tI_m1 (by omega) (by omega)).trans (by omega)
      have hl : lv_has ls 5 [(3, .int x3), (4, .int rv1), (0, .ref h0), (1, .long v0)] := hl
      refine lv_goto (tgt := 7) hx hb d_Mo_found_36 (by decide) ?_
      exact ih (k - 1) x3 _ _ _ (by omega) ⟨(show -1 ≤ x3.toInt ∧ x3.toInt ≤ 5 ∧ x3.toInt + 1 ≤ (((k - 1) : Nat) : Int) by omega), hP, hD, hS, lv_sub hl [0, 2, 3] rfl⟩
    · first | have fc27_1 : rv1.toInt < (-1) := (by have := zt_ne (show rv1.toInt = _ from rfl) tI_m1 c27_1; omega) | have fc27_1 : (-1) < rv1.toInt := (by have := zt_ne (show rv1.toInt = _ from rfl) tI_m1 c27_1; omega) | skip
      refine lv_iload hx hb d_Mo_found_30 (lv_at hl 0 rfl) ?_
      exact j_iret F hr hlocks hK hS () (show rv1.toInt = -1 ∨ (250 ≤ rv1.toInt ∧ rv1.toInt ≤ 329) by omega) hP hD d_Mo_found_32
