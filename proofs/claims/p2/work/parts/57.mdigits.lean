theorem d_Mo_digits_0 : decode prog_15_method_19_code 0 = .ok (.iconst 0, 1) := by decide +kernel
theorem d_Mo_digits_1 : decode prog_15_method_19_code 1 = .ok (.istore_n 2, 1) := by decide +kernel
theorem d_Mo_digits_2 : decode prog_15_method_19_code 2 = .ok (.iload_n 1, 1) := by decide +kernel
theorem d_Mo_digits_3 : decode prog_15_method_19_code 3 = .ok (.iload_n 2, 1) := by decide +kernel
theorem d_Mo_digits_4 : decode prog_15_method_19_code 4 = .ok (.iadd, 1) := by decide +kernel
theorem d_Mo_digits_5 : decode prog_15_method_19_code 5 = .ok (.aload_n 0, 1) := by decide +kernel
theorem d_Mo_digits_6 : decode prog_15_method_19_code 6 = .ok (.getfield 270, 3) := by decide +kernel
theorem d_Mo_digits_9 : decode prog_15_method_19_code 9 = .ok (.if_icmp .ge 23, 3) := by decide +kernel
theorem d_Mo_digits_32 : decode prog_15_method_19_code 32 = .ok (.iload_n 2, 1) := by decide +kernel
theorem d_Mo_digits_33 : decode prog_15_method_19_code 33 = .ok (.ireturn, 1) := by decide +kernel
theorem d_Mo_digits_12 : decode prog_15_method_19_code 12 = .ok (.aload_n 0, 1) := by decide +kernel
theorem d_Mo_digits_13 : decode prog_15_method_19_code 13 = .ok (.getfield 61, 3) := by decide +kernel
theorem d_Mo_digits_16 : decode prog_15_method_19_code 16 = .ok (.iload_n 1, 1) := by decide +kernel
theorem d_Mo_digits_17 : decode prog_15_method_19_code 17 = .ok (.iload_n 2, 1) := by decide +kernel
theorem d_Mo_digits_18 : decode prog_15_method_19_code 18 = .ok (.iadd, 1) := by decide +kernel
theorem d_Mo_digits_19 : decode prog_15_method_19_code 19 = .ok (.caload, 1) := by decide +kernel
theorem d_Mo_digits_20 : decode prog_15_method_19_code 20 = .ok (.invokestatic 273, 3) := by decide +kernel
theorem k_7_88 : Cond.code ⟨"PageScribeModel", "isDigit", "(C)Z"⟩ prog_15_method_16_code 1 (some .boolean) ∈ gw := gw_of (tb_7 (List.mem_of_getElem? (i := 88) (by decide +kernel))) (by decide +kernel)
theorem k_7_86 : Cond.methodLink "PageScribeModel" 273 ⟨"PageScribeModel", "isDigit", "(C)Z"⟩ ∈ gw := gw_of (tb_7 (List.mem_of_getElem? (i := 86) (by decide +kernel))) (by decide +kernel)
theorem k_7_87 : Cond.static ⟨"PageScribeModel", "isDigit", "(C)Z"⟩ ∈ gw := gw_of (tb_7 (List.mem_of_getElem? (i := 87) (by decide +kernel))) (by decide +kernel)
theorem d_Mo_digits_23 : decode prog_15_method_19_code 23 = .ok (.ifCond .eq 9, 3) := by decide +kernel
theorem d_Mo_digits_26 : decode prog_15_method_19_code 26 = .ok (.iinc 2 1, 3) := by decide +kernel
theorem d_Mo_digits_29 : decode prog_15_method_19_code 29 = .ok (.goto (-27), 3) := by decide +kernel
set_option maxHeartbeats 4000000 in
set_option maxRecDepth 100000 in
theorem m_digits (l : Launch) (D : va_G) (T : Nat → ClassId) (h0 : Nat) (ar : Nat → Nat) (S : MS) (p0 : Int32) (sz : Nat) (hI : MI S) (h1 : 0 ≤ p0.toInt ∧ p0.toInt ≤ 1000) : Met l ⟨"PageScribeModel", "digits", "(I)I"⟩ (wy ⟨"PageScribeModel", "digits", "(I)I"⟩ prog_15_method_19_code 3 (some .int)) ({ frames := 1, cells := 0, slots := 0, locals := 70 }) (va_Pc [.ref h0, .int p0] (Pw D T (mW T h0 ar S) sz E0)) (va_Qi (fun (r : Int32) (u : Unit) => 0 ≤ r.toInt ∧ r.toInt ≤ 120 ∧ (r.toInt = 0 ∨ p0.toInt + r.toInt ≤ (f_length S).toInt) ∧ digP (a_text S) p0.toInt.toNat r.toInt.toNat) (fun u t => Bw D T (va_A (mW T h0 ar S) sz) (mW T h0 ar S) t) (va_A (mW T h0 ar S) sz)) 0 0 (va_A (mW T h0 ar S) sz) := by
  refine j_met (y := ⟨"PageScribeModel", "digits", "(I)I"⟩) (b := prog_15_method_19_code) (n := 3) (ret := (some .int)) (av := [.ref h0, .int p0]) (Qc := fun A => va_Qi (fun (r : Int32) (u : Unit) => 0 ≤ r.toInt ∧ r.toInt ≤ 120 ∧ (r.toInt = 0 ∨ p0.toInt + r.toInt ≤ (f_length S).toInt) ∧ digP (a_text S) p0.toInt.toNat r.toInt.toNat) (fun u t => Bw D T A (mW T h0 ar S) t) A) (by decide +kernel) (Nat.le_of_ble_eq_true rfl) (fun p e s m args below meth c A ls F hr hlocks hnm hK hP hD hS hA hN hE hl => ?_)
  obtain ⟨hx, hb, hml, hown, hts⟩ := id F
  have hl : lv_has ls 3 [(0, .ref h0), (1, .int p0)] := hl
  obtain ⟨i_size, i_taken, i_vals, i_room, i_dicts, i_deep, i_open, i_cells, i_points, i_part, i_length, i_knows, i_page, i_text, i_pats, i_fuel, i_fr, i_ink⟩ := id hI
  refine lv_iconst (v := 0) hx hb d_Mo_digits_0 (by decide) ?_
  refine lv_istore_n (lv' := [(2, .int 0), (0, .ref h0), (1, .int p0)]) hx hb d_Mo_digits_1 rfl hl (by decide) rfl (fun ls hl => ?_)
  refine j_loop (α := Int32) (fun k x H locs ls => (0 ≤ x.toInt ∧ x.toInt ≤ 120 ∧ 120 ≤ x.toInt + ((k : Nat) : Int) ∧ (x.toInt = 0 ∨ p0.toInt + x.toInt ≤ (f_length S).toInt) ∧ digP (a_text S) p0.toInt.toNat x.toInt.toNat) ∧ va_P D classes (mW T h0 ar S) H ∧ va_D A (mW T h0 ar S) ∧ va_S A s.heap H locs ∧ lv_has ls 3 [(2, .int x), (0, .ref h0), (1, .int p0)]) (fun _ _ ls => F0 m 2 ls []) (fun k x H locs ls hI9 ih => ?_) 120 (0 : Int32) _ _ _ ⟨(show 0 ≤ (0 : Int32).toInt ∧ (0 : Int32).toInt ≤ 120 ∧ 120 ≤ (0 : Int32).toInt + ((120 : Nat) : Int) ∧ ((0 : Int32).toInt = 0 ∨ p0.toInt + (0 : Int32).toInt ≤ (f_length S).toInt) ∧ digP (a_text S) p0.toInt.toNat (0 : Int32).toInt.toNat by have := tI_0; first | exact ⟨by omega, by omega, by omega, by omega, dig_s hf1.2.2.2.2 (q := (n.toInt + p0.toInt).toNat) (by omega) (by omega) (by omega)⟩ | exact ⟨by omega, by omega, by omega, by omega, dig_0 (by omega)⟩), hP, hD, hS, lv_sub hl [0, 1, 2] rfl⟩
  obtain ⟨n, rfl⟩ : ∃ z, z = x := ⟨_, rfl⟩
  obtain ⟨hf1, hP, hD, hS, hl⟩ := hI9
  have hf1 : 0 ≤ n.toInt ∧ n.toInt ≤ 120 ∧ 120 ≤ n.toInt + ((k : Nat) : Int) ∧ (n.toInt = 0 ∨ p0.toInt + n.toInt ≤ (f_length S).toInt) ∧ digP (a_text S) p0.toInt.toNat n.toInt.toNat := hf1
  have hP : va_P D classes (mW T h0 ar S) H := hP
  have hD : va_D A (mW T h0 ar S) := hD
  have hl : lv_has ls 3 [(2, .int n), (0, .ref h0), (1, .int p0)] := hl
  refine lv_iload_n hx hb d_Mo_digits_2 rfl (lv_at hl 2 rfl) ?_
  refine lv_iload_n hx hb d_Mo_digits_3 rfl (lv_at hl 0 rfl) ?_
  refine lv_iadd hx hb d_Mo_digits_4 ?_
  refine lv_topi (fun x1 ex1 => ?_)
  have fx1 : x1.toInt = (n.toInt + p0.toInt) := by rw [ex1]; exact (zt_add (show p0.toInt = _ from rfl) (show n.toInt = _ from rfl) (by omega) (by omega)).trans (by omega)
  refine lv_aload_n hx hb d_Mo_digits_5 rfl (lv_at hl 1 rfl) ?_
  refine va_get (D := D) (ci := 11) (v := .int (f_length S)) (C := "PageScribeModel") (T := F_Mo) (N := 45) hx hb hts i_Mo hown hK hP 0 mW_0 cl_11 24 (by decide) (hts _ k_6_184) (fun _ h9 => h9) (mg_length _ _) d_Mo_digits_6 ?_
  refine lv_icmp_ge (tgt := 32) hx hb d_Mo_digits_9 (by decide) (fun c9_1 => ?_) (fun c9_1 => ?_)
  · have fc9_1 : (f_length S).toInt ≤ (n.toInt + p0.toInt) := zt_le (show (f_length S).toInt = _ from rfl) fx1 c9_1
    refine lv_iload_n hx hb d_Mo_digits_32 rfl (lv_at hl 0 rfl) ?_
    exact j_iret F hr hlocks hK hS () (show 0 ≤ n.toInt ∧ n.toInt ≤ 120 ∧ (n.toInt = 0 ∨ p0.toInt + n.toInt ≤ (f_length S).toInt) ∧ digP (a_text S) p0.toInt.toNat n.toInt.toNat by exact ⟨by omega, by omega, by omega, hf1.2.2.2.2⟩) hP hD d_Mo_digits_33
  · have fc9_1 : (n.toInt + p0.toInt) < (f_length S).toInt := Int.not_le.mp (zt_nle (show (f_length S).toInt = _ from rfl) fx1 c9_1)
    refine lv_aload_n hx hb d_Mo_digits_12 rfl (lv_at hl 1 rfl) ?_
    refine va_get (D := D) (ci := 11) (v := .ref (ar 15)) (C := "PageScribeModel") (T := F_Mo) (N := 45) hx hb hts i_Mo hown hK hP 0 mW_0 cl_11 23 (by decide) (hts _ k_6_183) (fun _ h9 => h9) (mg_text _ _) d_Mo_digits_13 ?_
    refine lv_iload_n hx hb d_Mo_digits_16 rfl (lv_at hl 2 rfl) ?_
    refine lv_iload_n hx hb d_Mo_digits_17 rfl (lv_at hl 0 rfl) ?_
    refine lv_iadd hx hb d_Mo_digits_18 ?_
    refine j_eqi (y := x1) ex1.symm ?_
    refine va_cald hx hb hK hP 16 2 (ma_text _ _ _ _) rfl (zt_in fx1 (by omega) (by omega)) d_Mo_digits_19 ?_
    refine lv_topi (fun x2 ex2 => ?_)
    have gx2 : x2 = (a_text S) (n.toInt + p0.toInt).toNat := ex2.trans (congrArg _ (zt_ix fx1))
    have fx2 : x2.toInt = ((a_text S) (n.toInt + p0.toInt).toNat).toInt := by rw [gx2]
    have kx2 := i_text ((n.toInt + p0.toInt).toNat) (by omega)
    refine j_ci (wc := []) (wr := (mW T h0 ar S)) hK hP hD hS hA [] isc rfl isc_all isc_nd (fun _ _ => List.not_mem_nil) (va_runS (As := [.int x2]) (rest := []) F (m_isDigit l D T x2 H.size) (j_cS (k := 1) hts k_7_88 k_1_12 k_7_86 k_7_87 (by decide +kernel) ⟨Nat.le_of_ble_eq_true rfl, Nat.le_of_ble_eq_true rfl⟩) (j_preS hK hP hD [] rfl (by decide) (fun _ _ _ _ h => h) (fun _ _ _ => trivial)) rfl rfl hl.1 rfl (lv_room (Nat.le_of_ble_eq_true rfl)) d_Mo_digits_20 ⟨Nat.le_of_ble_eq_true rfl, Nat.le_of_ble_eq_true rfl⟩) (fun rv1 u1 H locs hw1 hP hD hS => ?_)
    have hP : va_P D classes (mW T h0 ar S) H := hP
    have hD : va_D A (mW T h0 ar S) := hD
    have qhw1 : (rv1.toInt = 1 ∧ 48 ≤ x2.toInt ∧ x2.toInt ≤ 57) ∨ (rv1.toInt = 0 ∧ ¬ (48 ≤ x2.toInt ∧ x2.toInt ≤ 57)) := hw1
    refine lv_if_eq (tgt := 32) hx hb d_Mo_digits_23 (by decide) (fun c23_1 => ?_) (fun c23_1 => ?_)
    · have fc23_1 : rv1.toInt = 0 := zt_eq (show rv1.toInt = _ from rfl) tI_0 c23_1
      refine lv_iload_n hx hb d_Mo_digits_32 rfl (lv_at hl 0 rfl) ?_
      exact j_iret F hr hlocks hK hS () (show 0 ≤ n.toInt ∧ n.toInt ≤ 120 ∧ (n.toInt = 0 ∨ p0.toInt + n.toInt ≤ (f_length S).toInt) ∧ digP (a_text S) p0.toInt.toNat n.toInt.toNat by exact ⟨by omega, by omega, by omega, hf1.2.2.2.2⟩) hP hD d_Mo_digits_33
    · first | have fc23_1 : rv1.toInt < 0 := (by have := zt_ne (show rv1.toInt = _ from rfl) tI_0 c23_1; omega) | have fc23_1 : 0 < rv1.toInt := (by have := zt_ne (show rv1.toInt = _ from rfl) tI_0 c23_1; omega) | skip
      refine lv_iinc (v := (n + 1)) (lv' := [(2, .int (n + 1)), (0, .ref h0), (1, .int p0)]) hx hb d_Mo_digits_26 hl (k := 0) rfl (by first | rfl | decide) (by decide) rfl (fun ls hl => ?_)
      obtain ⟨x3, ex3⟩ : ∃ z, z = (n + 1) := ⟨_, rfl⟩
      rw [← ex3] at hl
      have fx3 : x3.toInt = (n.toInt + 1) := by rw [ex3]; exact (zt_add (show n.toInt = _ from rfl) tI_1 (by omega) (by omega)).trans (by omega)
      have hl : lv_has ls 3 [(2, .int x3), (0, .ref h0), (1, .int p0)] := hl
      refine lv_goto (tgt := 2) hx hb d_Mo_digits_29 (by decide) ?_
      exact ih (k - 1) x3 _ _ _ (by omega) ⟨(show 0 ≤ x3.toInt ∧ x3.toInt ≤ 120 ∧ 120 ≤ x3.toInt + (((k - 1) : Nat) : Int) ∧ (x3.toInt = 0 ∨ p0.toInt + x3.toInt ≤ (f_length S).toInt) ∧ digP (a_text S) p0.toInt.toNat x3.toInt.toNat by first | exact ⟨by omega, by omega, by omega, by omega, dig_s hf1.2.2.2.2 (q := (n.toInt + p0.toInt).toNat) (by omega) (by omega) (by omega)⟩ | exact ⟨by omega, by omega, by omega, by omega, dig_0 (by omega)⟩), hP, hD, hS, lv_sub hl [0, 1, 2] rfl⟩
set_option maxHeartbeats 4000000 in
set_option maxRecDepth 100000 in
theorem m_look2 (l : Launch) (D : va_G) (T : Nat → ClassId) (h0 : Nat) (ar : Nat → Nat) (S : MS) (p0 : Int32) (sz : Nat) (hI : MI S) (h1 : 0 ≤ p0.toInt) : Met l ⟨"PageScribeModel", "look", "(I)C"⟩ (wy ⟨"PageScribeModel", "look", "(I)C"⟩ prog_15_method_18_code 2 (some .char)) ({ frames := 0, cells := 0, slots := 0, locals := 0 }) (va_Pc [.ref h0, .int p0] (Pw D T (mW T h0 ar S) sz E0)) (va_Qi (fun (r : Int32) (u : Unit) => 0 ≤ r.toInt ∧ r.toInt ≤ 127 ∧ (r.toInt = 32 ∨ (p0.toInt < (f_length S).toInt ∧ r.toInt = ((a_text S) p0.toInt.toNat).toInt))) (fun u t => Bw D T (va_A (mW T h0 ar S) sz) (mW T h0 ar S) t) (va_A (mW T h0 ar S) sz)) 0 0 (va_A (mW T h0 ar S) sz) := by
  refine j_met (y := ⟨"PageScribeModel", "look", "(I)C"⟩) (b := prog_15_method_18_code) (n := 2) (ret := (some .char)) (av := [.ref h0, .int p0]) (Qc := fun A => va_Qi (fun (r : Int32) (u : Unit) => 0 ≤ r.toInt ∧ r.toInt ≤ 127 ∧ (r.toInt = 32 ∨ (p0.toInt < (f_length S).toInt ∧ r.toInt = ((a_text S) p0.toInt.toNat).toInt))) (fun u t => Bw D T A (mW T h0 ar S) t) A) (by decide +kernel) (Nat.le_of_ble_eq_true rfl) (fun p e s m args below meth c A ls F hr hlocks hnm hK hP hD hS hA hN hE hl => ?_)
  obtain ⟨hx, hb, hml, hown, hts⟩ := id F
  have hl : lv_has ls 2 [(0, .ref h0), (1, .int p0)] := hl
  obtain ⟨i_size, i_taken, i_vals, i_room, i_dicts, i_deep, i_open, i_cells, i_points, i_part, i_length, i_knows, i_page, i_text, i_pats, i_fuel, i_fr, i_ink⟩ := id hI
  refine lv_iload_n hx hb d_Mo_look_0 rfl (lv_at hl 1 rfl) ?_
  refine lv_aload_n hx hb d_Mo_look_1 rfl (lv_at hl 0 rfl) ?_
  refine va_get (D := D) (ci := 11) (v := .int (f_length S)) (C := "PageScribeModel") (T := F_Mo) (N := 45) hx hb hts i_Mo hown hK hP 0 mW_0 cl_11 24 (by decide) (hts _ k_6_184) (fun _ h9 => h9) (mg_length _ _) d_Mo_look_2 ?_
  refine lv_icmp_ge (tgt := 17) hx hb d_Mo_look_5 (by decide) (fun c5_1 => ?_) (fun c5_1 => ?_)
  · have fc5_1 : (f_length S).toInt ≤ p0.toInt := zt_le (show (f_length S).toInt = _ from rfl) (show p0.toInt = _ from rfl) c5_1
    refine lv_bipush (v := 32) hx hb d_Mo_look_17 (by decide) ?_
    exact j_zret F hr (by decide +kernel) hlocks hK hS () (show 0 ≤ (32 : Int32).toInt ∧ (32 : Int32).toInt ≤ 127 ∧ ((32 : Int32).toInt = 32 ∨ (p0.toInt < (f_length S).toInt ∧ (32 : Int32).toInt = ((a_text S) p0.toInt.toNat).toInt)) by have := tI_32; omega) hP hD d_Mo_look_19
  · have fc5_1 : p0.toInt < (f_length S).toInt := Int.not_le.mp (zt_nle (show (f_length S).toInt = _ from rfl) (show p0.toInt = _ from rfl) c5_1)
    refine lv_aload_n hx hb d_Mo_look_8 rfl (lv_at hl 0 rfl) ?_
    refine va_get (D := D) (ci := 11) (v := .ref (ar 15)) (C := "PageScribeModel") (T := F_Mo) (N := 45) hx hb hts i_Mo hown hK hP 0 mW_0 cl_11 23 (by decide) (hts _ k_6_183) (fun _ h9 => h9) (mg_text _ _) d_Mo_look_9 ?_
    refine lv_iload_n hx hb d_Mo_look_12 rfl (lv_at hl 1 rfl) ?_
    refine va_cald hx hb hK hP 16 2 (ma_text _ _ _ _) rfl (zt_in (show p0.toInt = _ from rfl) (by omega) (by omega)) d_Mo_look_13 ?_
    refine lv_topi (fun x1 ex1 => ?_)
    have gx1 : x1 = (a_text S) p0.toInt.toNat := ex1.trans (congrArg _ (zt_ix (show p0.toInt = _ from rfl)))
    have fx1 : x1.toInt = ((a_text S) p0.toInt.toNat).toInt := by rw [gx1]
    have kx1 := i_text (p0.toInt.toNat) (by omega)
    refine lv_goto (tgt := 19) hx hb d_Mo_look_14 (by decide) ?_
    exact j_zret F hr (zt_chr (by omega)) hlocks hK hS () (show 0 ≤ x1.toInt ∧ x1.toInt ≤ 127 ∧ (x1.toInt = 32 ∨ (p0.toInt < (f_length S).toInt ∧ x1.toInt = ((a_text S) p0.toInt.toNat).toInt)) by omega) hP hD d_Mo_look_19
theorem d_Mo_whole_0 : decode prog_15_method_20_code 0 = .ok (.lconst 0, 1) := by decide +kernel
theorem d_Mo_whole_1 : decode prog_15_method_20_code 1 = .ok (.lstore_n 3, 1) := by decide +kernel
theorem d_Mo_whole_2 : decode prog_15_method_20_code 2 = .ok (.iconst 0, 1) := by decide +kernel
theorem d_Mo_whole_3 : decode prog_15_method_20_code 3 = .ok (.istore 5, 2) := by decide +kernel
theorem d_Mo_whole_5 : decode prog_15_method_20_code 5 = .ok (.iload 5, 2) := by decide +kernel
theorem d_Mo_whole_7 : decode prog_15_method_20_code 7 = .ok (.iload_n 2, 1) := by decide +kernel
theorem d_Mo_whole_8 : decode prog_15_method_20_code 8 = .ok (.if_icmp .ge 30, 3) := by decide +kernel
theorem d_Mo_whole_38 : decode prog_15_method_20_code 38 = .ok (.lload_n 3, 1) := by decide +kernel
theorem d_Mo_whole_39 : decode prog_15_method_20_code 39 = .ok (.lreturn, 1) := by decide +kernel
theorem d_Mo_whole_11 : decode prog_15_method_20_code 11 = .ok (.ldc2_w 277, 3) := by decide +kernel
theorem d_Mo_whole_14 : decode prog_15_method_20_code 14 = .ok (.lload_n 3, 1) := by decide +kernel
theorem d_Mo_whole_15 : decode prog_15_method_20_code 15 = .ok (.lmul, 1) := by decide +kernel
theorem d_Mo_whole_16 : decode prog_15_method_20_code 16 = .ok (.aload_n 0, 1) := by decide +kernel
theorem d_Mo_whole_17 : decode prog_15_method_20_code 17 = .ok (.getfield 61, 3) := by decide +kernel
theorem d_Mo_whole_20 : decode prog_15_method_20_code 20 = .ok (.iload_n 1, 1) := by decide +kernel
theorem d_Mo_whole_21 : decode prog_15_method_20_code 21 = .ok (.iload 5, 2) := by decide +kernel
theorem d_Mo_whole_23 : decode prog_15_method_20_code 23 = .ok (.iadd, 1) := by decide +kernel
theorem d_Mo_whole_24 : decode prog_15_method_20_code 24 = .ok (.caload, 1) := by decide +kernel
theorem d_Mo_whole_25 : decode prog_15_method_20_code 25 = .ok (.i2l, 1) := by decide +kernel
theorem d_Mo_whole_26 : decode prog_15_method_20_code 26 = .ok (.ladd, 1) := by decide +kernel
theorem d_Mo_whole_27 : decode prog_15_method_20_code 27 = .ok (.ldc2_w 279, 3) := by decide +kernel
theorem k_7_102 : Cond.constantLong "PageScribeModel" 279 (48 : Int64) ∈ gw := gw_of (tb_7 (List.mem_of_getElem? (i := 102) (by decide +kernel))) (by decide +kernel)
theorem d_Mo_whole_30 : decode prog_15_method_20_code 30 = .ok (.lsub, 1) := by decide +kernel
theorem tJ_48 : (48 : Int64).toInt = 48 := by decide +kernel
theorem d_Mo_whole_31 : decode prog_15_method_20_code 31 = .ok (.lstore_n 3, 1) := by decide +kernel
theorem d_Mo_whole_32 : decode prog_15_method_20_code 32 = .ok (.iinc 5 1, 3) := by decide +kernel
theorem d_Mo_whole_35 : decode prog_15_method_20_code 35 = .ok (.goto (-30), 3) := by decide +kernel
set_option maxHeartbeats 4000000 in
set_option maxRecDepth 100000 in
theorem m_whole (l : Launch) (D : va_G) (T : Nat → ClassId) (h0 : Nat) (ar : Nat → Nat) (S : MS) (p0 : Int32) (p1 : Int32) (sz : Nat) (hI : MI S) (h1 : 0 ≤ p0.toInt ∧ 0 ≤ p1.toInt ∧ p1.toInt ≤ 9 ∧ p0.toInt + p1.toInt ≤ 120) (h2 : digP (a_text S) p0.toInt.toNat p1.toInt.toNat) : Met l ⟨"PageScribeModel", "whole", "(II)J"⟩ (wy ⟨"PageScribeModel", "whole", "(II)J"⟩ prog_15_method_20_code 6 (some .long)) ({ frames := 0, cells := 0, slots := 0, locals := 0 }) (va_Pc [.ref h0, .int p0, .int p1] (Pw D T (mW T h0 ar S) sz E0)) (va_Ql (fun (r : Int64) (u : Unit) => 0 ≤ r.toInt ∧ r.toInt < 1000000000) (fun u t => Bw D T (va_A (mW T h0 ar S) sz) (mW T h0 ar S) t) (va_A (mW T h0 ar S) sz)) 0 0 (va_A (mW T h0 ar S) sz) := by
  refine j_met (y := ⟨"PageScribeModel", "whole", "(II)J"⟩) (b := prog_15_method_20_code) (n := 6) (ret := (some .long)) (av := [.ref h0, .int p0, .int p1]) (Qc := fun A => va_Ql (fun (r : Int64) (u : Unit) => 0 ≤ r.toInt ∧ r.toInt < 1000000000) (fun u t => Bw D T A (mW T h0 ar S) t) A) (by decide +kernel) (Nat.le_of_ble_eq_true rfl) (fun p e s m args below meth c A ls F hr hlocks hnm hK hP hD hS hA hN hE hl => ?_)
  obtain ⟨hx, hb, hml, hown, hts⟩ := id F
  have hl : lv_has ls 6 [(0, .ref h0), (1, .int p0), (2, .int p1)] := hl
  obtain ⟨i_size, i_taken, i_vals, i_room, i_dicts, i_deep, i_open, i_cells, i_points, i_part, i_length, i_knows, i_page, i_text, i_pats, i_fuel, i_fr, i_ink⟩ := id hI
  refine lv_lconst (v := 0) hx hb d_Mo_whole_0 (by decide) ?_
  refine lv_lstore_n (lv' := [(3, .long 0), (0, .ref h0), (1, .int p0), (2, .int p1)]) hx hb d_Mo_whole_1 rfl hl (by decide) rfl (fun ls hl => ?_)
  refine lv_iconst (v := 0) hx hb d_Mo_whole_2 (by decide) ?_
  refine lv_istore (lv' := [(5, .int 0), (3, .long 0), (0, .ref h0), (1, .int p0), (2, .int p1)]) hx hb d_Mo_whole_3 hl (by decide) rfl (fun ls hl => ?_)
  refine j_loop (α := Int64 × Int32) (fun k x H locs ls => (0 ≤ x.2.toInt ∧ x.2.toInt ≤ p1.toInt ∧ p1.toInt ≤ x.2.toInt + ((k : Nat) : Int) ∧ nuP x.1.toInt x.2.toInt.toNat) ∧ va_P D classes (mW T h0 ar S) H ∧ va_D A (mW T h0 ar S) ∧ va_S A s.heap H locs ∧ lv_has ls 6 [(5, .int x.2), (3, .long x.1), (0, .ref h0), (1, .int p0), (2, .int p1)]) (fun _ _ ls => F0 m 5 ls []) (fun k x H locs ls hI9 ih => ?_) 9 ((0 : Int64), (0 : Int32)) _ _ _ ⟨(show 0 ≤ (0 : Int32).toInt ∧ (0 : Int32).toInt ≤ p1.toInt ∧ p1.toInt ≤ (0 : Int32).toInt + ((9 : Nat) : Int) ∧ nuP (0 : Int64).toInt (0 : Int32).toInt.toNat by have := tJ_0; have := tI_0; first | exact ⟨by omega, by omega, by omega, nu_s hf1.2.2.2 (by omega) (by omega) hd (by omega)⟩ | exact ⟨by omega, by omega, by omega, nu_0 (by omega) (by omega)⟩), hP, hD, hS, lv_sub hl [0, 1, 2, 3, 4] rfl⟩
  obtain ⟨v, i⟩ := x
  obtain ⟨hf1, hP, hD, hS, hl⟩ := hI9
  have hf1 : 0 ≤ i.toInt ∧ i.toInt ≤ p1.toInt ∧ p1.toInt ≤ i.toInt + ((k : Nat) : Int) ∧ nuP v.toInt i.toInt.toNat := hf1
  have hP : va_P D classes (mW T h0 ar S) H := hP
  have hD : va_D A (mW T h0 ar S) := hD
  have hl : lv_has ls 6 [(5, .int i), (3, .long v), (0, .ref h0), (1, .int p0), (2, .int p1)] := hl
  have hv := nu_b hf1.2.2.2
  refine lv_iload hx hb d_Mo_whole_5 (lv_at hl 0 rfl) ?_
  refine lv_iload_n hx hb d_Mo_whole_7 rfl (lv_at hl 4 rfl) ?_
  refine lv_icmp_ge (tgt := 38) hx hb d_Mo_whole_8 (by decide) (fun c8_1 => ?_) (fun c8_1 => ?_)
  · have fc8_1 : p1.toInt ≤ i.toInt := zt_le (show p1.toInt = _ from rfl) (show i.toInt = _ from rfl) c8_1
    refine lv_lload_n hx hb d_Mo_whole_38 rfl (lv_at hl 1 rfl) ?_
    exact j_lret F hr hlocks hK hS () (show 0 ≤ v.toInt ∧ v.toInt < 1000000000 by (have := nu_b hf1.2.2.2; omega)) hP hD d_Mo_whole_39
  · have fc8_1 : i.toInt < p1.toInt := Int.not_le.mp (zt_nle (show p1.toInt = _ from rfl) (show i.toInt = _ from rfl) c8_1)
    refine lv_ldc2 (v := (10)) hx hb hown (hts _ k_7_101) d_Mo_whole_11 ?_
    refine lv_lload_n hx hb d_Mo_whole_14 rfl (lv_at hl 1 rfl) ?_
    refine lv_lmul hx hb d_Mo_whole_15 ?_
    refine lv_topl (fun x1 ex1 => ?_)
    have fx1 : x1.toInt = (10 * v.toInt) := by rw [ex1]; exact (zu_mul tJ_10 (show v.toInt = _ from rfl) rfl (by omega) (by omega)).trans (by omega)
    refine lv_aload_n hx hb d_Mo_whole_16 rfl (lv_at hl 2 rfl) ?_
    refine va_get (D := D) (ci := 11) (v := .ref (ar 15)) (C := "PageScribeModel") (T := F_Mo) (N := 45) hx hb hts i_Mo hown hK hP 0 mW_0 cl_11 23 (by decide) (hts _ k_6_183) (fun _ h9 => h9) (mg_text _ _) d_Mo_whole_17 ?_
    refine lv_iload_n hx hb d_Mo_whole_20 rfl (lv_at hl 3 rfl) ?_
    refine lv_iload hx hb d_Mo_whole_21 (lv_at hl 0 rfl) ?_
    refine lv_iadd hx hb d_Mo_whole_23 ?_
    refine lv_topi (fun x2 ex2 => ?_)
    have fx2 : x2.toInt = (i.toInt + p0.toInt) := by rw [ex2]; exact (zt_add (show p0.toInt = _ from rfl) (show i.toInt = _ from rfl) (by omega) (by omega)).trans (by omega)
    refine va_cald hx hb hK hP 16 2 (ma_text _ _ _ _) rfl (zt_in fx2 (by omega) (by omega)) d_Mo_whole_24 ?_
    refine lv_topi (fun x3 ex3 => ?_)
    have gx3 : x3 = (a_text S) (i.toInt + p0.toInt).toNat := ex3.trans (congrArg _ (zt_ix fx2))
    have fx3 : x3.toInt = ((a_text S) (i.toInt + p0.toInt).toNat).toInt := by rw [gx3]
    have kx3 := i_text ((i.toInt + p0.toInt).toNat) (by omega)
    have hd := dig_at h2 (j := i.toInt.toNat) (q := (i.toInt + p0.toInt).toNat) (by omega) (by omega)
    refine lv_i2l (v := (x3).toInt64) hx hb d_Mo_whole_25 rfl ?_
    refine lv_topl (fun x4 ex4 => ?_)
    have fx4 : x4.toInt = x3.toInt := by rw [ex4]; exact zu_i2l (show x3.toInt = _ from rfl)
    refine lv_ladd hx hb d_Mo_whole_26 ?_
    refine lv_topl (fun x5 ex5 => ?_)
    have fx5 : x5.toInt = (10 * v.toInt + x3.toInt) := by rw [ex5]; exact (zu_add fx1 fx4 (by omega) (by omega)).trans (by omega)
    refine lv_ldc2 (v := (48)) hx hb hown (hts _ k_7_102) d_Mo_whole_27 ?_
    refine lv_lsub hx hb d_Mo_whole_30 ?_
    refine lv_topl (fun x6 ex6 => ?_)
    have fx6 : x6.toInt = (10 * v.toInt + x3.toInt - 48) := by rw [ex6]; exact (zu_sub fx5 tJ_48 (by omega) (by omega)).trans (by omega)
    refine lv_lstore_n (lv' := [(3, .long x6), (5, .int i), (0, .ref h0), (1, .int p0), (2, .int p1)]) hx hb d_Mo_whole_31 rfl hl (by decide) rfl (fun ls hl => ?_)
    refine lv_iinc (v := (i + 1)) (lv' := [(5, .int (i + 1)), (3, .long x6), (0, .ref h0), (1, .int p0), (2, .int p1)]) hx hb d_Mo_whole_32 hl (k := 1) rfl (by first | rfl | decide) (by decide) rfl (fun ls hl => ?_)
    obtain ⟨x7, ex7⟩ : ∃ z, z = (i + 1) := ⟨_, rfl⟩
    rw [← ex7] at hl
    have fx7 : x7.toInt = (i.toInt + 1) := by rw [ex7]; exact (zt_add (show i.toInt = _ from rfl) tI_1 (by omega) (by omega)).trans (by omega)
    have hl : lv_has ls 6 [(5, .int x7), (3, .long x6), (0, .ref h0), (1, .int p0), (2, .int p1)] := hl
    refine lv_goto (tgt := 5) hx hb d_Mo_whole_35 (by decide) ?_
    exact ih (k - 1) (x6, x7) _ _ _ (by omega) ⟨(show 0 ≤ x7.toInt ∧ x7.toInt ≤ p1.toInt ∧ p1.toInt ≤ x7.toInt + (((k - 1) : Nat) : Int) ∧ nuP x6.toInt x7.toInt.toNat by first | exact ⟨by omega, by omega, by omega, nu_s hf1.2.2.2 (by omega) (by omega) hd (by omega)⟩ | exact ⟨by omega, by omega, by omega, nu_0 (by omega) (by omega)⟩), hP, hD, hS, lv_sub hl [0, 1, 2, 3, 4] rfl⟩
