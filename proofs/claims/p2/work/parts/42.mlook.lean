def suitP (d k : Int) : Prop := (d = 2 → k < 2) ∧ (d = 5 → k = 13) ∧ (¬ d = 9 → ¬ d = 2 → ¬ d = 5 → k % 8 = d - 1)
theorem zt_chr {x : Int32} (h : 0 ≤ x.toInt ∧ x.toInt ≤ 127) : narrow .char (.int x) = .int x := by
  have e : x = nI x.toInt.toNat := Int32.toInt_inj.mp (by rw [nI_toInt (by omega)]; omega)
  rw [e]
  exact (pk_charN (by omega)).1
theorem d_Mo_suits_0 : decode prog_15_method_40_code 0 = .ok (.iload_n 2, 1) := by decide +kernel
theorem d_Mo_suits_1 : decode prog_15_method_40_code 1 = .ok (.bipush 9, 2) := by decide +kernel
theorem d_Mo_suits_3 : decode prog_15_method_40_code 3 = .ok (.if_icmp .eq 46, 3) := by decide +kernel
theorem d_Mo_suits_49 : decode prog_15_method_40_code 49 = .ok (.iconst 1, 1) := by decide +kernel
theorem d_Mo_suits_50 : decode prog_15_method_40_code 50 = .ok (.goto 4, 3) := by decide +kernel
theorem d_Mo_suits_54 : decode prog_15_method_40_code 54 = .ok (.ireturn, 1) := by decide +kernel
theorem d_Mo_suits_6 : decode prog_15_method_40_code 6 = .ok (.iload_n 2, 1) := by decide +kernel
theorem d_Mo_suits_7 : decode prog_15_method_40_code 7 = .ok (.iconst 2, 1) := by decide +kernel
theorem d_Mo_suits_8 : decode prog_15_method_40_code 8 = .ok (.if_icmp .ne 14, 3) := by decide +kernel
theorem d_Mo_suits_22 : decode prog_15_method_40_code 22 = .ok (.iload_n 2, 1) := by decide +kernel
theorem d_Mo_suits_23 : decode prog_15_method_40_code 23 = .ok (.iconst 5, 1) := by decide +kernel
theorem d_Mo_suits_24 : decode prog_15_method_40_code 24 = .ok (.if_icmp .ne 14, 3) := by decide +kernel
theorem d_Mo_suits_38 : decode prog_15_method_40_code 38 = .ok (.aload_n 0, 1) := by decide +kernel
theorem d_Mo_suits_39 : decode prog_15_method_40_code 39 = .ok (.iload_n 1, 1) := by decide +kernel
theorem d_Mo_suits_40 : decode prog_15_method_40_code 40 = .ok (.invokevirtual 421, 3) := by decide +kernel
theorem d_Mo_suits_43 : decode prog_15_method_40_code 43 = .ok (.iload_n 2, 1) := by decide +kernel
theorem d_Mo_suits_44 : decode prog_15_method_40_code 44 = .ok (.iconst 1, 1) := by decide +kernel
theorem d_Mo_suits_45 : decode prog_15_method_40_code 45 = .ok (.isub, 1) := by decide +kernel
theorem d_Mo_suits_46 : decode prog_15_method_40_code 46 = .ok (.if_icmp .ne 7, 3) := by decide +kernel
theorem d_Mo_suits_53 : decode prog_15_method_40_code 53 = .ok (.iconst 0, 1) := by decide +kernel
theorem d_Mo_suits_27 : decode prog_15_method_40_code 27 = .ok (.aload_n 0, 1) := by decide +kernel
theorem d_Mo_suits_28 : decode prog_15_method_40_code 28 = .ok (.iload_n 1, 1) := by decide +kernel
theorem d_Mo_suits_29 : decode prog_15_method_40_code 29 = .ok (.invokevirtual 378, 3) := by decide +kernel
theorem k_7_170 : Cond.code ⟨"PageScribeModel", "isProcedure", "(I)Z"⟩ prog_15_method_8_code 2 (some .boolean) ∈ gw := gw_of (tb_7 (List.mem_of_getElem? (i := 170) (by decide +kernel))) (by decide +kernel)
theorem k_7_167 : Cond.methodLink "PageScribeModel" 378 ⟨"PageScribeModel", "isProcedure", "(I)Z"⟩ ∈ gw := gw_of (tb_7 (List.mem_of_getElem? (i := 167) (by decide +kernel))) (by decide +kernel)
theorem k_7_169 : Cond.instanceMethod ⟨"PageScribeModel", "isProcedure", "(I)Z"⟩ ∈ gw := gw_of (tb_7 (List.mem_of_getElem? (i := 169) (by decide +kernel))) (by decide +kernel)
theorem k_0_101 : Cond.selects "PageScribeModel" ⟨"PageScribeModel", "isProcedure", "(I)Z"⟩ ⟨"PageScribeModel", "isProcedure", "(I)Z"⟩ ∈ gw := gw_of (tb_0 (List.mem_of_getElem? (i := 101) (by decide +kernel))) (by decide +kernel)
theorem d_Mo_suits_32 : decode prog_15_method_40_code 32 = .ok (.ifCond .eq 21, 3) := by decide +kernel
theorem d_Mo_suits_35 : decode prog_15_method_40_code 35 = .ok (.goto 14, 3) := by decide +kernel
theorem d_Mo_suits_11 : decode prog_15_method_40_code 11 = .ok (.aload_n 0, 1) := by decide +kernel
theorem d_Mo_suits_12 : decode prog_15_method_40_code 12 = .ok (.iload_n 1, 1) := by decide +kernel
theorem d_Mo_suits_13 : decode prog_15_method_40_code 13 = .ok (.invokevirtual 418, 3) := by decide +kernel
theorem d_Mo_suits_16 : decode prog_15_method_40_code 16 = .ok (.ifCond .eq 37, 3) := by decide +kernel
theorem d_Mo_suits_19 : decode prog_15_method_40_code 19 = .ok (.goto 30, 3) := by decide +kernel
set_option maxHeartbeats 4000000 in
set_option maxRecDepth 100000 in
theorem m_suits (l : Launch) (D : va_G) (T : Nat → ClassId) (h0 : Nat) (ar : Nat → Nat) (S : MS) (p0 : Int32) (p1 : Int32) (sz : Nat) (hI : MI S) (h1 : 0 ≤ p0.toInt ∧ p0.toInt < 1300) (h2 : 0 ≤ p1.toInt ∧ p1.toInt ≤ 9) : Met l ⟨"PageScribeModel", "suits", "(II)Z"⟩ (wy ⟨"PageScribeModel", "suits", "(II)Z"⟩ prog_15_method_40_code 3 (some .boolean)) ({ frames := 1, cells := 0, slots := 0, locals := 70 }) (va_Pc [.ref h0, .int p0, .int p1] (Pw D T (mW T h0 ar S) sz E0)) (va_Qi (fun (r : Int32) (u : Unit) => (r.toInt = 1 ∧ suitP p1.toInt ((a_kinds S) p0.toInt.toNat).toInt) ∨ r.toInt = 0) (fun u t => Bw D T (va_A (mW T h0 ar S) sz) (mW T h0 ar S) t) (va_A (mW T h0 ar S) sz)) 0 0 (va_A (mW T h0 ar S) sz) := by
  refine j_met (y := ⟨"PageScribeModel", "suits", "(II)Z"⟩) (b := prog_15_method_40_code) (n := 3) (ret := (some .boolean)) (av := [.ref h0, .int p0, .int p1]) (Qc := fun A => va_Qi (fun (r : Int32) (u : Unit) => (r.toInt = 1 ∧ suitP p1.toInt ((a_kinds S) p0.toInt.toNat).toInt) ∨ r.toInt = 0) (fun u t => Bw D T A (mW T h0 ar S) t) A) (by decide +kernel) (Nat.le_of_ble_eq_true rfl) (fun p e s m args below meth c A ls F hr hlocks hnm hK hP hD hS hA hN hE hl => ?_)
  obtain ⟨hx, hb, hml, hown, hts⟩ := id F
  have hl : lv_has ls 3 [(0, .ref h0), (1, .int p0), (2, .int p1)] := hl
  obtain ⟨i_size, i_taken, i_vals, i_room, i_dicts, i_deep, i_open, i_cells, i_points, i_part, i_length, i_knows, i_page, i_text, i_pats, i_fuel, i_fr, i_ink⟩ := id hI
  refine lv_iload_n hx hb d_Mo_suits_0 rfl (lv_at hl 2 rfl) ?_
  refine lv_bipush (v := 9) hx hb d_Mo_suits_1 (by decide) ?_
  refine lv_icmp_eq (tgt := 49) hx hb d_Mo_suits_3 (by decide) (fun c3_1 => ?_) (fun c3_1 => ?_)
  · have fc3_1 : p1.toInt = 9 := zt_eq (show p1.toInt = _ from rfl) tI_9 c3_1
    refine lv_iconst (v := 1) hx hb d_Mo_suits_49 (by decide) ?_
    refine lv_goto (tgt := 54) hx hb d_Mo_suits_50 (by decide) ?_
    exact j_zret F hr (by decide +kernel) hlocks hK hS () (show ((1 : Int32).toInt = 1 ∧ suitP p1.toInt ((a_kinds S) p0.toInt.toNat).toInt) ∨ (1 : Int32).toInt = 0 by have := tI_1; unfold suitP; omega) hP hD d_Mo_suits_54
  · have fc3_1 : ¬ p1.toInt = 9 := zt_ne (show p1.toInt = _ from rfl) tI_9 c3_1
    refine lv_iload_n hx hb d_Mo_suits_6 rfl (lv_at hl 2 rfl) ?_
    refine lv_iconst (v := 2) hx hb d_Mo_suits_7 (by decide) ?_
    refine lv_icmp_ne (tgt := 22) hx hb d_Mo_suits_8 (by decide) (fun c8_1 => ?_) (fun c8_1 => ?_)
    · have fc8_1 : ¬ p1.toInt = 2 := zt_ne (show p1.toInt = _ from rfl) tI_2 c8_1
      refine lv_iload_n hx hb d_Mo_suits_22 rfl (lv_at hl 2 rfl) ?_
      refine lv_iconst (v := 5) hx hb d_Mo_suits_23 (by decide) ?_
      refine lv_icmp_ne (tgt := 38) hx hb d_Mo_suits_24 (by decide) (fun c24_1 => ?_) (fun c24_1 => ?_)
      · have fc24_1 : ¬ p1.toInt = 5 := zt_ne (show p1.toInt = _ from rfl) tI_5 c24_1
        refine lv_aload_n hx hb d_Mo_suits_38 rfl (lv_at hl 0 rfl) ?_
        refine lv_iload_n hx hb d_Mo_suits_39 rfl (lv_at hl 1 rfl) ?_
        have kv1 : vOk ((a_kinds S) (p0.toInt.toNat)) ((a_codes S) (p0.toInt.toNat)) ((a_reals S) (p0.toInt.toNat)) := i_vals (p0.toInt.toNat) (by omega)
        have rkv1 := vk_rng kv1
        refine jm_ci (w := (fun _ => S)) hK hP hD hS hA (va_runV (As := [.int p0]) (rest := []) F (m_kindOf l D T h0 ar S p0 s.heap.size (show 0 ≤ p0.toInt ∧ p0.toInt < 1300 by omega) (show 0 ≤ ((a_kinds S) p0.toInt.toNat).toInt by omega)) (j_cV (k := 1) (C := "PageScribeModel") hts k_7_174 k_1_12 k_7_171 k_7_173 k_0_102 (by decide +kernel) ⟨Nat.le_of_ble_eq_true rfl, Nat.le_of_ble_eq_true rfl⟩) (jm_pre hK hP hD) rfl rfl hl.1 rfl (lv_room (Nat.le_of_ble_eq_true rfl)) d_Mo_suits_40 ⟨Nat.le_of_ble_eq_true rfl, Nat.le_of_ble_eq_true rfl⟩) (fun rv1 u1 H locs hw1 hP hD hS => ?_)
        have hP : va_P D classes (mW T h0 ar S) H := hP
        have hD : va_D A (mW T h0 ar S) := hD
        have qhw1 : rv1.toInt = ((a_kinds S) p0.toInt.toNat).toInt % 8 := hw1
        refine lv_iload_n hx hb d_Mo_suits_43 rfl (lv_at hl 2 rfl) ?_
        refine lv_iconst (v := 1) hx hb d_Mo_suits_44 (by decide) ?_
        refine lv_isub hx hb d_Mo_suits_45 ?_
        refine lv_topi (fun x1 ex1 => ?_)
        have fx1 : x1.toInt = (p1.toInt - 1) := by rw [ex1]; exact (zt_sub (show p1.toInt = _ from rfl) tI_1 (by omega) (by omega)).trans (by omega)
        refine lv_icmp_ne (tgt := 53) hx hb d_Mo_suits_46 (by decide) (fun c46_1 => ?_) (fun c46_1 => ?_)
        · have fc46_1 : ¬ rv1.toInt = (p1.toInt - 1) := zt_ne (show rv1.toInt = _ from rfl) fx1 c46_1
          refine lv_iconst (v := 0) hx hb d_Mo_suits_53 (by decide) ?_
          exact j_zret F hr (by decide +kernel) hlocks hK hS () (show ((0 : Int32).toInt = 1 ∧ suitP p1.toInt ((a_kinds S) p0.toInt.toNat).toInt) ∨ (0 : Int32).toInt = 0 by have := tI_0; unfold suitP; omega) hP hD d_Mo_suits_54
        · have fc46_1 : rv1.toInt = (p1.toInt - 1) := zt_eq (show rv1.toInt = _ from rfl) fx1 c46_1
          refine lv_iconst (v := 1) hx hb d_Mo_suits_49 (by decide) ?_
          refine lv_goto (tgt := 54) hx hb d_Mo_suits_50 (by decide) ?_
          exact j_zret F hr (by decide +kernel) hlocks hK hS () (show ((1 : Int32).toInt = 1 ∧ suitP p1.toInt ((a_kinds S) p0.toInt.toNat).toInt) ∨ (1 : Int32).toInt = 0 by have := tI_1; unfold suitP; omega) hP hD d_Mo_suits_54
      · have fc24_1 : p1.toInt = 5 := zt_eq (show p1.toInt = _ from rfl) tI_5 c24_1
        refine lv_aload_n hx hb d_Mo_suits_27 rfl (lv_at hl 0 rfl) ?_
        refine lv_iload_n hx hb d_Mo_suits_28 rfl (lv_at hl 1 rfl) ?_
        have kv2 : vOk ((a_kinds S) (p0.toInt.toNat)) ((a_codes S) (p0.toInt.toNat)) ((a_reals S) (p0.toInt.toNat)) := i_vals (p0.toInt.toNat) (by omega)
        have rkv2 := vk_rng kv2
        refine jm_ci (w := (fun _ => S)) hK hP hD hS hA (va_runV (As := [.int p0]) (rest := []) F (m_isProcedure l D T h0 ar S p0 s.heap.size (show 0 ≤ p0.toInt ∧ p0.toInt < 1300 by omega)) (j_cV (k := 1) (C := "PageScribeModel") hts k_7_170 k_1_12 k_7_167 k_7_169 k_0_101 (by decide +kernel) ⟨Nat.le_of_ble_eq_true rfl, Nat.le_of_ble_eq_true rfl⟩) (jm_pre hK hP hD) rfl rfl hl.1 rfl (lv_room (Nat.le_of_ble_eq_true rfl)) d_Mo_suits_29 ⟨Nat.le_of_ble_eq_true rfl, Nat.le_of_ble_eq_true rfl⟩) (fun rv2 u2 H locs hw2 hP hD hS => ?_)
        have hP : va_P D classes (mW T h0 ar S) H := hP
        have hD : va_D A (mW T h0 ar S) := hD
        have qhw2 : (rv2.toInt = 1 ∧ ((a_kinds S) p0.toInt.toNat).toInt = 13) ∨ (rv2.toInt = 0 ∧ ¬ ((a_kinds S) p0.toInt.toNat).toInt = 13) := hw2
        refine lv_if_eq (tgt := 53) hx hb d_Mo_suits_32 (by decide) (fun c32_1 => ?_) (fun c32_1 => ?_)
        · have fc32_1 : rv2.toInt = 0 := zt_eq (show rv2.toInt = _ from rfl) tI_0 c32_1
          refine lv_iconst (v := 0) hx hb d_Mo_suits_53 (by decide) ?_
          exact j_zret F hr (by decide +kernel) hlocks hK hS () (show ((0 : Int32).toInt = 1 ∧ suitP p1.toInt ((a_kinds S) p0.toInt.toNat).toInt) ∨ (0 : Int32).toInt = 0 by have := tI_0; unfold suitP; omega) hP hD d_Mo_suits_54
        · have fc32_1 : ¬ rv2.toInt = 0 := zt_ne (show rv2.toInt = _ from rfl) tI_0 c32_1
          refine lv_goto (tgt := 49) hx hb d_Mo_suits_35 (by decide) ?_
          refine lv_iconst (v := 1) hx hb d_Mo_suits_49 (by decide) ?_
          refine lv_goto (tgt := 54) hx hb d_Mo_suits_50 (by decide) ?_
          exact j_zret F hr (by decide +kernel) hlocks hK hS () (show ((1 : Int32).toInt = 1 ∧ suitP p1.toInt ((a_kinds S) p0.toInt.toNat).toInt) ∨ (1 : Int32).toInt = 0 by have := tI_1; unfold suitP; omega) hP hD d_Mo_suits_54
    · have fc8_1 : p1.toInt = 2 := zt_eq (show p1.toInt = _ from rfl) tI_2 c8_1
      refine lv_aload_n hx hb d_Mo_suits_11 rfl (lv_at hl 0 rfl) ?_
      refine lv_iload_n hx hb d_Mo_suits_12 rfl (lv_at hl 1 rfl) ?_
      have kv3 : vOk ((a_kinds S) (p0.toInt.toNat)) ((a_codes S) (p0.toInt.toNat)) ((a_reals S) (p0.toInt.toNat)) := i_vals (p0.toInt.toNat) (by omega)
      have rkv3 := vk_rng kv3
      refine jm_ci (w := (fun _ => S)) hK hP hD hS hA (va_runV (As := [.int p0]) (rest := []) F (m_isNumber l D T h0 ar S p0 s.heap.size (show 0 ≤ p0.toInt ∧ p0.toInt < 1300 by omega)) (j_cV (k := 1) (C := "PageScribeModel") hts k_7_166 k_1_12 k_7_163 k_7_165 k_0_100 (by decide +kernel) ⟨Nat.le_of_ble_eq_true rfl, Nat.le_of_ble_eq_true rfl⟩) (jm_pre hK hP hD) rfl rfl hl.1 rfl (lv_room (Nat.le_of_ble_eq_true rfl)) d_Mo_suits_13 ⟨Nat.le_of_ble_eq_true rfl, Nat.le_of_ble_eq_true rfl⟩) (fun rv3 u3 H locs hw3 hP hD hS => ?_)
      have hP : va_P D classes (mW T h0 ar S) H := hP
      have hD : va_D A (mW T h0 ar S) := hD
      have qhw3 : (rv3.toInt = 1 ∧ ((a_kinds S) p0.toInt.toNat).toInt < 2) ∨ (rv3.toInt = 0 ∧ ¬ ((a_kinds S) p0.toInt.toNat).toInt < 2) := hw3
      refine lv_if_eq (tgt := 53) hx hb d_Mo_suits_16 (by decide) (fun c16_1 => ?_) (fun c16_1 => ?_)
      · have fc16_1 : rv3.toInt = 0 := zt_eq (show rv3.toInt = _ from rfl) tI_0 c16_1
        refine lv_iconst (v := 0) hx hb d_Mo_suits_53 (by decide) ?_
        exact j_zret F hr (by decide +kernel) hlocks hK hS () (show ((0 : Int32).toInt = 1 ∧ suitP p1.toInt ((a_kinds S) p0.toInt.toNat).toInt) ∨ (0 : Int32).toInt = 0 by have := tI_0; unfold suitP; omega) hP hD d_Mo_suits_54
      · have fc16_1 : ¬ rv3.toInt = 0 := zt_ne (show rv3.toInt = _ from rfl) tI_0 c16_1
        refine lv_goto (tgt := 49) hx hb d_Mo_suits_19 (by decide) ?_
        refine lv_iconst (v := 1) hx hb d_Mo_suits_49 (by decide) ?_
        refine lv_goto (tgt := 54) hx hb d_Mo_suits_50 (by decide) ?_
        exact j_zret F hr (by decide +kernel) hlocks hK hS () (show ((1 : Int32).toInt = 1 ∧ suitP p1.toInt ((a_kinds S) p0.toInt.toNat).toInt) ∨ (1 : Int32).toInt = 0 by have := tI_1; unfold suitP; omega) hP hD d_Mo_suits_54
theorem d_Mo_look_0 : decode prog_15_method_18_code 0 = .ok (.iload_n 1, 1) := by decide +kernel
theorem d_Mo_look_1 : decode prog_15_method_18_code 1 = .ok (.aload_n 0, 1) := by decide +kernel
theorem k_6_184 : Cond.fieldLink "PageScribeModel" 270 "PageScribeModel" "length" "I" ∈ gw := gw_of (tb_6 (List.mem_of_getElem? (i := 184) (by decide +kernel))) (by decide +kernel)
theorem d_Mo_look_2 : decode prog_15_method_18_code 2 = .ok (.getfield 270, 3) := by decide +kernel
theorem d_Mo_look_5 : decode prog_15_method_18_code 5 = .ok (.if_icmp .ge 12, 3) := by decide +kernel
theorem d_Mo_look_17 : decode prog_15_method_18_code 17 = .ok (.bipush 32, 2) := by decide +kernel
theorem d_Mo_look_19 : decode prog_15_method_18_code 19 = .ok (.ireturn, 1) := by decide +kernel
theorem d_Mo_look_8 : decode prog_15_method_18_code 8 = .ok (.aload_n 0, 1) := by decide +kernel
theorem k_6_183 : Cond.fieldLink "PageScribeModel" 61 "PageScribeModel" "text" "[C" ∈ gw := gw_of (tb_6 (List.mem_of_getElem? (i := 183) (by decide +kernel))) (by decide +kernel)
theorem d_Mo_look_9 : decode prog_15_method_18_code 9 = .ok (.getfield 61, 3) := by decide +kernel
theorem d_Mo_look_12 : decode prog_15_method_18_code 12 = .ok (.iload_n 1, 1) := by decide +kernel
theorem d_Mo_look_13 : decode prog_15_method_18_code 13 = .ok (.caload, 1) := by decide +kernel
theorem d_Mo_look_14 : decode prog_15_method_18_code 14 = .ok (.goto 5, 3) := by decide +kernel
set_option maxHeartbeats 4000000 in
set_option maxRecDepth 100000 in
theorem m_look (l : Launch) (D : va_G) (T : Nat → ClassId) (h0 : Nat) (ar : Nat → Nat) (S : MS) (p0 : Int32) (sz : Nat) (hI : MI S) (h1 : 0 ≤ p0.toInt) : Met l ⟨"PageScribeModel", "look", "(I)C"⟩ (wy ⟨"PageScribeModel", "look", "(I)C"⟩ prog_15_method_18_code 2 (some .char)) ({ frames := 0, cells := 0, slots := 0, locals := 0 }) (va_Pc [.ref h0, .int p0] (Pw D T (mW T h0 ar S) sz E0)) (va_Qi (fun (r : Int32) (u : Unit) => 0 ≤ r.toInt ∧ r.toInt ≤ 127) (fun u t => Bw D T (va_A (mW T h0 ar S) sz) (mW T h0 ar S) t) (va_A (mW T h0 ar S) sz)) 0 0 (va_A (mW T h0 ar S) sz) := by
  refine j_met (y := ⟨"PageScribeModel", "look", "(I)C"⟩) (b := prog_15_method_18_code) (n := 2) (ret := (some .char)) (av := [.ref h0, .int p0]) (Qc := fun A => va_Qi (fun (r : Int32) (u : Unit) => 0 ≤ r.toInt ∧ r.toInt ≤ 127) (fun u t => Bw D T A (mW T h0 ar S) t) A) (by decide +kernel) (Nat.le_of_ble_eq_true rfl) (fun p e s m args below meth c A ls F hr hlocks hnm hK hP hD hS hA hN hE hl => ?_)
  obtain ⟨hx, hb, hml, hown, hts⟩ := id F
  have hl : lv_has ls 2 [(0, .ref h0), (1, .int p0)] := hl
  obtain ⟨i_size, i_taken, i_vals, i_room, i_dicts, i_deep, i_open, i_cells, i_points, i_part, i_length, i_knows, i_page, i_text, i_pats, i_fuel, i_fr, i_ink⟩ := id hI
  refine lv_iload_n hx hb d_Mo_look_0 rfl (lv_at hl 1 rfl) ?_
  refine lv_aload_n hx hb d_Mo_look_1 rfl (lv_at hl 0 rfl) ?_
  refine va_get (D := D) (ci := 11) (v := .int (f_length S)) (C := "PageScribeModel") (T := F_Mo) (N := 45) hx hb hts i_Mo hown hK hP 0 mW_0 cl_11 24 (by decide) (hts _ k_6_184) (fun _ h9 => h9) (mg_length _ _) d_Mo_look_2 ?_
  refine lv_icmp_ge (tgt := 17) hx hb d_Mo_look_5 (by decide) (fun c5_1 => ?_) (fun c5_1 => ?_)
  · have fc5_1 : (f_length S).toInt ≤ p0.toInt := zt_le (show (f_length S).toInt = _ from rfl) (show p0.toInt = _ from rfl) c5_1
    refine lv_bipush (v := 32) hx hb d_Mo_look_17 (by decide) ?_
    exact j_zret F hr (by decide +kernel) hlocks hK hS () (show 0 ≤ (32 : Int32).toInt ∧ (32 : Int32).toInt ≤ 127 by have := tI_32; omega) hP hD d_Mo_look_19
  · have fc5_1 : p0.toInt < (f_length S).toInt := Int.not_le.mp (zt_nle (show (f_length S).toInt = _ from rfl) (show p0.toInt = _ from rfl) c5_1)
    refine lv_aload_n hx hb d_Mo_look_8 rfl (lv_at hl 0 rfl) ?_
    refine va_get (D := D) (ci := 11) (v := .ref (ar 15)) (C := "PageScribeModel") (T := F_Mo) (N := 45) hx hb hts i_Mo hown hK hP 0 mW_0 cl_11 23 (by decide) (hts _ k_6_183) (fun _ h9 => h9) (mg_text _ _) d_Mo_look_9 ?_
    refine lv_iload_n hx hb d_Mo_look_12 rfl (lv_at hl 1 rfl) ?_
    refine va_cald hx hb hK hP 16 2 (ma_text _ _ _ _) rfl (zt_in (show p0.toInt = _ from rfl) (by omega) (by omega)) d_Mo_look_13 ?_
    refine lv_topi (fun x1 ex1 => ?_)
    have gx1 : x1 = (a_text S) p0.toInt.toNat := ex1.trans (congrArg _ (zt_ix (show p0.toInt = _ from rfl)))
    have fx1 : x1.toInt = ((a_text S) p0.toInt.toNat).toInt := by rw [gx1]
    have kx1 := i_text (p0.toInt.toNat) (by omega)
    refine lv_goto (tgt := 19) hx hb d_Mo_look_14 (by decide) ?_
    exact j_zret F hr (zt_chr (by omega)) hlocks hK hS () (show 0 ≤ x1.toInt ∧ x1.toInt ≤ 127 by omega) hP hD d_Mo_look_19
