theorem d_Mo_alike_0 : decode prog_15_method_50_code 0 = .ok (.aload_n 0, 1) := by decide +kernel
theorem d_Mo_alike_1 : decode prog_15_method_50_code 1 = .ok (.iload_n 1, 1) := by decide +kernel
theorem d_Mo_alike_2 : decode prog_15_method_50_code 2 = .ok (.invokevirtual 418, 3) := by decide +kernel
theorem k_7_166 : Cond.code ⟨"PageScribeModel", "isNumber", "(I)Z"⟩ prog_15_method_9_code 2 (some .boolean) ∈ gw := gw_of (tb_7 (List.mem_of_getElem? (i := 166) (by decide +kernel))) (by decide +kernel)
theorem k_7_163 : Cond.methodLink "PageScribeModel" 418 ⟨"PageScribeModel", "isNumber", "(I)Z"⟩ ∈ gw := gw_of (tb_7 (List.mem_of_getElem? (i := 163) (by decide +kernel))) (by decide +kernel)
theorem k_7_165 : Cond.instanceMethod ⟨"PageScribeModel", "isNumber", "(I)Z"⟩ ∈ gw := gw_of (tb_7 (List.mem_of_getElem? (i := 165) (by decide +kernel))) (by decide +kernel)
theorem k_0_100 : Cond.selects "PageScribeModel" ⟨"PageScribeModel", "isNumber", "(I)Z"⟩ ⟨"PageScribeModel", "isNumber", "(I)Z"⟩ ∈ gw := gw_of (tb_0 (List.mem_of_getElem? (i := 100) (by decide +kernel))) (by decide +kernel)
theorem d_Mo_alike_5 : decode prog_15_method_50_code 5 = .ok (.ifCond .eq 31, 3) := by decide +kernel
theorem d_Mo_alike_36 : decode prog_15_method_50_code 36 = .ok (.aload_n 0, 1) := by decide +kernel
theorem d_Mo_alike_37 : decode prog_15_method_50_code 37 = .ok (.iload_n 1, 1) := by decide +kernel
theorem d_Mo_alike_38 : decode prog_15_method_50_code 38 = .ok (.invokevirtual 421, 3) := by decide +kernel
theorem k_7_174 : Cond.code ⟨"PageScribeModel", "kindOf", "(I)I"⟩ prog_15_method_5_code 2 (some .int) ∈ gw := gw_of (tb_7 (List.mem_of_getElem? (i := 174) (by decide +kernel))) (by decide +kernel)
theorem k_7_171 : Cond.methodLink "PageScribeModel" 421 ⟨"PageScribeModel", "kindOf", "(I)I"⟩ ∈ gw := gw_of (tb_7 (List.mem_of_getElem? (i := 171) (by decide +kernel))) (by decide +kernel)
theorem k_7_173 : Cond.instanceMethod ⟨"PageScribeModel", "kindOf", "(I)I"⟩ ∈ gw := gw_of (tb_7 (List.mem_of_getElem? (i := 173) (by decide +kernel))) (by decide +kernel)
theorem k_0_102 : Cond.selects "PageScribeModel" ⟨"PageScribeModel", "kindOf", "(I)I"⟩ ⟨"PageScribeModel", "kindOf", "(I)I"⟩ ∈ gw := gw_of (tb_0 (List.mem_of_getElem? (i := 102) (by decide +kernel))) (by decide +kernel)
theorem d_Mo_alike_41 : decode prog_15_method_50_code 41 = .ok (.aload_n 0, 1) := by decide +kernel
theorem d_Mo_alike_42 : decode prog_15_method_50_code 42 = .ok (.iload_n 2, 1) := by decide +kernel
theorem d_Mo_alike_43 : decode prog_15_method_50_code 43 = .ok (.invokevirtual 421, 3) := by decide +kernel
theorem d_Mo_alike_46 : decode prog_15_method_50_code 46 = .ok (.if_icmp .eq 5, 3) := by decide +kernel
theorem d_Mo_alike_51 : decode prog_15_method_50_code 51 = .ok (.aload_n 0, 1) := by decide +kernel
theorem d_Mo_alike_52 : decode prog_15_method_50_code 52 = .ok (.iload_n 1, 1) := by decide +kernel
theorem d_Mo_alike_53 : decode prog_15_method_50_code 53 = .ok (.invokevirtual 421, 3) := by decide +kernel
theorem d_Mo_alike_56 : decode prog_15_method_50_code 56 = .ok (.iconst 5, 1) := by decide +kernel
theorem d_Mo_alike_57 : decode prog_15_method_50_code 57 = .ok (.if_icmp .ne 58, 3) := by decide +kernel
theorem tI_5 : (5 : Int32).toInt = 5 := by decide +kernel
theorem d_Mo_alike_115 : decode prog_15_method_50_code 115 = .ok (.aload_n 0, 1) := by decide +kernel
theorem d_Mo_alike_116 : decode prog_15_method_50_code 116 = .ok (.getfield 13, 3) := by decide +kernel
theorem d_Mo_alike_119 : decode prog_15_method_50_code 119 = .ok (.iload_n 1, 1) := by decide +kernel
theorem d_Mo_alike_120 : decode prog_15_method_50_code 120 = .ok (.laload, 1) := by decide +kernel
theorem d_Mo_alike_121 : decode prog_15_method_50_code 121 = .ok (.aload_n 0, 1) := by decide +kernel
theorem d_Mo_alike_122 : decode prog_15_method_50_code 122 = .ok (.getfield 13, 3) := by decide +kernel
theorem d_Mo_alike_125 : decode prog_15_method_50_code 125 = .ok (.iload_n 2, 1) := by decide +kernel
theorem d_Mo_alike_126 : decode prog_15_method_50_code 126 = .ok (.laload, 1) := by decide +kernel
theorem d_Mo_alike_127 : decode prog_15_method_50_code 127 = .ok (.lcmp, 1) := by decide +kernel
theorem d_Mo_alike_128 : decode prog_15_method_50_code 128 = .ok (.ifCond .ne 7, 3) := by decide +kernel
theorem d_Mo_alike_135 : decode prog_15_method_50_code 135 = .ok (.iconst 0, 1) := by decide +kernel
theorem d_Mo_alike_136 : decode prog_15_method_50_code 136 = .ok (.ireturn, 1) := by decide +kernel
theorem d_Mo_alike_131 : decode prog_15_method_50_code 131 = .ok (.iconst 1, 1) := by decide +kernel
theorem d_Mo_alike_132 : decode prog_15_method_50_code 132 = .ok (.goto 4, 3) := by decide +kernel
theorem d_Mo_alike_60 : decode prog_15_method_50_code 60 = .ok (.aload_n 0, 1) := by decide +kernel
theorem d_Mo_alike_61 : decode prog_15_method_50_code 61 = .ok (.getfield 13, 3) := by decide +kernel
theorem d_Mo_alike_64 : decode prog_15_method_50_code 64 = .ok (.iload_n 1, 1) := by decide +kernel
theorem d_Mo_alike_65 : decode prog_15_method_50_code 65 = .ok (.laload, 1) := by decide +kernel
theorem d_Mo_alike_66 : decode prog_15_method_50_code 66 = .ok (.invokestatic 391, 3) := by decide +kernel
theorem k_8_7 : Cond.code ⟨"PageScribeModel", "count", "(J)I"⟩ prog_15_method_7_code 2 (some .int) ∈ gw := gw_of (tb_8 (List.mem_of_getElem? (i := 7) (by decide +kernel))) (by decide +kernel)
theorem k_8_5 : Cond.methodLink "PageScribeModel" 391 ⟨"PageScribeModel", "count", "(J)I"⟩ ∈ gw := gw_of (tb_8 (List.mem_of_getElem? (i := 5) (by decide +kernel))) (by decide +kernel)
theorem k_8_6 : Cond.static ⟨"PageScribeModel", "count", "(J)I"⟩ ∈ gw := gw_of (tb_8 (List.mem_of_getElem? (i := 6) (by decide +kernel))) (by decide +kernel)
theorem d_Mo_alike_69 : decode prog_15_method_50_code 69 = .ok (.aload_n 0, 1) := by decide +kernel
theorem d_Mo_alike_70 : decode prog_15_method_50_code 70 = .ok (.getfield 13, 3) := by decide +kernel
theorem d_Mo_alike_73 : decode prog_15_method_50_code 73 = .ok (.iload_n 2, 1) := by decide +kernel
theorem d_Mo_alike_74 : decode prog_15_method_50_code 74 = .ok (.laload, 1) := by decide +kernel
theorem d_Mo_alike_75 : decode prog_15_method_50_code 75 = .ok (.invokestatic 391, 3) := by decide +kernel
theorem d_Mo_alike_78 : decode prog_15_method_50_code 78 = .ok (.if_icmp .ne 35, 3) := by decide +kernel
theorem d_Mo_alike_113 : decode prog_15_method_50_code 113 = .ok (.iconst 0, 1) := by decide +kernel
theorem d_Mo_alike_114 : decode prog_15_method_50_code 114 = .ok (.ireturn, 1) := by decide +kernel
theorem d_Mo_alike_81 : decode prog_15_method_50_code 81 = .ok (.aload_n 0, 1) := by decide +kernel
theorem d_Mo_alike_82 : decode prog_15_method_50_code 82 = .ok (.getfield 13, 3) := by decide +kernel
theorem d_Mo_alike_85 : decode prog_15_method_50_code 85 = .ok (.iload_n 1, 1) := by decide +kernel
theorem d_Mo_alike_86 : decode prog_15_method_50_code 86 = .ok (.laload, 1) := by decide +kernel
theorem d_Mo_alike_87 : decode prog_15_method_50_code 87 = .ok (.invokestatic 391, 3) := by decide +kernel
theorem d_Mo_alike_90 : decode prog_15_method_50_code 90 = .ok (.ifCond .eq 19, 3) := by decide +kernel
theorem d_Mo_alike_109 : decode prog_15_method_50_code 109 = .ok (.iconst 1, 1) := by decide +kernel
theorem d_Mo_alike_110 : decode prog_15_method_50_code 110 = .ok (.goto 4, 3) := by decide +kernel
theorem d_Mo_alike_93 : decode prog_15_method_50_code 93 = .ok (.aload_n 0, 1) := by decide +kernel
theorem d_Mo_alike_94 : decode prog_15_method_50_code 94 = .ok (.getfield 13, 3) := by decide +kernel
theorem d_Mo_alike_97 : decode prog_15_method_50_code 97 = .ok (.iload_n 1, 1) := by decide +kernel
theorem d_Mo_alike_98 : decode prog_15_method_50_code 98 = .ok (.laload, 1) := by decide +kernel
theorem d_Mo_alike_99 : decode prog_15_method_50_code 99 = .ok (.aload_n 0, 1) := by decide +kernel
theorem d_Mo_alike_100 : decode prog_15_method_50_code 100 = .ok (.getfield 13, 3) := by decide +kernel
theorem d_Mo_alike_103 : decode prog_15_method_50_code 103 = .ok (.iload_n 2, 1) := by decide +kernel
theorem d_Mo_alike_104 : decode prog_15_method_50_code 104 = .ok (.laload, 1) := by decide +kernel
theorem d_Mo_alike_105 : decode prog_15_method_50_code 105 = .ok (.lcmp, 1) := by decide +kernel
theorem d_Mo_alike_106 : decode prog_15_method_50_code 106 = .ok (.ifCond .ne 7, 3) := by decide +kernel
theorem d_Mo_alike_49 : decode prog_15_method_50_code 49 = .ok (.iconst 0, 1) := by decide +kernel
theorem d_Mo_alike_50 : decode prog_15_method_50_code 50 = .ok (.ireturn, 1) := by decide +kernel
theorem d_Mo_alike_8 : decode prog_15_method_50_code 8 = .ok (.aload_n 0, 1) := by decide +kernel
theorem d_Mo_alike_9 : decode prog_15_method_50_code 9 = .ok (.iload_n 2, 1) := by decide +kernel
theorem d_Mo_alike_10 : decode prog_15_method_50_code 10 = .ok (.invokevirtual 418, 3) := by decide +kernel
theorem d_Mo_alike_13 : decode prog_15_method_50_code 13 = .ok (.ifCond .eq 23, 3) := by decide +kernel
theorem d_Mo_alike_16 : decode prog_15_method_50_code 16 = .ok (.aload_n 0, 1) := by decide +kernel
theorem d_Mo_alike_17 : decode prog_15_method_50_code 17 = .ok (.iload_n 1, 1) := by decide +kernel
theorem d_Mo_alike_18 : decode prog_15_method_50_code 18 = .ok (.invokevirtual 473, 3) := by decide +kernel
theorem k_7_207 : Cond.code ⟨"PageScribeModel", "numberAt", "(I)D"⟩ prog_15_method_10_code 2 (some .double) ∈ gw := gw_of (tb_7 (List.mem_of_getElem? (i := 207) (by decide +kernel))) (by decide +kernel)
theorem k_7_204 : Cond.methodLink "PageScribeModel" 473 ⟨"PageScribeModel", "numberAt", "(I)D"⟩ ∈ gw := gw_of (tb_7 (List.mem_of_getElem? (i := 204) (by decide +kernel))) (by decide +kernel)
theorem k_7_206 : Cond.instanceMethod ⟨"PageScribeModel", "numberAt", "(I)D"⟩ ∈ gw := gw_of (tb_7 (List.mem_of_getElem? (i := 206) (by decide +kernel))) (by decide +kernel)
theorem k_0_110 : Cond.selects "PageScribeModel" ⟨"PageScribeModel", "numberAt", "(I)D"⟩ ⟨"PageScribeModel", "numberAt", "(I)D"⟩ ∈ gw := gw_of (tb_0 (List.mem_of_getElem? (i := 110) (by decide +kernel))) (by decide +kernel)
theorem d_Mo_alike_21 : decode prog_15_method_50_code 21 = .ok (.aload_n 0, 1) := by decide +kernel
theorem d_Mo_alike_22 : decode prog_15_method_50_code 22 = .ok (.iload_n 2, 1) := by decide +kernel
theorem d_Mo_alike_23 : decode prog_15_method_50_code 23 = .ok (.invokevirtual 473, 3) := by decide +kernel
theorem d_Mo_alike_26 : decode prog_15_method_50_code 26 = .ok (.dcmp .l, 1) := by decide +kernel
theorem d_Mo_alike_27 : decode prog_15_method_50_code 27 = .ok (.ifCond .ne 7, 3) := by decide +kernel
theorem d_Mo_alike_34 : decode prog_15_method_50_code 34 = .ok (.iconst 0, 1) := by decide +kernel
theorem d_Mo_alike_35 : decode prog_15_method_50_code 35 = .ok (.ireturn, 1) := by decide +kernel
theorem d_Mo_alike_30 : decode prog_15_method_50_code 30 = .ok (.iconst 1, 1) := by decide +kernel
theorem d_Mo_alike_31 : decode prog_15_method_50_code 31 = .ok (.goto 4, 3) := by decide +kernel
set_option maxHeartbeats 4000000 in
set_option maxRecDepth 100000 in
theorem m_alike (l : Launch) (D : va_G) (T : Nat → ClassId) (h0 : Nat) (ar : Nat → Nat) (S : MS) (p0 : Int32) (p1 : Int32) (sz : Nat) (hI : MI S) (h1 : 0 ≤ p0.toInt ∧ p0.toInt < 1300) (h2 : 0 ≤ p1.toInt ∧ p1.toInt < 1300) : Met l ⟨"PageScribeModel", "alike", "(II)Z"⟩ (wy ⟨"PageScribeModel", "alike", "(II)Z"⟩ prog_15_method_50_code 3 (some .boolean)) ({ frames := 1, cells := 0, slots := 0, locals := 70 }) (va_Pc [.ref h0, .int p0, .int p1] (Pw D T (mW T h0 ar S) sz E0)) (va_Qi (fun (r : Int32) (u : Unit) => r.toInt = 0 ∨ r.toInt = 1) (fun u t => Bw D T (va_A (mW T h0 ar S) sz) (mW T h0 ar S) t) (va_A (mW T h0 ar S) sz)) 0 0 (va_A (mW T h0 ar S) sz) := by
  refine j_met (y := ⟨"PageScribeModel", "alike", "(II)Z"⟩) (b := prog_15_method_50_code) (n := 3) (ret := (some .boolean)) (av := [.ref h0, .int p0, .int p1]) (Qc := fun A => va_Qi (fun (r : Int32) (u : Unit) => r.toInt = 0 ∨ r.toInt = 1) (fun u t => Bw D T A (mW T h0 ar S) t) A) (by decide +kernel) (Nat.le_of_ble_eq_true rfl) (fun p e s m args below meth c A ls F hr hlocks hnm hK hP hD hS hA hN hE hl => ?_)
  obtain ⟨hx, hb, hml, hown, hts⟩ := id F
  have hl : lv_has ls 3 [(0, .ref h0), (1, .int p0), (2, .int p1)] := hl
  obtain ⟨i_size, i_taken, i_vals, i_room, i_dicts, i_deep, i_open, i_cells, i_points, i_part, i_length, i_knows, i_page, i_text, i_pats, i_fuel, i_fr, i_ink⟩ := id hI
  refine lv_aload_n hx hb d_Mo_alike_0 rfl (lv_at hl 0 rfl) ?_
  refine lv_iload_n hx hb d_Mo_alike_1 rfl (lv_at hl 1 rfl) ?_
  have kv1 : vOk ((a_kinds S) (p0.toInt.toNat)) ((a_codes S) (p0.toInt.toNat)) ((a_reals S) (p0.toInt.toNat)) := i_vals (p0.toInt.toNat) (by omega)
  have rkv1 := vk_rng kv1
  refine jm_ci (w := (fun _ => S)) hK hP hD hS hA (va_runV (As := [.int p0]) (rest := []) F (m_isNumber l D T h0 ar S p0 s.heap.size (show 0 ≤ p0.toInt ∧ p0.toInt < 1300 by omega)) (j_cV (k := 1) (C := "PageScribeModel") hts k_7_166 k_1_12 k_7_163 k_7_165 k_0_100 (by decide +kernel) ⟨Nat.le_of_ble_eq_true rfl, Nat.le_of_ble_eq_true rfl⟩) (jm_pre hK hP hD) rfl rfl hl.1 rfl (lv_room (Nat.le_of_ble_eq_true rfl)) d_Mo_alike_2 ⟨Nat.le_of_ble_eq_true rfl, Nat.le_of_ble_eq_true rfl⟩) (fun rv1 u1 H locs hw1 hP hD hS => ?_)
  have hP : va_P D classes (mW T h0 ar S) H := hP
  have hD : va_D A (mW T h0 ar S) := hD
  have qhw1 : (rv1.toInt = 1 ∧ ((a_kinds S) p0.toInt.toNat).toInt < 2) ∨ (rv1.toInt = 0 ∧ ¬ ((a_kinds S) p0.toInt.toNat).toInt < 2) := hw1
  refine lv_if_eq (tgt := 36) hx hb d_Mo_alike_5 (by decide) (fun c5_1 => ?_) (fun c5_1 => ?_)
  · have fc5_1 : rv1.toInt = 0 := zt_eq (show rv1.toInt = _ from rfl) tI_0 c5_1
    refine lv_aload_n hx hb d_Mo_alike_36 rfl (lv_at hl 0 rfl) ?_
    refine lv_iload_n hx hb d_Mo_alike_37 rfl (lv_at hl 1 rfl) ?_
    refine jm_ci (w := (fun _ => S)) hK hP hD hS hA (va_runV (As := [.int p0]) (rest := []) F (m_kindOf l D T h0 ar S p0 H.size (show 0 ≤ p0.toInt ∧ p0.toInt < 1300 by omega) (show 0 ≤ ((a_kinds S) p0.toInt.toNat).toInt by omega)) (j_cV (k := 1) (C := "PageScribeModel") hts k_7_174 k_1_12 k_7_171 k_7_173 k_0_102 (by decide +kernel) ⟨Nat.le_of_ble_eq_true rfl, Nat.le_of_ble_eq_true rfl⟩) (jm_pre hK hP hD) rfl rfl hl.1 rfl (lv_room (Nat.le_of_ble_eq_true rfl)) d_Mo_alike_38 ⟨Nat.le_of_ble_eq_true rfl, Nat.le_of_ble_eq_true rfl⟩) (fun rv2 u2 H locs hw2 hP hD hS => ?_)
    have hP : va_P D classes (mW T h0 ar S) H := hP
    have hD : va_D A (mW T h0 ar S) := hD
    have qhw2 : rv2.toInt = ((a_kinds S) p0.toInt.toNat).toInt % 8 := hw2
    refine lv_aload_n hx hb d_Mo_alike_41 rfl (lv_at hl 0 rfl) ?_
    refine lv_iload_n hx hb d_Mo_alike_42 rfl (lv_at hl 2 rfl) ?_
    have kv2 : vOk ((a_kinds S) (p1.toInt.toNat)) ((a_codes S) (p1.toInt.toNat)) ((a_reals S) (p1.toInt.toNat)) := i_vals (p1.toInt.toNat) (by omega)
    have rkv2 := vk_rng kv2
    refine jm_ci (w := (fun _ => S)) hK hP hD hS hA (va_runV (As := [.int p1]) (rest := [.int rv2]) F (m_kindOf l D T h0 ar S p1 H.size (show 0 ≤ p1.toInt ∧ p1.toInt < 1300 by omega) (show 0 ≤ ((a_kinds S) p1.toInt.toNat).toInt by omega)) (j_cV (k := 1) (C := "PageScribeModel") hts k_7_174 k_1_12 k_7_171 k_7_173 k_0_102 (by decide +kernel) ⟨Nat.le_of_ble_eq_true rfl, Nat.le_of_ble_eq_true rfl⟩) (jm_pre hK hP hD) rfl rfl hl.1 rfl (lv_room (Nat.le_of_ble_eq_true rfl)) d_Mo_alike_43 ⟨Nat.le_of_ble_eq_true rfl, Nat.le_of_ble_eq_true rfl⟩) (fun rv3 u3 H locs hw3 hP hD hS => ?_)
    have hP : va_P D classes (mW T h0 ar S) H := hP
    have hD : va_D A (mW T h0 ar S) := hD
    have qhw3 : rv3.toInt = ((a_kinds S) p1.toInt.toNat).toInt % 8 := hw3
    refine lv_icmp_eq (tgt := 51) hx hb d_Mo_alike_46 (by decide) (fun c46_1 => ?_) (fun c46_1 => ?_)
    · have fc46_1 : rv2.toInt = rv3.toInt := zt_eq (show rv2.toInt = _ from rfl) (show rv3.toInt = _ from rfl) c46_1
      refine lv_aload_n hx hb d_Mo_alike_51 rfl (lv_at hl 0 rfl) ?_
      refine lv_iload_n hx hb d_Mo_alike_52 rfl (lv_at hl 1 rfl) ?_
      refine jm_ci (w := (fun _ => S)) hK hP hD hS hA (va_runV (As := [.int p0]) (rest := []) F (m_kindOf l D T h0 ar S p0 H.size (show 0 ≤ p0.toInt ∧ p0.toInt < 1300 by omega) (show 0 ≤ ((a_kinds S) p0.toInt.toNat).toInt by omega)) (j_cV (k := 1) (C := "PageScribeModel") hts k_7_174 k_1_12 k_7_171 k_7_173 k_0_102 (by decide +kernel) ⟨Nat.le_of_ble_eq_true rfl, Nat.le_of_ble_eq_true rfl⟩) (jm_pre hK hP hD) rfl rfl hl.1 rfl (lv_room (Nat.le_of_ble_eq_true rfl)) d_Mo_alike_53 ⟨Nat.le_of_ble_eq_true rfl, Nat.le_of_ble_eq_true rfl⟩) (fun rv4 u4 H locs hw4 hP hD hS => ?_)
      have hP : va_P D classes (mW T h0 ar S) H := hP
      have hD : va_D A (mW T h0 ar S) := hD
      have qhw4 : rv4.toInt = ((a_kinds S) p0.toInt.toNat).toInt % 8 := hw4
      refine lv_iconst (v := 5) hx hb d_Mo_alike_56 (by decide) ?_
      refine lv_icmp_ne (tgt := 115) hx hb d_Mo_alike_57 (by decide) (fun c57_1 => ?_) (fun c57_1 => ?_)
      · first | have fc57_1 : rv4.toInt < 5 := (by have := zt_ne (show rv4.toInt = _ from rfl) tI_5 c57_1; omega) | have fc57_1 : 5 < rv4.toInt := (by have := zt_ne (show rv4.toInt = _ from rfl) tI_5 c57_1; omega) | skip
        refine lv_aload_n hx hb d_Mo_alike_115 rfl (lv_at hl 0 rfl) ?_
        refine va_get (D := D) (ci := 11) (v := .ref (ar 1)) (C := "PageScribeModel") (T := F_Mo) (N := 45) hx hb hts i_Mo hown hK hP 0 mW_0 cl_11 2 (by decide) (hts _ k_6_162) (fun _ h9 => h9) (mg_codes _ _) d_Mo_alike_116 ?_
        refine lv_iload_n hx hb d_Mo_alike_119 rfl (lv_at hl 1 rfl) ?_
        refine va_lald hx hb hK hP 2 1 (ma_codes _ _ _ _) rfl (zt_in (show p0.toInt = _ from rfl) (by omega) (by omega)) d_Mo_alike_120 ?_
        refine lv_topl (fun x1 ex1 => ?_)
        have gx1 : x1 = (a_codes S) p0.toInt.toNat := ex1.trans (congrArg _ (zt_ix (show p0.toInt = _ from rfl)))
        have fx1 : x1.toInt = ((a_codes S) p0.toInt.toNat).toInt := by rw [gx1]
        have kx1 : vOk ((a_kinds S) p0.toInt.toNat) ((a_codes S) p0.toInt.toNat) ((a_reals S) p0.toInt.toNat) := i_vals (p0.toInt.toNat) (by omega)
        refine lv_aload_n hx hb d_Mo_alike_121 rfl (lv_at hl 0 rfl) ?_
        refine va_get (D := D) (ci := 11) (v := .ref (ar 1)) (C := "PageScribeModel") (T := F_Mo) (N := 45) hx hb hts i_Mo hown hK hP 0 mW_0 cl_11 2 (by decide) (hts _ k_6_162) (fun _ h9 => h9) (mg_codes _ _) d_Mo_alike_122 ?_
        refine lv_iload_n hx hb d_Mo_alike_125 rfl (lv_at hl 2 rfl) ?_
        refine va_lald hx hb hK hP 2 1 (ma_codes _ _ _ _) rfl (zt_in (show p1.toInt = _ from rfl) (by omega) (by omega)) d_Mo_alike_126 ?_
        refine lv_topl (fun x2 ex2 => ?_)
        have gx2 : x2 = (a_codes S) p1.toInt.toNat := ex2.trans (congrArg _ (zt_ix (show p1.toInt = _ from rfl)))
        have fx2 : x2.toInt = ((a_codes S) p1.toInt.toNat).toInt := by rw [gx2]
        have kx2 : vOk ((a_kinds S) p1.toInt.toNat) ((a_codes S) p1.toInt.toNat) ((a_reals S) p1.toInt.toNat) := i_vals (p1.toInt.toNat) (by omega)
        refine W.lcmp hx hb d_Mo_alike_127 ?_
        refine lv_topi (fun x3 ex3 => ?_)
        refine lv_if_ne (tgt := 135) hx hb d_Mo_alike_128 (by decide) (fun c128_1 => ?_) (fun c128_1 => ?_)
        · first | have fc128_1 : x3.toInt < 0 := (by have := zt_ne (show x3.toInt = _ from rfl) tI_0 c128_1; omega) | have fc128_1 : 0 < x3.toInt := (by have := zt_ne (show x3.toInt = _ from rfl) tI_0 c128_1; omega) | skip
          have vc128_1 : ¬ x1.toInt = x2.toInt := by have := zr_cmp ex3 (show x1.toInt = _ from rfl) (show x2.toInt = _ from rfl); have := zt_ne (show x3.toInt = _ from rfl) tI_0 c128_1; omega
          refine lv_iconst (v := 0) hx hb d_Mo_alike_135 (by decide) ?_
          exact j_zret F hr (by decide +kernel) hlocks hK hS () (show (0 : Int32).toInt = 0 ∨ (0 : Int32).toInt = 1 by have := tI_0; omega) hP hD d_Mo_alike_136
        · have fc128_1 : x3.toInt = 0 := zt_eq (show x3.toInt = _ from rfl) tI_0 c128_1
          have vc128_1 : x1.toInt = x2.toInt := by have := zr_cmp ex3 (show x1.toInt = _ from rfl) (show x2.toInt = _ from rfl); have := zt_eq (show x3.toInt = _ from rfl) tI_0 c128_1; omega
          refine lv_iconst (v := 1) hx hb d_Mo_alike_131 (by decide) ?_
          refine lv_goto (tgt := 136) hx hb d_Mo_alike_132 (by decide) ?_
          exact j_zret F hr (by decide +kernel) hlocks hK hS () (show (1 : Int32).toInt = 0 ∨ (1 : Int32).toInt = 1 by have := tI_1; omega) hP hD d_Mo_alike_136
      · have fc57_1 : rv4.toInt = 5 := zt_eq (show rv4.toInt = _ from rfl) tI_5 c57_1
        refine lv_aload_n hx hb d_Mo_alike_60 rfl (lv_at hl 0 rfl) ?_
        refine va_get (D := D) (ci := 11) (v := .ref (ar 1)) (C := "PageScribeModel") (T := F_Mo) (N := 45) hx hb hts i_Mo hown hK hP 0 mW_0 cl_11 2 (by decide) (hts _ k_6_162) (fun _ h9 => h9) (mg_codes _ _) d_Mo_alike_61 ?_
        refine lv_iload_n hx hb d_Mo_alike_64 rfl (lv_at hl 1 rfl) ?_
        refine va_lald hx hb hK hP 2 1 (ma_codes _ _ _ _) rfl (zt_in (show p0.toInt = _ from rfl) (by omega) (by omega)) d_Mo_alike_65 ?_
        refine lv_topl (fun x4 ex4 => ?_)
        have gx4 : x4 = (a_codes S) p0.toInt.toNat := ex4.trans (congrArg _ (zt_ix (show p0.toInt = _ from rfl)))
        have fx4 : x4.toInt = ((a_codes S) p0.toInt.toNat).toInt := by rw [gx4]
        have kx4 : vOk ((a_kinds S) p0.toInt.toNat) ((a_codes S) p0.toInt.toNat) ((a_reals S) p0.toInt.toNat) := i_vals (p0.toInt.toNat) (by omega)
        have ax4 := vk_ar8 kx4 (by omega)
        have bx4 : cOk x4 := by rw [gx4]; exact ax4
        refine j_ci (wc := []) (wr := (mW T h0 ar S)) hK hP hD hS hA [] isc rfl isc_all isc_nd (fun _ _ => List.not_mem_nil) (va_runS (As := [.long x4]) (rest := []) F (m_count l D T x4 H.size (show 0 ≤ x4.toInt ∧ x4.toInt < 1048576 by omega)) (j_cS (k := 1) hts k_8_7 k_1_12 k_8_5 k_8_6 (by decide +kernel) ⟨Nat.le_of_ble_eq_true rfl, Nat.le_of_ble_eq_true rfl⟩) (j_preS hK hP hD [] rfl (by decide) (fun _ _ _ _ h => h) (fun _ _ _ => trivial)) rfl rfl hl.1 rfl (lv_room (Nat.le_of_ble_eq_true rfl)) d_Mo_alike_66 ⟨Nat.le_of_ble_eq_true rfl, Nat.le_of_ble_eq_true rfl⟩) (fun rv5 u5 H locs hw5 hP hD hS => ?_)
        have hP : va_P D classes (mW T h0 ar S) H := hP
        have hD : va_D A (mW T h0 ar S) := hD
        have qhw5 : rv5.toInt = x4.toInt / 1024 := hw5
        refine lv_aload_n hx hb d_Mo_alike_69 rfl (lv_at hl 0 rfl) ?_
        refine va_get (D := D) (ci := 11) (v := .ref (ar 1)) (C := "PageScribeModel") (T := F_Mo) (N := 45) hx hb hts i_Mo hown hK hP 0 mW_0 cl_11 2 (by decide) (hts _ k_6_162) (fun _ h9 => h9) (mg_codes _ _) d_Mo_alike_70 ?_
        refine lv_iload_n hx hb d_Mo_alike_73 rfl (lv_at hl 2 rfl) ?_
        refine va_lald hx hb hK hP 2 1 (ma_codes _ _ _ _) rfl (zt_in (show p1.toInt = _ from rfl) (by omega) (by omega)) d_Mo_alike_74 ?_
        refine lv_topl (fun x5 ex5 => ?_)
        have gx5 : x5 = (a_codes S) p1.toInt.toNat := ex5.trans (congrArg _ (zt_ix (show p1.toInt = _ from rfl)))
        have fx5 : x5.toInt = ((a_codes S) p1.toInt.toNat).toInt := by rw [gx5]
        have kx5 : vOk ((a_kinds S) p1.toInt.toNat) ((a_codes S) p1.toInt.toNat) ((a_reals S) p1.toInt.toNat) := i_vals (p1.toInt.toNat) (by omega)
        have ax5 := vk_ar8 kx5 (by omega)
        have bx5 : cOk x5 := by rw [gx5]; exact ax5
        refine j_ci (wc := []) (wr := (mW T h0 ar S)) hK hP hD hS hA [] isc rfl isc_all isc_nd (fun _ _ => List.not_mem_nil) (va_runS (As := [.long x5]) (rest := [.int rv5]) F (m_count l D T x5 H.size (show 0 ≤ x5.toInt ∧ x5.toInt < 1048576 by omega)) (j_cS (k := 1) hts k_8_7 k_1_12 k_8_5 k_8_6 (by decide +kernel) ⟨Nat.le_of_ble_eq_true rfl, Nat.le_of_ble_eq_true rfl⟩) (j_preS hK hP hD [] rfl (by decide) (fun _ _ _ _ h => h) (fun _ _ _ => trivial)) rfl rfl hl.1 rfl (lv_room (Nat.le_of_ble_eq_true rfl)) d_Mo_alike_75 ⟨Nat.le_of_ble_eq_true rfl, Nat.le_of_ble_eq_true rfl⟩) (fun rv6 u6 H locs hw6 hP hD hS => ?_)
        have hP : va_P D classes (mW T h0 ar S) H := hP
        have hD : va_D A (mW T h0 ar S) := hD
        have qhw6 : rv6.toInt = x5.toInt / 1024 := hw6
        refine lv_icmp_ne (tgt := 113) hx hb d_Mo_alike_78 (by decide) (fun c78_1 => ?_) (fun c78_1 => ?_)
        · first | have fc78_1 : rv5.toInt < rv6.toInt := (by have := zt_ne (show rv5.toInt = _ from rfl) (show rv6.toInt = _ from rfl) c78_1; omega) | have fc78_1 : rv6.toInt < rv5.toInt := (by have := zt_ne (show rv5.toInt = _ from rfl) (show rv6.toInt = _ from rfl) c78_1; omega) | skip
          refine lv_iconst (v := 0) hx hb d_Mo_alike_113 (by decide) ?_
          exact j_zret F hr (by decide +kernel) hlocks hK hS () (show (0 : Int32).toInt = 0 ∨ (0 : Int32).toInt = 1 by have := tI_0; omega) hP hD d_Mo_alike_114
        · have fc78_1 : rv5.toInt = rv6.toInt := zt_eq (show rv5.toInt = _ from rfl) (show rv6.toInt = _ from rfl) c78_1
          refine lv_aload_n hx hb d_Mo_alike_81 rfl (lv_at hl 0 rfl) ?_
          refine va_get (D := D) (ci := 11) (v := .ref (ar 1)) (C := "PageScribeModel") (T := F_Mo) (N := 45) hx hb hts i_Mo hown hK hP 0 mW_0 cl_11 2 (by decide) (hts _ k_6_162) (fun _ h9 => h9) (mg_codes _ _) d_Mo_alike_82 ?_
          refine lv_iload_n hx hb d_Mo_alike_85 rfl (lv_at hl 1 rfl) ?_
          refine va_lald hx hb hK hP 2 1 (ma_codes _ _ _ _) rfl (zt_in (show p0.toInt = _ from rfl) (by omega) (by omega)) d_Mo_alike_86 ?_
          refine lv_topl (fun x6 ex6 => ?_)
          have gx6 : x6 = (a_codes S) p0.toInt.toNat := ex6.trans (congrArg _ (zt_ix (show p0.toInt = _ from rfl)))
          have fx6 : x6.toInt = ((a_codes S) p0.toInt.toNat).toInt := by rw [gx6]
          have kx6 : vOk ((a_kinds S) p0.toInt.toNat) ((a_codes S) p0.toInt.toNat) ((a_reals S) p0.toInt.toNat) := i_vals (p0.toInt.toNat) (by omega)
          have ax6 := vk_ar8 kx6 (by omega)
          have bx6 : cOk x6 := by rw [gx6]; exact ax6
          refine j_ci (wc := []) (wr := (mW T h0 ar S)) hK hP hD hS hA [] isc rfl isc_all isc_nd (fun _ _ => List.not_mem_nil) (va_runS (As := [.long x6]) (rest := []) F (m_count l D T x6 H.size (show 0 ≤ x6.toInt ∧ x6.toInt < 1048576 by omega)) (j_cS (k := 1) hts k_8_7 k_1_12 k_8_5 k_8_6 (by decide +kernel) ⟨Nat.le_of_ble_eq_true rfl, Nat.le_of_ble_eq_true rfl⟩) (j_preS hK hP hD [] rfl (by decide) (fun _ _ _ _ h => h) (fun _ _ _ => trivial)) rfl rfl hl.1 rfl (lv_room (Nat.le_of_ble_eq_true rfl)) d_Mo_alike_87 ⟨Nat.le_of_ble_eq_true rfl, Nat.le_of_ble_eq_true rfl⟩) (fun rv7 u7 H locs hw7 hP hD hS => ?_)
          have hP : va_P D classes (mW T h0 ar S) H := hP
          have hD : va_D A (mW T h0 ar S) := hD
          have qhw7 : rv7.toInt = x6.toInt / 1024 := hw7
          refine lv_if_eq (tgt := 109) hx hb d_Mo_alike_90 (by decide) (fun c90_1 => ?_) (fun c90_1 => ?_)
          · have fc90_1 : rv7.toInt = 0 := zt_eq (show rv7.toInt = _ from rfl) tI_0 c90_1
            refine lv_iconst (v := 1) hx hb d_Mo_alike_109 (by decide) ?_
            refine lv_goto (tgt := 114) hx hb d_Mo_alike_110 (by decide) ?_
            exact j_zret F hr (by decide +kernel) hlocks hK hS () (show (1 : Int32).toInt = 0 ∨ (1 : Int32).toInt = 1 by have := tI_1; omega) hP hD d_Mo_alike_114
          · first | have fc90_1 : rv7.toInt < 0 := (by have := zt_ne (show rv7.toInt = _ from rfl) tI_0 c90_1; omega) | have fc90_1 : 0 < rv7.toInt := (by have := zt_ne (show rv7.toInt = _ from rfl) tI_0 c90_1; omega) | skip
            refine lv_aload_n hx hb d_Mo_alike_93 rfl (lv_at hl 0 rfl) ?_
            refine va_get (D := D) (ci := 11) (v := .ref (ar 1)) (C := "PageScribeModel") (T := F_Mo) (N := 45) hx hb hts i_Mo hown hK hP 0 mW_0 cl_11 2 (by decide) (hts _ k_6_162) (fun _ h9 => h9) (mg_codes _ _) d_Mo_alike_94 ?_
            refine lv_iload_n hx hb d_Mo_alike_97 rfl (lv_at hl 1 rfl) ?_
            refine va_lald hx hb hK hP 2 1 (ma_codes _ _ _ _) rfl (zt_in (show p0.toInt = _ from rfl) (by omega) (by omega)) d_Mo_alike_98 ?_
            refine lv_topl (fun x7 ex7 => ?_)
            have gx7 : x7 = (a_codes S) p0.toInt.toNat := ex7.trans (congrArg _ (zt_ix (show p0.toInt = _ from rfl)))
            have fx7 : x7.toInt = ((a_codes S) p0.toInt.toNat).toInt := by rw [gx7]
            have kx7 : vOk ((a_kinds S) p0.toInt.toNat) ((a_codes S) p0.toInt.toNat) ((a_reals S) p0.toInt.toNat) := i_vals (p0.toInt.toNat) (by omega)
            refine lv_aload_n hx hb d_Mo_alike_99 rfl (lv_at hl 0 rfl) ?_
            refine va_get (D := D) (ci := 11) (v := .ref (ar 1)) (C := "PageScribeModel") (T := F_Mo) (N := 45) hx hb hts i_Mo hown hK hP 0 mW_0 cl_11 2 (by decide) (hts _ k_6_162) (fun _ h9 => h9) (mg_codes _ _) d_Mo_alike_100 ?_
            refine lv_iload_n hx hb d_Mo_alike_103 rfl (lv_at hl 2 rfl) ?_
            refine va_lald hx hb hK hP 2 1 (ma_codes _ _ _ _) rfl (zt_in (show p1.toInt = _ from rfl) (by omega) (by omega)) d_Mo_alike_104 ?_
            refine lv_topl (fun x8 ex8 => ?_)
            have gx8 : x8 = (a_codes S) p1.toInt.toNat := ex8.trans (congrArg _ (zt_ix (show p1.toInt = _ from rfl)))
            have fx8 : x8.toInt = ((a_codes S) p1.toInt.toNat).toInt := by rw [gx8]
            have kx8 : vOk ((a_kinds S) p1.toInt.toNat) ((a_codes S) p1.toInt.toNat) ((a_reals S) p1.toInt.toNat) := i_vals (p1.toInt.toNat) (by omega)
            refine W.lcmp hx hb d_Mo_alike_105 ?_
            refine lv_topi (fun x9 ex9 => ?_)
            refine lv_if_ne (tgt := 113) hx hb d_Mo_alike_106 (by decide) (fun c106_1 => ?_) (fun c106_1 => ?_)
            · first | have fc106_1 : x9.toInt < 0 := (by have := zt_ne (show x9.toInt = _ from rfl) tI_0 c106_1; omega) | have fc106_1 : 0 < x9.toInt := (by have := zt_ne (show x9.toInt = _ from rfl) tI_0 c106_1; omega) | skip
              have vc106_1 : ¬ x7.toInt = x8.toInt := by have := zr_cmp ex9 (show x7.toInt = _ from rfl) (show x8.toInt = _ from rfl); have := zt_ne (show x9.toInt = _ from rfl) tI_0 c106_1; omega
              refine lv_iconst (v := 0) hx hb d_Mo_alike_113 (by decide) ?_
              exact j_zret F hr (by decide +kernel) hlocks hK hS () (show (0 : Int32).toInt = 0 ∨ (0 : Int32).toInt = 1 by have := tI_0; omega) hP hD d_Mo_alike_114
            · have fc106_1 : x9.toInt = 0 := zt_eq (show x9.toInt = _ from rfl) tI_0 c106_1
              have vc106_1 : x7.toInt = x8.toInt := by have := zr_cmp ex9 (show x7.toInt = _ from rfl) (show x8.toInt = _ from rfl); have := zt_eq (show x9.toInt = _ from rfl) tI_0 c106_1; omega
              refine lv_iconst (v := 1) hx hb d_Mo_alike_109 (by decide) ?_
              refine lv_goto (tgt := 114) hx hb d_Mo_alike_110 (by decide) ?_
              exact j_zret F hr (by decide +kernel) hlocks hK hS () (show (1 : Int32).toInt = 0 ∨ (1 : Int32).toInt = 1 by have := tI_1; omega) hP hD d_Mo_alike_114
    · first | have fc46_1 : rv2.toInt < rv3.toInt := (by have := zt_ne (show rv2.toInt = _ from rfl) (show rv3.toInt = _ from rfl) c46_1; omega) | have fc46_1 : rv3.toInt < rv2.toInt := (by have := zt_ne (show rv2.toInt = _ from rfl) (show rv3.toInt = _ from rfl) c46_1; omega) | skip
      refine lv_iconst (v := 0) hx hb d_Mo_alike_49 (by decide) ?_
      exact j_zret F hr (by decide +kernel) hlocks hK hS () (show (0 : Int32).toInt = 0 ∨ (0 : Int32).toInt = 1 by have := tI_0; omega) hP hD d_Mo_alike_50
  · first | have fc5_1 : rv1.toInt < 0 := (by have := zt_ne (show rv1.toInt = _ from rfl) tI_0 c5_1; omega) | have fc5_1 : 0 < rv1.toInt := (by have := zt_ne (show rv1.toInt = _ from rfl) tI_0 c5_1; omega) | skip
    refine lv_aload_n hx hb d_Mo_alike_8 rfl (lv_at hl 0 rfl) ?_
    refine lv_iload_n hx hb d_Mo_alike_9 rfl (lv_at hl 2 rfl) ?_
    have kv3 : vOk ((a_kinds S) (p1.toInt.toNat)) ((a_codes S) (p1.toInt.toNat)) ((a_reals S) (p1.toInt.toNat)) := i_vals (p1.toInt.toNat) (by omega)
    have rkv3 := vk_rng kv3
    refine jm_ci (w := (fun _ => S)) hK hP hD hS hA (va_runV (As := [.int p1]) (rest := []) F (m_isNumber l D T h0 ar S p1 H.size (show 0 ≤ p1.toInt ∧ p1.toInt < 1300 by omega)) (j_cV (k := 1) (C := "PageScribeModel") hts k_7_166 k_1_12 k_7_163 k_7_165 k_0_100 (by decide +kernel) ⟨Nat.le_of_ble_eq_true rfl, Nat.le_of_ble_eq_true rfl⟩) (jm_pre hK hP hD) rfl rfl hl.1 rfl (lv_room (Nat.le_of_ble_eq_true rfl)) d_Mo_alike_10 ⟨Nat.le_of_ble_eq_true rfl, Nat.le_of_ble_eq_true rfl⟩) (fun rv8 u8 H locs hw8 hP hD hS => ?_)
    have hP : va_P D classes (mW T h0 ar S) H := hP
    have hD : va_D A (mW T h0 ar S) := hD
    have qhw8 : (rv8.toInt = 1 ∧ ((a_kinds S) p1.toInt.toNat).toInt < 2) ∨ (rv8.toInt = 0 ∧ ¬ ((a_kinds S) p1.toInt.toNat).toInt < 2) := hw8
    refine lv_if_eq (tgt := 36) hx hb d_Mo_alike_13 (by decide) (fun c13_1 => ?_) (fun c13_1 => ?_)
    · have fc13_1 : rv8.toInt = 0 := zt_eq (show rv8.toInt = _ from rfl) tI_0 c13_1
      refine lv_aload_n hx hb d_Mo_alike_36 rfl (lv_at hl 0 rfl) ?_
      refine lv_iload_n hx hb d_Mo_alike_37 rfl (lv_at hl 1 rfl) ?_
      refine jm_ci (w := (fun _ => S)) hK hP hD hS hA (va_runV (As := [.int p0]) (rest := []) F (m_kindOf l D T h0 ar S p0 H.size (show 0 ≤ p0.toInt ∧ p0.toInt < 1300 by omega) (show 0 ≤ ((a_kinds S) p0.toInt.toNat).toInt by omega)) (j_cV (k := 1) (C := "PageScribeModel") hts k_7_174 k_1_12 k_7_171 k_7_173 k_0_102 (by decide +kernel) ⟨Nat.le_of_ble_eq_true rfl, Nat.le_of_ble_eq_true rfl⟩) (jm_pre hK hP hD) rfl rfl hl.1 rfl (lv_room (Nat.le_of_ble_eq_true rfl)) d_Mo_alike_38 ⟨Nat.le_of_ble_eq_true rfl, Nat.le_of_ble_eq_true rfl⟩) (fun rv9 u9 H locs hw9 hP hD hS => ?_)
      have hP : va_P D classes (mW T h0 ar S) H := hP
      have hD : va_D A (mW T h0 ar S) := hD
      have qhw9 : rv9.toInt = ((a_kinds S) p0.toInt.toNat).toInt % 8 := hw9
      refine lv_aload_n hx hb d_Mo_alike_41 rfl (lv_at hl 0 rfl) ?_
      refine lv_iload_n hx hb d_Mo_alike_42 rfl (lv_at hl 2 rfl) ?_
      refine jm_ci (w := (fun _ => S)) hK hP hD hS hA (va_runV (As := [.int p1]) (rest := [.int rv9]) F (m_kindOf l D T h0 ar S p1 H.size (show 0 ≤ p1.toInt ∧ p1.toInt < 1300 by omega) (show 0 ≤ ((a_kinds S) p1.toInt.toNat).toInt by omega)) (j_cV (k := 1) (C := "PageScribeModel") hts k_7_174 k_1_12 k_7_171 k_7_173 k_0_102 (by decide +kernel) ⟨Nat.le_of_ble_eq_true rfl, Nat.le_of_ble_eq_true rfl⟩) (jm_pre hK hP hD) rfl rfl hl.1 rfl (lv_room (Nat.le_of_ble_eq_true rfl)) d_Mo_alike_43 ⟨Nat.le_of_ble_eq_true rfl, Nat.le_of_ble_eq_true rfl⟩) (fun rv10 u10 H locs hw10 hP hD hS => ?_)
      have hP : va_P D classes (mW T h0 ar S) H := hP
      have hD : va_D A (mW T h0 ar S) := hD
      have qhw10 : rv10.toInt = ((a_kinds S) p1.toInt.toNat).toInt % 8 := hw10
      refine lv_icmp_eq (tgt := 51) hx hb d_Mo_alike_46 (by decide) (fun c46_2 => ?_) (fun c46_2 => ?_)
      · have fc46_2 : rv9.toInt = rv10.toInt := zt_eq (show rv9.toInt = _ from rfl) (show rv10.toInt = _ from rfl) c46_2
        refine lv_aload_n hx hb d_Mo_alike_51 rfl (lv_at hl 0 rfl) ?_
        refine lv_iload_n hx hb d_Mo_alike_52 rfl (lv_at hl 1 rfl) ?_
        refine jm_ci (w := (fun _ => S)) hK hP hD hS hA (va_runV (As := [.int p0]) (rest := []) F (m_kindOf l D T h0 ar S p0 H.size (show 0 ≤ p0.toInt ∧ p0.toInt < 1300 by omega) (show 0 ≤ ((a_kinds S) p0.toInt.toNat).toInt by omega)) (j_cV (k := 1) (C := "PageScribeModel") hts k_7_174 k_1_12 k_7_171 k_7_173 k_0_102 (by decide +kernel) ⟨Nat.le_of_ble_eq_true rfl, Nat.le_of_ble_eq_true rfl⟩) (jm_pre hK hP hD) rfl rfl hl.1 rfl (lv_room (Nat.le_of_ble_eq_true rfl)) d_Mo_alike_53 ⟨Nat.le_of_ble_eq_true rfl, Nat.le_of_ble_eq_true rfl⟩) (fun rv11 u11 H locs hw11 hP hD hS => ?_)
        have hP : va_P D classes (mW T h0 ar S) H := hP
        have hD : va_D A (mW T h0 ar S) := hD
        have qhw11 : rv11.toInt = ((a_kinds S) p0.toInt.toNat).toInt % 8 := hw11
        refine lv_iconst (v := 5) hx hb d_Mo_alike_56 (by decide) ?_
        refine lv_icmp_ne (tgt := 115) hx hb d_Mo_alike_57 (by decide) (fun c57_2 => ?_) (fun c57_2 => ?_)
        · first | have fc57_2 : rv11.toInt < 5 := (by have := zt_ne (show rv11.toInt = _ from rfl) tI_5 c57_2; omega) | have fc57_2 : 5 < rv11.toInt := (by have := zt_ne (show rv11.toInt = _ from rfl) tI_5 c57_2; omega) | skip
          refine lv_aload_n hx hb d_Mo_alike_115 rfl (lv_at hl 0 rfl) ?_
          refine va_get (D := D) (ci := 11) (v := .ref (ar 1)) (C := "PageScribeModel") (T := F_Mo) (N := 45) hx hb hts i_Mo hown hK hP 0 mW_0 cl_11 2 (by decide) (hts _ k_6_162) (fun _ h9 => h9) (mg_codes _ _) d_Mo_alike_116 ?_
          refine lv_iload_n hx hb d_Mo_alike_119 rfl (lv_at hl 1 rfl) ?_
          refine va_lald hx hb hK hP 2 1 (ma_codes _ _ _ _) rfl (zt_in (show p0.toInt = _ from rfl) (by omega) (by omega)) d_Mo_alike_120 ?_
          refine lv_topl (fun x10 ex10 => ?_)
          have gx10 : x10 = (a_codes S) p0.toInt.toNat := ex10.trans (congrArg _ (zt_ix (show p0.toInt = _ from rfl)))
          have fx10 : x10.toInt = ((a_codes S) p0.toInt.toNat).toInt := by rw [gx10]
          have kx10 : vOk ((a_kinds S) p0.toInt.toNat) ((a_codes S) p0.toInt.toNat) ((a_reals S) p0.toInt.toNat) := i_vals (p0.toInt.toNat) (by omega)
          refine lv_aload_n hx hb d_Mo_alike_121 rfl (lv_at hl 0 rfl) ?_
          refine va_get (D := D) (ci := 11) (v := .ref (ar 1)) (C := "PageScribeModel") (T := F_Mo) (N := 45) hx hb hts i_Mo hown hK hP 0 mW_0 cl_11 2 (by decide) (hts _ k_6_162) (fun _ h9 => h9) (mg_codes _ _) d_Mo_alike_122 ?_
          refine lv_iload_n hx hb d_Mo_alike_125 rfl (lv_at hl 2 rfl) ?_
          refine va_lald hx hb hK hP 2 1 (ma_codes _ _ _ _) rfl (zt_in (show p1.toInt = _ from rfl) (by omega) (by omega)) d_Mo_alike_126 ?_
          refine lv_topl (fun x11 ex11 => ?_)
          have gx11 : x11 = (a_codes S) p1.toInt.toNat := ex11.trans (congrArg _ (zt_ix (show p1.toInt = _ from rfl)))
          have fx11 : x11.toInt = ((a_codes S) p1.toInt.toNat).toInt := by rw [gx11]
          have kx11 : vOk ((a_kinds S) p1.toInt.toNat) ((a_codes S) p1.toInt.toNat) ((a_reals S) p1.toInt.toNat) := i_vals (p1.toInt.toNat) (by omega)
          refine W.lcmp hx hb d_Mo_alike_127 ?_
          refine lv_topi (fun x12 ex12 => ?_)
          refine lv_if_ne (tgt := 135) hx hb d_Mo_alike_128 (by decide) (fun c128_2 => ?_) (fun c128_2 => ?_)
          · first | have fc128_2 : x12.toInt < 0 := (by have := zt_ne (show x12.toInt = _ from rfl) tI_0 c128_2; omega) | have fc128_2 : 0 < x12.toInt := (by have := zt_ne (show x12.toInt = _ from rfl) tI_0 c128_2; omega) | skip
            have vc128_2 : ¬ x10.toInt = x11.toInt := by have := zr_cmp ex12 (show x10.toInt = _ from rfl) (show x11.toInt = _ from rfl); have := zt_ne (show x12.toInt = _ from rfl) tI_0 c128_2; omega
            refine lv_iconst (v := 0) hx hb d_Mo_alike_135 (by decide) ?_
            exact j_zret F hr (by decide +kernel) hlocks hK hS () (show (0 : Int32).toInt = 0 ∨ (0 : Int32).toInt = 1 by have := tI_0; omega) hP hD d_Mo_alike_136
          · have fc128_2 : x12.toInt = 0 := zt_eq (show x12.toInt = _ from rfl) tI_0 c128_2
            have vc128_2 : x10.toInt = x11.toInt := by have := zr_cmp ex12 (show x10.toInt = _ from rfl) (show x11.toInt = _ from rfl); have := zt_eq (show x12.toInt = _ from rfl) tI_0 c128_2; omega
            refine lv_iconst (v := 1) hx hb d_Mo_alike_131 (by decide) ?_
            refine lv_goto (tgt := 136) hx hb d_Mo_alike_132 (by decide) ?_
            exact j_zret F hr (by decide +kernel) hlocks hK hS () (show (1 : Int32).toInt = 0 ∨ (1 : Int32).toInt = 1 by have := tI_1; omega) hP hD d_Mo_alike_136
        · have fc57_2 : rv11.toInt = 5 := zt_eq (show rv11.toInt = _ from rfl) tI_5 c57_2
          refine lv_aload_n hx hb d_Mo_alike_60 rfl (lv_at hl 0 rfl) ?_
          refine va_get (D := D) (ci := 11) (v := .ref (ar 1)) (C := "PageScribeModel") (T := F_Mo) (N := 45) hx hb hts i_Mo hown hK hP 0 mW_0 cl_11 2 (by decide) (hts _ k_6_162) (fun _ h9 => h9) (mg_codes _ _) d_Mo_alike_61 ?_
          refine lv_iload_n hx hb d_Mo_alike_64 rfl (lv_at hl 1 rfl) ?_
          refine va_lald hx hb hK hP 2 1 (ma_codes _ _ _ _) rfl (zt_in (show p0.toInt = _ from rfl) (by omega) (by omega)) d_Mo_alike_65 ?_
          refine lv_topl (fun x13 ex13 => ?_)
          have gx13 : x13 = (a_codes S) p0.toInt.toNat := ex13.trans (congrArg _ (zt_ix (show p0.toInt = _ from rfl)))
          have fx13 : x13.toInt = ((a_codes S) p0.toInt.toNat).toInt := by rw [gx13]
          have kx13 : vOk ((a_kinds S) p0.toInt.toNat) ((a_codes S) p0.toInt.toNat) ((a_reals S) p0.toInt.toNat) := i_vals (p0.toInt.toNat) (by omega)
          have ax13 := vk_ar8 kx13 (by omega)
          have bx13 : cOk x13 := by rw [gx13]; exact ax13
          refine j_ci (wc := []) (wr := (mW T h0 ar S)) hK hP hD hS hA [] isc rfl isc_all isc_nd (fun _ _ => List.not_mem_nil) (va_runS (As := [.long x13]) (rest := []) F (m_count l D T x13 H.size (show 0 ≤ x13.toInt ∧ x13.toInt < 1048576 by omega)) (j_cS (k := 1) hts k_8_7 k_1_12 k_8_5 k_8_6 (by decide +kernel) ⟨Nat.le_of_ble_eq_true rfl, Nat.le_of_ble_eq_true rfl⟩) (j_preS hK hP hD [] rfl (by decide) (fun _ _ _ _ h => h) (fun _ _ _ => trivial)) rfl rfl hl.1 rfl (lv_room (Nat.le_of_ble_eq_true rfl)) d_Mo_alike_66 ⟨Nat.le_of_ble_eq_true rfl, Nat.le_of_ble_eq_true rfl⟩) (fun rv12 u12 H locs hw12 hP hD hS => ?_)
          have hP : va_P D classes (mW T h0 ar S) H := hP
          have hD : va_D A (mW T h0 ar S) := hD
          have qhw12 : rv12.toInt = x13.toInt / 1024 := hw12
          refine lv_aload_n hx hb d_Mo_alike_69 rfl (lv_at hl 0 rfl) ?_
          refine va_get (D := D) (ci := 11) (v := .ref (ar 1)) (C := "PageScribeModel") (T := F_Mo) (N := 45) hx hb hts i_Mo hown hK hP 0 mW_0 cl_11 2 (by decide) (hts _ k_6_162) (fun _ h9 => h9) (mg_codes _ _) d_Mo_alike_70 ?_
          refine lv_iload_n hx hb d_Mo_alike_73 rfl (lv_at hl 2 rfl) ?_
          refine va_lald hx hb hK hP 2 1 (ma_codes _ _ _ _) rfl (zt_in (show p1.toInt = _ from rfl) (by omega) (by omega)) d_Mo_alike_74 ?_
          refine lv_topl (fun x14 ex14 => ?_)
          have gx14 : x14 = (a_codes S) p1.toInt.toNat := ex14.trans (congrArg _ (zt_ix (show p1.toInt = _ from rfl)))
          have fx14 : x14.toInt = ((a_codes S) p1.toInt.toNat).toInt := by rw [gx14]
          have kx14 : vOk ((a_kinds S) p1.toInt.toNat) ((a_codes S) p1.toInt.toNat) ((a_reals S) p1.toInt.toNat) := i_vals (p1.toInt.toNat) (by omega)
          have ax14 := vk_ar8 kx14 (by omega)
          have bx14 : cOk x14 := by rw [gx14]; exact ax14
          refine j_ci (wc := []) (wr := (mW T h0 ar S)) hK hP hD hS hA [] isc rfl isc_all isc_nd (fun _ _ => List.not_mem_nil) (va_runS (As := [.long x14]) (rest := [.int rv12]) F (m_count l D T x14 H.size (show 0 ≤ x14.toInt ∧ x14.toInt < 1048576 by omega)) (j_cS (k := 1) hts k_8_7 k_1_12 k_8_5 k_8_6 (by decide +kernel) ⟨Nat.le_of_ble_eq_true rfl, Nat.le_of_ble_eq_true rfl⟩) (j_preS hK hP hD [] rfl (by decide) (fun _ _ _ _ h => h) (fun _ _ _ => trivial)) rfl rfl hl.1 rfl (lv_room (Nat.le_of_ble_eq_true rfl)) d_Mo_alike_75 ⟨Nat.le_of_ble_eq_true rfl, Nat.le_of_ble_eq_true rfl⟩) (fun rv13 u13 H locs hw13 hP hD hS => ?_)
          have hP : va_P D classes (mW T h0 ar S) H := hP
          have hD : va_D A (mW T h0 ar S) := hD
          have qhw13 : rv13.toInt = x14.toInt / 1024 := hw13
          refine lv_icmp_ne (tgt := 113) hx hb d_Mo_alike_78 (by decide) (fun c78_2 => ?_) (fun c78_2 => ?_)
          · first | have fc78_2 : rv12.toInt < rv13.toInt := (by have := zt_ne (show rv12.toInt = _ from rfl) (show rv13.toInt = _ from rfl) c78_2; omega) | have fc78_2 : rv13.toInt < rv12.toInt := (by have := zt_ne (show rv12.toInt = _ from rfl) (show rv13.toInt = _ from rfl) c78_2; omega) | skip
            refine lv_iconst (v := 0) hx hb d_Mo_alike_113 (by decide) ?_
            exact j_zret F hr (by decide +kernel) hlocks hK hS () (show (0 : Int32).toInt = 0 ∨ (0 : Int32).toInt = 1 by have := tI_0; omega) hP hD d_Mo_alike_114
          · have fc78_2 : rv12.toInt = rv13.toInt := zt_eq (show rv12.toInt = _ from rfl) (show rv13.toInt = _ from rfl) c78_2
            refine lv_aload_n hx hb d_Mo_alike_81 rfl (lv_at hl 0 rfl) ?_
            refine va_get (D := D) (ci := 11) (v := .ref (ar 1)) (C := "PageScribeModel") (T := F_Mo) (N := 45) hx hb hts i_Mo hown hK hP 0 mW_0 cl_11 2 (by decide) (hts _ k_6_162) (fun _ h9 => h9) (mg_codes _ _) d_Mo_alike_82 ?_
            refine lv_iload_n hx hb d_Mo_alike_85 rfl (lv_at hl 1 rfl) ?_
            refine va_lald hx hb hK hP 2 1 (ma_codes _ _ _ _) rfl (zt_in (show p0.toInt = _ from rfl) (by omega) (by omega)) d_Mo_alike_86 ?_
            refine lv_topl (fun x15 ex15 => ?_)
            have gx15 : x15 = (a_codes S) p0.toInt.toNat := ex15.trans (congrArg _ (zt_ix (show p0.toInt = _ from rfl)))
            have fx15 : x15.toInt = ((a_codes S) p0.toInt.toNat).toInt := by rw [gx15]
            have kx15 : vOk ((a_kinds S) p0.toInt.toNat) ((a_codes S) p0.toInt.toNat) ((a_reals S) p0.toInt.toNat) := i_vals (p0.toInt.toNat) (by omega)
            have ax15 := vk_ar8 kx15 (by omega)
            have bx15 : cOk x15 := by rw [gx15]; exact ax15
            refine j_ci (wc := []) (wr := (mW T h0 ar S)) hK hP hD hS hA [] isc rfl isc_all isc_nd (fun _ _ => List.not_mem_nil) (va_runS (As := [.long x15]) (rest := []) F (m_count l D T x15 H.size (show 0 ≤ x15.toInt ∧ x15.toInt < 1048576 by omega)) (j_cS (k := 1) hts k_8_7 k_1_12 k_8_5 k_8_6 (by decide +kernel) ⟨Nat.le_of_ble_eq_true rfl, Nat.le_of_ble_eq_true rfl⟩) (j_preS hK hP hD [] rfl (by decide) (fun _ _ _ _ h => h) (fun _ _ _ => trivial)) rfl rfl hl.1 rfl (lv_room (Nat.le_of_ble_eq_true rfl)) d_Mo_alike_87 ⟨Nat.le_of_ble_eq_true rfl, Nat.le_of_ble_eq_true rfl⟩) (fun rv14 u14 H locs hw14 hP hD hS => ?_)
            have hP : va_P D classes (mW T h0 ar S) H := hP
            have hD : va_D A (mW T h0 ar S) := hD
            have qhw14 : rv14.toInt = x15.toInt / 1024 := hw14
            refine lv_if_eq (tgt := 109) hx hb d_Mo_alike_90 (by decide) (fun c90_2 => ?_) (fun c90_2 => ?_)
            · have fc90_2 : rv14.toInt = 0 := zt_eq (show rv14.toInt = _ from rfl) tI_0 c90_2
              refine lv_iconst (v := 1) hx hb d_Mo_alike_109 (by decide) ?_
              refine lv_goto (tgt := 114) hx hb d_Mo_alike_110 (by decide) ?_
              exact j_zret F hr (by decide +kernel) hlocks hK hS () (show (1 : Int32).toInt = 0 ∨ (1 : Int32).toInt = 1 by have := tI_1; omega) hP hD d_Mo_alike_114
            · first | have fc90_2 : rv14.toInt < 0 := (by have := zt_ne (show rv14.toInt = _ from rfl) tI_0 c90_2; omega) | have fc90_2 : 0 < rv14.toInt := (by have := zt_ne (show rv14.toInt = _ from rfl) tI_0 c90_2; omega) | skip
              refine lv_aload_n hx hb d_Mo_alike_93 rfl (lv_at hl 0 rfl) ?_
              refine va_get (D := D) (ci := 11) (v := .ref (ar 1)) (C := "PageScribeModel") (T := F_Mo) (N := 45) hx hb hts i_Mo hown hK hP 0 mW_0 cl_11 2 (by decide) (hts _ k_6_162) (fun _ h9 => h9) (mg_codes _ _) d_Mo_alike_94 ?_
              refine lv_iload_n hx hb d_Mo_alike_97 rfl (lv_at hl 1 rfl) ?_
              refine va_lald hx hb hK hP 2 1 (ma_codes _ _ _ _) rfl (zt_in (show p0.toInt = _ from rfl) (by omega) (by omega)) d_Mo_alike_98 ?_
              refine lv_topl (fun x16 ex16 => ?_)
              have gx16 : x16 = (a_codes S) p0.toInt.toNat := ex16.trans (congrArg _ (zt_ix (show p0.toInt = _ from rfl)))
              have fx16 : x16.toInt = ((a_codes S) p0.toInt.toNat).toInt := by rw [gx16]
              have kx16 : vOk ((a_kinds S) p0.toInt.toNat) ((a_codes S) p0.toInt.toNat) ((a_reals S) p0.toInt.toNat) := i_vals (p0.toInt.toNat) (by omega)
              refine lv_aload_n hx hb d_Mo_alike_99 rfl (lv_at hl 0 rfl) ?_
              refine va_get (D := D) (ci := 11) (v := .ref (ar 1)) (C := "PageScribeModel") (T := F_Mo) (N := 45) hx hb hts i_Mo hown hK hP 0 mW_0 cl_11 2 (by decide) (hts _ k_6_162) (fun _ h9 => h9) (mg_codes _ _) d_Mo_alike_100 ?_
              refine lv_iload_n hx hb d_Mo_alike_103 rfl (lv_at hl 2 rfl) ?_
              refine va_lald hx hb hK hP 2 1 (ma_codes _ _ _ _) rfl (zt_in (show p1.toInt = _ from rfl) (by omega) (by omega)) d_Mo_alike_104 ?_
              refine lv_topl (fun x17 ex17 => ?_)
              have gx17 : x17 = (a_codes S) p1.toInt.toNat := ex17.trans (congrArg _ (zt_ix (show p1.toInt = _ from rfl)))
              have fx17 : x17.toInt = ((a_codes S) p1.toInt.toNat).toInt := by rw [gx17]
              have kx17 : vOk ((a_kinds S) p1.toInt.toNat) ((a_codes S) p1.toInt.toNat) ((a_reals S) p1.toInt.toNat) := i_vals (p1.toInt.toNat) (by omega)
              refine W.lcmp hx hb d_Mo_alike_105 ?_
              refine lv_topi (fun x18 ex18 => ?_)
              refine lv_if_ne (tgt := 113) hx hb d_Mo_alike_106 (by decide) (fun c106_2 => ?_) (fun c106_2 => ?_)
              · first | have fc106_2 : x18.toInt < 0 := (by have := zt_ne (show x18.toInt = _ from rfl) tI_0 c106_2; omega) | have fc106_2 : 0 < x18.toInt := (by have := zt_ne (show x18.toInt = _ from rfl) tI_0 c106_2; omega) | skip
                have vc106_2 : ¬ x16.toInt = x17.toInt := by have := zr_cmp ex18 (show x16.toInt = _ from rfl) (show x17.toInt = _ from rfl); have := zt_ne (show x18.toInt = _ from rfl) tI_0 c106_2; omega
                refine lv_iconst (v := 0) hx hb d_Mo_alike_113 (by decide) ?_
                exact j_zret F hr (by decide +kernel) hlocks hK hS () (show (0 : Int32).toInt = 0 ∨ (0 : Int32).toInt = 1 by have := tI_0; omega) hP hD d_Mo_alike_114
              · have fc106_2 : x18.toInt = 0 := zt_eq (show x18.toInt = _ from rfl) tI_0 c106_2
                have vc106_2 : x16.toInt = x17.toInt := by have := zr_cmp ex18 (show x16.toInt = _ from rfl) (show x17.toInt = _ from rfl); have := zt_eq (show x18.toInt = _ from rfl) tI_0 c106_2; omega
                refine lv_iconst (v := 1) hx hb d_Mo_alike_109 (by decide) ?_
                refine lv_goto (tgt := 114) hx hb d_Mo_alike_110 (by decide) ?_
                exact j_zret F hr (by decide +kernel) hlocks hK hS () (show (1 : Int32).toInt = 0 ∨ (1 : Int32).toInt = 1 by have := tI_1; omega) hP hD d_Mo_alike_114
      · first | have fc46_2 : rv9.toInt < rv10.toInt := (by have := zt_ne (show rv9.toInt = _ from rfl) (show rv10.toInt = _ from rfl) c46_2; omega) | have fc46_2 : rv10.toInt < rv9.toInt := (by have := zt_ne (show rv9.toInt = _ from rfl) (show rv10.toInt = _ from rfl) c46_2; omega) | skip
        refine lv_iconst (v := 0) hx hb d_Mo_alike_49 (by decide) ?_
        exact j_zret F hr (by decide +kernel) hlocks hK hS () (show (0 : Int32).toInt = 0 ∨ (0 : Int32).toInt = 1 by have := tI_0; omega) hP hD d_Mo_alike_50
    · first | have fc13_1 : rv8.toInt < 0 := (by have := zt_ne (show rv8.toInt = _ from rfl) tI_0 c13_1; omega) | have fc13_1 : 0 < rv8.toInt := (by have := zt_ne (show rv8.toInt = _ from rfl) tI_0 c13_1; omega) | skip
      refine lv_aload_n hx hb d_Mo_alike_16 rfl (lv_at hl 0 rfl) ?_
      refine lv_iload_n hx hb d_Mo_alike_17 rfl (lv_at hl 1 rfl) ?_
      refine jm_cd (w := (fun _ => S)) hK hP hD hS hA (va_runV (As := [.int p0]) (rest := []) F (m_numberAt l D T h0 ar S p0 H.size ⟨i_size, i_taken, i_vals, i_room, i_dicts, i_deep, i_open, i_cells, i_points, i_part, i_length, i_knows, i_page, i_text, i_pats, i_fuel, i_fr, i_ink⟩ (show 0 ≤ p0.toInt ∧ p0.toInt < 1300 by omega)) (j_cV (k := 1) (C := "PageScribeModel") hts k_7_207 k_1_12 k_7_204 k_7_206 k_0_110 (by decide +kernel) ⟨Nat.le_of_ble_eq_true rfl, Nat.le_of_ble_eq_true rfl⟩) (jm_pre hK hP hD) rfl rfl hl.1 rfl (lv_room (Nat.le_of_ble_eq_true rfl)) d_Mo_alike_18 ⟨Nat.le_of_ble_eq_true rfl, Nat.le_of_ble_eq_true rfl⟩) (fun rv15 u15 H locs hw15 hP hD hS => ?_)
      have hP : va_P D classes (mW T h0 ar S) H := hP
      have hD : va_D A (mW T h0 ar S) := hD
      have qhw15 : dB rv15 := hw15
      refine lv_aload_n hx hb d_Mo_alike_21 rfl (lv_at hl 0 rfl) ?_
      refine lv_iload_n hx hb d_Mo_alike_22 rfl (lv_at hl 2 rfl) ?_
      refine jm_cd (w := (fun _ => S)) hK hP hD hS hA (va_runV (As := [.int p1]) (rest := [.double rv15]) F (m_numberAt l D T h0 ar S p1 H.size ⟨i_size, i_taken, i_vals, i_room, i_dicts, i_deep, i_open, i_cells, i_points, i_part, i_length, i_knows, i_page, i_text, i_pats, i_fuel, i_fr, i_ink⟩ (show 0 ≤ p1.toInt ∧ p1.toInt < 1300 by omega)) (j_cV (k := 1) (C := "PageScribeModel") hts k_7_207 k_1_12 k_7_204 k_7_206 k_0_110 (by decide +kernel) ⟨Nat.le_of_ble_eq_true rfl, Nat.le_of_ble_eq_true rfl⟩) (jm_pre hK hP hD) rfl rfl hl.1 rfl (lv_room (Nat.le_of_ble_eq_true rfl)) d_Mo_alike_23 ⟨Nat.le_of_ble_eq_true rfl, Nat.le_of_ble_eq_true rfl⟩) (fun rv16 u16 H locs hw16 hP hD hS => ?_)
      have hP : va_P D classes (mW T h0 ar S) H := hP
      have hD : va_D A (mW T h0 ar S) := hD
      have qhw16 : dB rv16 := hw16
      refine lv_dcmp hx hb d_Mo_alike_26 ?_
      refine lv_topi (fun x19 ex19 => ?_)
      refine lv_if_ne (tgt := 34) hx hb d_Mo_alike_27 (by decide) (fun c27_1 => ?_) (fun c27_1 => ?_)
      · first | have fc27_1 : x19.toInt < 0 := (by have := zt_ne (show x19.toInt = _ from rfl) tI_0 c27_1; omega) | have fc27_1 : 0 < x19.toInt := (by have := zt_ne (show x19.toInt = _ from rfl) tI_0 c27_1; omega) | skip
        have vc27_1 : ¬ dk rv15 = dk rv16 := by have := zr_dcmp (a := rv15) (b := rv16) ex19 (show dN rv15 by omega) (show dN rv16 by omega); have := zt_ne (show x19.toInt = _ from rfl) tI_0 c27_1; omega
        refine lv_iconst (v := 0) hx hb d_Mo_alike_34 (by decide) ?_
        exact j_zret F hr (by decide +kernel) hlocks hK hS () (show (0 : Int32).toInt = 0 ∨ (0 : Int32).toInt = 1 by have := tI_0; omega) hP hD d_Mo_alike_35
      · have fc27_1 : x19.toInt = 0 := zt_eq (show x19.toInt = _ from rfl) tI_0 c27_1
        have vc27_1 : dk rv15 = dk rv16 := by have := zr_dcmp (a := rv15) (b := rv16) ex19 (show dN rv15 by omega) (show dN rv16 by omega); have := zt_eq (show x19.toInt = _ from rfl) tI_0 c27_1; omega
        refine lv_iconst (v := 1) hx hb d_Mo_alike_30 (by decide) ?_
        refine lv_goto (tgt := 35) hx hb d_Mo_alike_31 (by decide) ?_
        exact j_zret F hr (by decide +kernel) hlocks hK hS () (show (1 : Int32).toInt = 0 ∨ (1 : Int32).toInt = 1 by have := tI_1; omega) hP hD d_Mo_alike_35
theorem l_and {x y : Int64} (hx : -2147483648 ≤ x.toInt ∧ x.toInt ≤ 2147483647) (hy : -2147483648 ≤ y.toInt ∧ y.toInt ≤ 2147483647) : (-2147483648 ≤ (x &&& y).toInt ∧ (x &&& y).toInt ≤ 2147483647) ∧ (-2147483648 ≤ (x ||| y).toInt ∧ (x ||| y).toInt ≤ 2147483647) := by
  have e : ∀ z : Int64, (-2147483648 ≤ z.toInt ∧ z.toInt ≤ 2147483647) → z = z.toInt32.toInt64 := by
    intro z hz
    have h1 := zt_l2i (x := z) rfl hz.1 hz.2
    exact Int64.toInt_inj.mp (by rw [Int32.toInt_toInt64, h1])
  rw [e x hx, e y hy, ← Int32.toInt64_and, ← Int32.toInt64_or, Int32.toInt_toInt64, Int32.toInt_toInt64]
  exact ⟨zt_rng _, zt_rng _⟩
