theorem d_Mo_truth_0 : decode prog_15_method_51_code 0 = .ok (.aload_n 0, 1) := by decide +kernel
theorem d_Mo_truth_1 : decode prog_15_method_51_code 1 = .ok (.getfield 247, 3) := by decide +kernel
theorem d_Mo_truth_4 : decode prog_15_method_51_code 4 = .ok (.iconst 1, 1) := by decide +kernel
theorem d_Mo_truth_5 : decode prog_15_method_51_code 5 = .ok (.isub, 1) := by decide +kernel
theorem d_Mo_truth_6 : decode prog_15_method_51_code 6 = .ok (.istore_n 2, 1) := by decide +kernel
theorem d_Mo_truth_7 : decode prog_15_method_51_code 7 = .ok (.iload_n 1, 1) := by decide +kernel
theorem d_Mo_truth_8 : decode prog_15_method_51_code 8 = .ok (.bipush 23, 2) := by decide +kernel
theorem d_Mo_truth_10 : decode prog_15_method_51_code 10 = .ok (.if_icmp .ge 20, 3) := by decide +kernel
theorem tI_23 : (23 : Int32).toInt = 23 := by decide +kernel
theorem d_Mo_truth_30 : decode prog_15_method_51_code 30 = .ok (.iload_n 1, 1) := by decide +kernel
theorem d_Mo_truth_31 : decode prog_15_method_51_code 31 = .ok (.bipush 28, 2) := by decide +kernel
theorem d_Mo_truth_33 : decode prog_15_method_51_code 33 = .ok (.if_icmp .le 10, 3) := by decide +kernel
theorem tI_28 : (28 : Int32).toInt = 28 := by decide +kernel
theorem d_Mo_truth_43 : decode prog_15_method_51_code 43 = .ok (.aload_n 0, 1) := by decide +kernel
theorem d_Mo_truth_44 : decode prog_15_method_51_code 44 = .ok (.iload_n 2, 1) := by decide +kernel
theorem d_Mo_truth_45 : decode prog_15_method_51_code 45 = .ok (.iconst 1, 1) := by decide +kernel
theorem d_Mo_truth_46 : decode prog_15_method_51_code 46 = .ok (.isub, 1) := by decide +kernel
theorem d_Mo_truth_47 : decode prog_15_method_51_code 47 = .ok (.invokevirtual 473, 3) := by decide +kernel
theorem d_Mo_truth_50 : decode prog_15_method_51_code 50 = .ok (.dstore_n 3, 1) := by decide +kernel
theorem d_Mo_truth_51 : decode prog_15_method_51_code 51 = .ok (.aload_n 0, 1) := by decide +kernel
theorem d_Mo_truth_52 : decode prog_15_method_51_code 52 = .ok (.iload_n 2, 1) := by decide +kernel
theorem d_Mo_truth_53 : decode prog_15_method_51_code 53 = .ok (.invokevirtual 473, 3) := by decide +kernel
theorem d_Mo_truth_56 : decode prog_15_method_51_code 56 = .ok (.dstore 5, 2) := by decide +kernel
theorem d_Mo_truth_169 : decode prog_15_method_51_code 169 = .ok (.istore 7, 2) := by decide +kernel
theorem d_Mo_truth_171 : decode prog_15_method_51_code 171 = .ok (.aload_n 0, 1) := by decide +kernel
theorem d_Mo_truth_172 : decode prog_15_method_51_code 172 = .ok (.iconst 2, 1) := by decide +kernel
theorem d_Mo_truth_173 : decode prog_15_method_51_code 173 = .ok (.iconst 2, 1) := by decide +kernel
theorem d_Mo_truth_184 : decode prog_15_method_51_code 184 = .ok (.invokevirtual 262, 3) := by decide +kernel
theorem d_Mo_truth_187 : decode prog_15_method_51_code 187 = .ok (.ireturn, 1) := by decide +kernel
theorem d_Mo_truth_174 : decode prog_15_method_51_code 174 = .ok (.iload 7, 2) := by decide +kernel
theorem d_Mo_truth_176 : decode prog_15_method_51_code 176 = .ok (.ifCond .eq 7, 3) := by decide +kernel
theorem d_Mo_truth_183 : decode prog_15_method_51_code 183 = .ok (.lconst 0, 1) := by decide +kernel
theorem d_Mo_truth_179 : decode prog_15_method_51_code 179 = .ok (.lconst 1, 1) := by decide +kernel
theorem d_Mo_truth_180 : decode prog_15_method_51_code 180 = .ok (.goto 4, 3) := by decide +kernel
theorem d_Mo_truth_58 : decode prog_15_method_51_code 58 = .ok (.iload_n 1, 1) := by decide +kernel
theorem d_Mo_truth_59 : decode prog_15_method_51_code 59 = .ok (.bipush 25, 2) := by decide +kernel
theorem d_Mo_truth_61 : decode prog_15_method_51_code 61 = .ok (.if_icmp .ge 33, 3) := by decide +kernel
theorem tI_25 : (25 : Int32).toInt = 25 := by decide +kernel
theorem d_Mo_truth_94 : decode prog_15_method_51_code 94 = .ok (.iload_n 1, 1) := by decide +kernel
theorem d_Mo_truth_95 : decode prog_15_method_51_code 95 = .ok (.bipush 25, 2) := by decide +kernel
theorem d_Mo_truth_97 : decode prog_15_method_51_code 97 = .ok (.if_icmp .ne 18, 3) := by decide +kernel
theorem d_Mo_truth_115 : decode prog_15_method_51_code 115 = .ok (.iload_n 1, 1) := by decide +kernel
theorem d_Mo_truth_116 : decode prog_15_method_51_code 116 = .ok (.bipush 26, 2) := by decide +kernel
theorem d_Mo_truth_118 : decode prog_15_method_51_code 118 = .ok (.if_icmp .ne 18, 3) := by decide +kernel
theorem tI_26 : (26 : Int32).toInt = 26 := by decide +kernel
theorem d_Mo_truth_136 : decode prog_15_method_51_code 136 = .ok (.iload_n 1, 1) := by decide +kernel
theorem d_Mo_truth_137 : decode prog_15_method_51_code 137 = .ok (.bipush 27, 2) := by decide +kernel
theorem d_Mo_truth_139 : decode prog_15_method_51_code 139 = .ok (.if_icmp .ne 18, 3) := by decide +kernel
theorem tI_27 : (27 : Int32).toInt = 27 := by decide +kernel
theorem d_Mo_truth_157 : decode prog_15_method_51_code 157 = .ok (.dload_n 3, 1) := by decide +kernel
theorem d_Mo_truth_158 : decode prog_15_method_51_code 158 = .ok (.dload 5, 2) := by decide +kernel
theorem d_Mo_truth_160 : decode prog_15_method_51_code 160 = .ok (.dcmp .g, 1) := by decide +kernel
theorem d_Mo_truth_161 : decode prog_15_method_51_code 161 = .ok (.ifCond .gt 7, 3) := by decide +kernel
theorem d_Mo_truth_168 : decode prog_15_method_51_code 168 = .ok (.iconst 0, 1) := by decide +kernel
theorem d_Mo_truth_164 : decode prog_15_method_51_code 164 = .ok (.iconst 1, 1) := by decide +kernel
theorem d_Mo_truth_165 : decode prog_15_method_51_code 165 = .ok (.goto 4, 3) := by decide +kernel
theorem d_Mo_truth_142 : decode prog_15_method_51_code 142 = .ok (.dload_n 3, 1) := by decide +kernel
theorem d_Mo_truth_143 : decode prog_15_method_51_code 143 = .ok (.dload 5, 2) := by decide +kernel
theorem d_Mo_truth_145 : decode prog_15_method_51_code 145 = .ok (.dcmp .g, 1) := by decide +kernel
theorem d_Mo_truth_146 : decode prog_15_method_51_code 146 = .ok (.ifCond .ge 7, 3) := by decide +kernel
theorem d_Mo_truth_153 : decode prog_15_method_51_code 153 = .ok (.iconst 0, 1) := by decide +kernel
theorem d_Mo_truth_154 : decode prog_15_method_51_code 154 = .ok (.goto 15, 3) := by decide +kernel
theorem d_Mo_truth_149 : decode prog_15_method_51_code 149 = .ok (.iconst 1, 1) := by decide +kernel
theorem d_Mo_truth_150 : decode prog_15_method_51_code 150 = .ok (.goto 19, 3) := by decide +kernel
theorem d_Mo_truth_121 : decode prog_15_method_51_code 121 = .ok (.dload_n 3, 1) := by decide +kernel
theorem d_Mo_truth_122 : decode prog_15_method_51_code 122 = .ok (.dload 5, 2) := by decide +kernel
theorem d_Mo_truth_124 : decode prog_15_method_51_code 124 = .ok (.dcmp .l, 1) := by decide +kernel
theorem d_Mo_truth_125 : decode prog_15_method_51_code 125 = .ok (.ifCond .lt 7, 3) := by decide +kernel
theorem d_Mo_truth_132 : decode prog_15_method_51_code 132 = .ok (.iconst 0, 1) := by decide +kernel
theorem d_Mo_truth_133 : decode prog_15_method_51_code 133 = .ok (.goto 36, 3) := by decide +kernel
theorem d_Mo_truth_128 : decode prog_15_method_51_code 128 = .ok (.iconst 1, 1) := by decide +kernel
theorem d_Mo_truth_129 : decode prog_15_method_51_code 129 = .ok (.goto 40, 3) := by decide +kernel
theorem d_Mo_truth_100 : decode prog_15_method_51_code 100 = .ok (.dload_n 3, 1) := by decide +kernel
theorem d_Mo_truth_101 : decode prog_15_method_51_code 101 = .ok (.dload 5, 2) := by decide +kernel
theorem d_Mo_truth_103 : decode prog_15_method_51_code 103 = .ok (.dcmp .l, 1) := by decide +kernel
theorem d_Mo_truth_104 : decode prog_15_method_51_code 104 = .ok (.ifCond .le 7, 3) := by decide +kernel
theorem d_Mo_truth_111 : decode prog_15_method_51_code 111 = .ok (.iconst 0, 1) := by decide +kernel
theorem d_Mo_truth_112 : decode prog_15_method_51_code 112 = .ok (.goto 57, 3) := by decide +kernel
theorem d_Mo_truth_107 : decode prog_15_method_51_code 107 = .ok (.iconst 1, 1) := by decide +kernel
theorem d_Mo_truth_108 : decode prog_15_method_51_code 108 = .ok (.goto 61, 3) := by decide +kernel
theorem d_Mo_truth_64 : decode prog_15_method_51_code 64 = .ok (.aload_n 0, 1) := by decide +kernel
theorem d_Mo_truth_65 : decode prog_15_method_51_code 65 = .ok (.iload_n 2, 1) := by decide +kernel
theorem d_Mo_truth_66 : decode prog_15_method_51_code 66 = .ok (.iconst 1, 1) := by decide +kernel
theorem d_Mo_truth_67 : decode prog_15_method_51_code 67 = .ok (.isub, 1) := by decide +kernel
theorem d_Mo_truth_68 : decode prog_15_method_51_code 68 = .ok (.iload_n 2, 1) := by decide +kernel
theorem d_Mo_truth_69 : decode prog_15_method_51_code 69 = .ok (.invokevirtual 490, 3) := by decide +kernel
theorem k_8_4 : Cond.code ⟨"PageScribeModel", "alike", "(II)Z"⟩ prog_15_method_50_code 3 (some .boolean) ∈ gw := gw_of (tb_8 (List.mem_of_getElem? (i := 4) (by decide +kernel))) (by decide +kernel)
theorem k_8_1 : Cond.methodLink "PageScribeModel" 490 ⟨"PageScribeModel", "alike", "(II)Z"⟩ ∈ gw := gw_of (tb_8 (List.mem_of_getElem? (i := 1) (by decide +kernel))) (by decide +kernel)
theorem k_8_3 : Cond.instanceMethod ⟨"PageScribeModel", "alike", "(II)Z"⟩ ∈ gw := gw_of (tb_8 (List.mem_of_getElem? (i := 3) (by decide +kernel))) (by decide +kernel)
theorem k_0_117 : Cond.selects "PageScribeModel" ⟨"PageScribeModel", "alike", "(II)Z"⟩ ⟨"PageScribeModel", "alike", "(II)Z"⟩ ∈ gw := gw_of (tb_0 (List.mem_of_getElem? (i := 117) (by decide +kernel))) (by decide +kernel)
theorem d_Mo_truth_83 : decode prog_15_method_51_code 83 = .ok (.if_icmp .ne 7, 3) := by decide +kernel
theorem d_Mo_truth_90 : decode prog_15_method_51_code 90 = .ok (.iconst 0, 1) := by decide +kernel
theorem d_Mo_truth_91 : decode prog_15_method_51_code 91 = .ok (.goto 78, 3) := by decide +kernel
theorem d_Mo_truth_86 : decode prog_15_method_51_code 86 = .ok (.iconst 1, 1) := by decide +kernel
theorem d_Mo_truth_87 : decode prog_15_method_51_code 87 = .ok (.goto 82, 3) := by decide +kernel
theorem d_Mo_truth_72 : decode prog_15_method_51_code 72 = .ok (.iload_n 1, 1) := by decide +kernel
theorem d_Mo_truth_73 : decode prog_15_method_51_code 73 = .ok (.bipush 23, 2) := by decide +kernel
theorem d_Mo_truth_75 : decode prog_15_method_51_code 75 = .ok (.if_icmp .ne 7, 3) := by decide +kernel
theorem d_Mo_truth_82 : decode prog_15_method_51_code 82 = .ok (.iconst 0, 1) := by decide +kernel
theorem d_Mo_truth_78 : decode prog_15_method_51_code 78 = .ok (.iconst 1, 1) := by decide +kernel
theorem d_Mo_truth_79 : decode prog_15_method_51_code 79 = .ok (.goto 4, 3) := by decide +kernel
theorem d_Mo_truth_36 : decode prog_15_method_51_code 36 = .ok (.aload_n 0, 1) := by decide +kernel
theorem d_Mo_truth_37 : decode prog_15_method_51_code 37 = .ok (.iload_n 1, 1) := by decide +kernel
theorem d_Mo_truth_38 : decode prog_15_method_51_code 38 = .ok (.iload_n 2, 1) := by decide +kernel
theorem d_Mo_truth_39 : decode prog_15_method_51_code 39 = .ok (.invokevirtual 486, 3) := by decide +kernel
theorem k_7_237 : Cond.code ⟨"PageScribeModel", "bits", "(II)I"⟩ prog_15_method_52_code 7 (some .int) ∈ gw := gw_of (tb_7 (List.mem_of_getElem? (i := 237) (by decide +kernel))) (by decide +kernel)
theorem k_7_234 : Cond.methodLink "PageScribeModel" 486 ⟨"PageScribeModel", "bits", "(II)I"⟩ ∈ gw := gw_of (tb_7 (List.mem_of_getElem? (i := 234) (by decide +kernel))) (by decide +kernel)
theorem k_7_236 : Cond.instanceMethod ⟨"PageScribeModel", "bits", "(II)I"⟩ ∈ gw := gw_of (tb_7 (List.mem_of_getElem? (i := 236) (by decide +kernel))) (by decide +kernel)
theorem k_0_116 : Cond.selects "PageScribeModel" ⟨"PageScribeModel", "bits", "(II)I"⟩ ⟨"PageScribeModel", "bits", "(II)I"⟩ ∈ gw := gw_of (tb_0 (List.mem_of_getElem? (i := 116) (by decide +kernel))) (by decide +kernel)
theorem d_Mo_truth_42 : decode prog_15_method_51_code 42 = .ok (.ireturn, 1) := by decide +kernel
theorem d_Mo_truth_13 : decode prog_15_method_51_code 13 = .ok (.aload_n 0, 1) := by decide +kernel
theorem d_Mo_truth_14 : decode prog_15_method_51_code 14 = .ok (.iconst 2, 1) := by decide +kernel
theorem d_Mo_truth_26 : decode prog_15_method_51_code 26 = .ok (.invokevirtual 388, 3) := by decide +kernel
theorem k_7_191 : Cond.code ⟨"PageScribeModel", "push", "(IJ)I"⟩ prog_15_method_11_code 4 (some .int) ∈ gw := gw_of (tb_7 (List.mem_of_getElem? (i := 191) (by decide +kernel))) (by decide +kernel)
theorem k_7_188 : Cond.methodLink "PageScribeModel" 388 ⟨"PageScribeModel", "push", "(IJ)I"⟩ ∈ gw := gw_of (tb_7 (List.mem_of_getElem? (i := 188) (by decide +kernel))) (by decide +kernel)
theorem k_7_190 : Cond.instanceMethod ⟨"PageScribeModel", "push", "(IJ)I"⟩ ∈ gw := gw_of (tb_7 (List.mem_of_getElem? (i := 190) (by decide +kernel))) (by decide +kernel)
theorem k_0_106 : Cond.selects "PageScribeModel" ⟨"PageScribeModel", "push", "(IJ)I"⟩ ⟨"PageScribeModel", "push", "(IJ)I"⟩ ∈ gw := gw_of (tb_0 (List.mem_of_getElem? (i := 106) (by decide +kernel))) (by decide +kernel)
theorem d_Mo_truth_29 : decode prog_15_method_51_code 29 = .ok (.ireturn, 1) := by decide +kernel
theorem d_Mo_truth_15 : decode prog_15_method_51_code 15 = .ok (.iload_n 1, 1) := by decide +kernel
theorem d_Mo_truth_16 : decode prog_15_method_51_code 16 = .ok (.bipush 21, 2) := by decide +kernel
theorem d_Mo_truth_18 : decode prog_15_method_51_code 18 = .ok (.if_icmp .ne 7, 3) := by decide +kernel
theorem tI_21 : (21 : Int32).toInt = 21 := by decide +kernel
theorem d_Mo_truth_25 : decode prog_15_method_51_code 25 = .ok (.lconst 0, 1) := by decide +kernel
theorem d_Mo_truth_21 : decode prog_15_method_51_code 21 = .ok (.lconst 1, 1) := by decide +kernel
theorem d_Mo_truth_22 : decode prog_15_method_51_code 22 = .ok (.goto 4, 3) := by decide +kernel
set_option maxHeartbeats 4000000 in
set_option maxRecDepth 100000 in
theorem m_truth (l : Launch) (D : va_G) (T : Nat → ClassId) (h0 : Nat) (ar : Nat → Nat) (S : MS) (p0 : Int32) (sz : Nat) (hI : MI S) (h1 : 21 ≤ p0.toInt ∧ p0.toInt ≤ 36) (h3 : (23 ≤ p0.toInt → 1 ≤ (f_size S).toInt) ∧ ((23 ≤ p0.toInt ∧ p0.toInt ≤ 30 ∨ p0.toInt = 32) → 2 ≤ (f_size S).toInt)) (h2 : bitP p0 ((a_kinds S) ((f_size S).toInt - 1).toNat) ((a_kinds S) ((f_size S).toInt - 2).toNat)) : Met l ⟨"PageScribeModel", "truth", "(I)I"⟩ (wy ⟨"PageScribeModel", "truth", "(I)I"⟩ prog_15_method_51_code 8 (some .int)) ({ frames := 3, cells := 0, slots := 0, locals := 210 }) (va_Pc [.ref h0, .int p0] (Pw D T (mW T h0 ar S) sz E0)) (va_Qi (fun (r : Int32) (u : MS) => MI u ∧ kA S u ∧ kF S u ∧ (r.toInt = 0 ∨ r.toInt = 2)) (fun u t => Bw D T (va_A (mW T h0 ar S) sz) (mW T h0 ar u) t) (va_A (mW T h0 ar S) sz)) 0 0 (va_A (mW T h0 ar S) sz) := by
  refine j_met (y := ⟨"PageScribeModel", "truth", "(I)I"⟩) (b := prog_15_method_51_code) (n := 8) (ret := (some .int)) (av := [.ref h0, .int p0]) (Qc := fun A => va_Qi (fun (r : Int32) (u : MS) => MI u ∧ kA S u ∧ kF S u ∧ (r.toInt = 0 ∨ r.toInt = 2)) (fun u t => Bw D T A (mW T h0 ar u) t) A) (by decide +kernel) (Nat.le_of_ble_eq_true rfl) (fun p e s m args below meth c A ls F hr hlocks hnm hK hP hD hS hA hN hE hl => ?_)
  obtain ⟨hx, hb, hml, hown, hts⟩ := id F
  have hl : lv_has ls 8 [(0, .ref h0), (1, .int p0)] := hl
  obtain ⟨i_size, i_taken, i_vals, i_room, i_dicts, i_deep, i_open, i_cells, i_points, i_part, i_length, i_knows, i_page, i_text, i_pats, i_fuel, i_fr, i_ink⟩ := id hI
  refine lv_aload_n hx hb d_Mo_truth_0 rfl (lv_at hl 0 rfl) ?_
  refine va_get (D := D) (ci := 11) (v := .int (f_size S)) (C := "PageScribeModel") (T := F_Mo) (N := 45) hx hb hts i_Mo hown hK hP 0 mW_0 cl_11 4 (by decide) (hts _ k_6_164) (fun _ h9 => h9) (mg_size _ _) d_Mo_truth_1 ?_
  refine lv_iconst (v := 1) hx hb d_Mo_truth_4 (by decide) ?_
  refine lv_isub hx hb d_Mo_truth_5 ?_
  refine lv_topi (fun x1 ex1 => ?_)
  have fx1 : x1.toInt = ((f_size S).toInt - 1) := by rw [ex1]; exact (zt_sub (show (f_size S).toInt = _ from rfl) tI_1 (by omega) (by omega)).trans (by omega)
  refine lv_istore_n (lv' := [(2, .int x1), (0, .ref h0), (1, .int p0)]) hx hb d_Mo_truth_6 rfl hl (by decide) rfl (fun ls hl => ?_)
  refine lv_iload_n hx hb d_Mo_truth_7 rfl (lv_at hl 2 rfl) ?_
  refine lv_bipush (v := 23) hx hb d_Mo_truth_8 (by decide) ?_
  refine lv_icmp_ge (tgt := 30) hx hb d_Mo_truth_10 (by decide) (fun c10_1 => ?_) (fun c10_1 => ?_)
  · have fc10_1 : 23 ≤ p0.toInt := zt_le tI_23 (show p0.toInt = _ from rfl) c10_1
    refine lv_iload_n hx hb d_Mo_truth_30 rfl (lv_at hl 2 rfl) ?_
    refine lv_bipush (v := 28) hx hb d_Mo_truth_31 (by decide) ?_
    refine lv_icmp_le (tgt := 43) hx hb d_Mo_truth_33 (by decide) (fun c33_1 => ?_) (fun c33_1 => ?_)
    · have fc33_1 : p0.toInt ≤ 28 := zt_le (show p0.toInt = _ from rfl) tI_28 c33_1
      refine lv_aload_n hx hb d_Mo_truth_43 rfl (lv_at hl 1 rfl) ?_
      refine lv_iload_n hx hb d_Mo_truth_44 rfl (lv_at hl 0 rfl) ?_
      refine lv_iconst (v := 1) hx hb d_Mo_truth_45 (by decide) ?_
      refine lv_isub hx hb d_Mo_truth_46 ?_
      refine lv_topi (fun x2 ex2 => ?_)
      have fx2 : x2.toInt = ((f_size S).toInt - 2) := by rw [ex2]; exact (zt_sub fx1 tI_1 (by omega) (by omega)).trans (by omega)
      have kv1 : vOk ((a_kinds S) (((f_size S).toInt - 2).toNat)) ((a_codes S) (((f_size S).toInt - 2).toNat)) ((a_reals S) (((f_size S).toInt - 2).toNat)) := i_vals (((f_size S).toInt - 2).toNat) (by omega)
      have rkv1 := vk_rng kv1
      refine jm_cd (w := (fun _ => S)) hK hP hD hS hA (va_runV (As := [.int x2]) (rest := []) F (m_numberAt l D T h0 ar S x2 s.heap.size ⟨i_size, i_taken, i_vals, i_room, i_dicts, i_deep, i_open, i_cells, i_points, i_part, i_length, i_knows, i_page, i_text, i_pats, i_fuel, i_fr, i_ink⟩ (show 0 ≤ x2.toInt ∧ x2.toInt < 1300 by first | omega | (simp only [fx2]; omega))) (j_cV (k := 1) (C := "PageScribeModel") hts k_7_207 k_1_12 k_7_204 k_7_206 k_0_110 (by decide +kernel) ⟨Nat.le_of_ble_eq_true rfl, Nat.le_of_ble_eq_true rfl⟩) (jm_pre hK hP hD) rfl rfl hl.1 rfl (lv_room (Nat.le_of_ble_eq_true rfl)) d_Mo_truth_47 ⟨Nat.le_of_ble_eq_true rfl, Nat.le_of_ble_eq_true rfl⟩) (fun rv1 u1 H locs hw1 hP hD hS => ?_)
      have hP : va_P D classes (mW T h0 ar S) H := hP
      have hD : va_D A (mW T h0 ar S) := hD
      have qhw1 : dB rv1 := by simpa only [fx2] using hw1
      refine lv_dstore_n (lv' := [(3, .double rv1), (2, .int x1), (0, .ref h0), (1, .int p0)]) hx hb d_Mo_truth_50 rfl hl (by decide) rfl (fun ls hl => ?_)
      refine lv_aload_n hx hb d_Mo_truth_51 rfl (lv_at hl 2 rfl) ?_
      refine lv_iload_n hx hb d_Mo_truth_52 rfl (lv_at hl 1 rfl) ?_
      have kv2 : vOk ((a_kinds S) (((f_size S).toInt - 1).toNat)) ((a_codes S) (((f_size S).toInt - 1).toNat)) ((a_reals S) (((f_size S).toInt - 1).toNat)) := i_vals (((f_size S).toInt - 1).toNat) (by omega)
      have rkv2 := vk_rng kv2
      refine jm_cd (w := (fun _ => S)) hK hP hD hS hA (va_runV (As := [.int x1]) (rest := []) F (m_numberAt l D T h0 ar S x1 H.size ⟨i_size, i_taken, i_vals, i_room, i_dicts, i_deep, i_open, i_cells, i_points, i_part, i_length, i_knows, i_page, i_text, i_pats, i_fuel, i_fr, i_ink⟩ (show 0 ≤ x1.toInt ∧ x1.toInt < 1300 by first | omega | (simp only [fx1]; omega))) (j_cV (k := 1) (C := "PageScribeModel") hts k_7_207 k_1_12 k_7_204 k_7_206 k_0_110 (by decide +kernel) ⟨Nat.le_of_ble_eq_true rfl, Nat.le_of_ble_eq_true rfl⟩) (jm_pre hK hP hD) rfl rfl hl.1 rfl (lv_room (Nat.le_of_ble_eq_true rfl)) d_Mo_truth_53 ⟨Nat.le_of_ble_eq_true rfl, Nat.le_of_ble_eq_true rfl⟩) (fun rv2 u2 H locs hw2 hP hD hS => ?_)
      have hP : va_P D classes (mW T h0 ar S) H := hP
      have hD : va_D A (mW T h0 ar S) := hD
      have qhw2 : dB rv2 := by simpa only [fx1] using hw2
      refine lv_dstore (lv' := [(5, .double rv2), (3, .double rv1), (2, .int x1), (0, .ref h0), (1, .int p0)]) hx hb d_Mo_truth_56 hl (by decide) rfl (fun ls hl => ?_)
      refine j_joinH (α := Int32) (fun x H locs ls => (x.toInt = 0 ∨ x.toInt = 1) ∧ va_P D classes (mW T h0 ar S) H ∧ va_D A (mW T h0 ar S) ∧ va_S A s.heap H locs ∧ lv_has ls 8 [(5, .double rv2), (3, .double rv1), (2, .int x1), (0, .ref h0), (1, .int p0)]) (fun x ls => F0 m 169 ls (.int x :: [])) (fun x H locs ls hI9 => ?_) (fun key1 => ?_)
      · obtain ⟨j1, rfl⟩ : ∃ z, z = x := ⟨_, rfl⟩
        obtain ⟨hj1, hP, hD, hS, hl⟩ := hI9
        have hj1 : j1.toInt = 0 ∨ j1.toInt = 1 := hj1
        have hP : va_P D classes (mW T h0 ar S) H := hP
        have hD : va_D A (mW T h0 ar S) := hD
        have hl : lv_has ls 8 [(5, .double rv2), (3, .double rv1), (2, .int x1), (0, .ref h0), (1, .int p0)] := hl
        refine lv_istore (lv' := [(7, .int j1), (5, .double rv2), (3, .double rv1), (2, .int x1), (0, .ref h0), (1, .int p0)]) hx hb d_Mo_truth_169 hl (by decide) rfl (fun ls hl => ?_)
        refine lv_aload_n hx hb d_Mo_truth_171 rfl (lv_at hl 4 rfl) ?_
        refine lv_iconst (v := 2) hx hb d_Mo_truth_172 (by decide) ?_
        refine lv_iconst (v := 2) hx hb d_Mo_truth_173 (by decide) ?_
        refine j_joinH (α := Int64) (fun x H locs ls => (True) ∧ va_P D classes (mW T h0 ar S) H ∧ va_D A (mW T h0 ar S) ∧ va_S A s.heap H locs ∧ lv_has ls 8 [(7, .int j1), (5, .double rv2), (3, .double rv1), (2, .int x1), (0, .ref h0), (1, .int p0)]) (fun x ls => F0 m 184 ls (.long x :: [.int 2, .int 2, .ref h0])) (fun x H locs ls hI9 => ?_) (fun key2 => ?_)
        · obtain ⟨j2, rfl⟩ : ∃ z, z = x := ⟨_, rfl⟩
          obtain ⟨hj2, hP, hD, hS, hl⟩ := hI9
          have hP : va_P D classes (mW T h0 ar S) H := hP
          have hD : va_D A (mW T h0 ar S) := hD
          have hl : lv_has ls 8 [(7, .int j1), (5, .double rv2), (3, .double rv1), (2, .int x1), (0, .ref h0), (1, .int p0)] := hl
          refine jm_ci (w := (fun u => u)) hK hP hD hS hA (va_runV (As := [.int 2, .int 2, .long j2]) (rest := []) F (m_give l D T h0 ar S (2 : Int32) (2 : Int32) j2 H.size ⟨i_size, i_taken, i_vals, i_room, i_dicts, i_deep, i_open, i_cells, i_points, i_part, i_length, i_knows, i_page, i_text, i_pats, i_fuel, i_fr, i_ink⟩ (show 0 ≤ (2 : Int32).toInt ∧ (2 : Int32).toInt ≤ (f_size S).toInt ∧ (f_size S).toInt - (2 : Int32).toInt ≤ 39 by have := tI_2; have := tI_2; omega) (vO_of 2 tI_2 (by decide))) (j_cV (k := 3) (C := "PageScribeModel") hts k_7_221 k_1_12 k_7_218 k_7_220 k_0_113 (by decide +kernel) ⟨Nat.le_of_ble_eq_true rfl, Nat.le_of_ble_eq_true rfl⟩) (jm_pre hK hP hD) rfl rfl hl.1 rfl (lv_room (Nat.le_of_ble_eq_true rfl)) d_Mo_truth_184 ⟨Nat.le_of_ble_eq_true rfl, Nat.le_of_ble_eq_true rfl⟩) (fun rv3 S1 H locs hw3 hP hD hS => ?_)
          have hP : va_P D classes (mW T h0 ar S1) H := hP
          have hD : va_D A (mW T h0 ar S1) := hD
          obtain ⟨⟨i_size, i_taken, i_vals, i_room, i_dicts, i_deep, i_open, i_cells, i_points, i_part, i_length, i_knows, i_page, i_text, i_pats, i_fuel, i_fr, i_ink⟩, kpA_S1, kpF_S1, qqhw3⟩ := hw3
          have kSA_S1 : kA S S1 := kA_t (show kA S S from (kA_r S)) kpA_S1
          have kSF_S1 : kF S S1 := kF_t (show kF S S from (kF_r S)) kpF_S1
          have kST_S1 : kT S S1 := kT_t (show kT S S from (kT_r S)) (kT_A kpA_S1)
          have qhw3 : rv3.toInt = 0 ∧ (f_taken S1).toInt = (f_taken S).toInt := by simpa only [tI_2] using qqhw3
          exact j_iret F hr hlocks hK hS S1 ⟨⟨i_size, i_taken, i_vals, i_room, i_dicts, i_deep, i_open, i_cells, i_points, i_part, i_length, i_knows, i_page, i_text, i_pats, i_fuel, i_fr, i_ink⟩, kSA_S1, kSF_S1, (show rv3.toInt = 0 ∨ rv3.toInt = 2 by omega)⟩ hP hD d_Mo_truth_187
        · refine lv_iload hx hb d_Mo_truth_174 (lv_at hl 0 rfl) ?_
          refine lv_if_eq (tgt := 183) hx hb d_Mo_truth_176 (by decide) (fun c176_1 => ?_) (fun c176_1 => ?_)
          · have fc176_1 : j1.toInt = 0 := zt_eq (show j1.toInt = _ from rfl) tI_0 c176_1
            refine lv_lconst (v := 0) hx hb d_Mo_truth_183 (by decide) ?_
            exact key2 (0 : Int64) _ _ _ ⟨trivial, hP, hD, hS, lv_sub hl [0, 1, 2, 3, 4, 5] rfl⟩
          · first | have fc176_1 : j1.toInt < 0 := (by have := zt_ne (show j1.toInt = _ from rfl) tI_0 c176_1; omega) | have fc176_1 : 0 < j1.toInt := (by have := zt_ne (show j1.toInt = _ from rfl) tI_0 c176_1; omega) | skip
            refine lv_lconst (v := 1) hx hb d_Mo_truth_179 (by decide) ?_
            refine lv_goto (tgt := 184) hx hb d_Mo_truth_180 (by decide) ?_
            exact key2 (1 : Int64) _ _ _ ⟨trivial, hP, hD, hS, lv_sub hl [0, 1, 2, 3, 4, 5] rfl⟩
      · refine lv_iload_n hx hb d_Mo_truth_58 rfl (lv_at hl 4 rfl) ?_
        refine lv_bipush (v := 25) hx hb d_Mo_truth_59 (by decide) ?_
        refine lv_icmp_ge (tgt := 94) hx hb d_Mo_truth_61 (by decide) (fun c61_1 => ?_) (fun c61_1 => ?_)
        · have fc61_1 : 25 ≤ p0.toInt := zt_le tI_25 (show p0.toInt = _ from rfl) c61_1
          refine lv_iload_n hx hb d_Mo_truth_94 rfl (lv_at hl 4 rfl) ?_
          refine lv_bipush (v := 25) hx hb d_Mo_truth_95 (by decide) ?_
          refine lv_icmp_ne (tgt := 115) hx hb d_Mo_truth_97 (by decide) (fun c97_1 => ?_) (fun c97_1 => ?_)
          · first | have fc97_1 : p0.toInt < 25 := (by have := zt_ne (show p0.toInt = _ from rfl) tI_25 c97_1; omega) | have fc97_1 : 25 < p0.toInt := (by have := zt_ne (show p0.toInt = _ from rfl) tI_25 c97_1; omega) | skip
            refine lv_iload_n hx hb d_Mo_truth_115 rfl (lv_at hl 4 rfl) ?_
            refine lv_bipush (v := 26) hx hb d_Mo_truth_116 (by decide) ?_
            refine lv_icmp_ne (tgt := 136) hx hb d_Mo_truth_118 (by decide) (fun c118_1 => ?_) (fun c118_1 => ?_)
            · first | have fc118_1 : p0.toInt < 26 := (by have := zt_ne (show p0.toInt = _ from rfl) tI_26 c118_1; omega) | have fc118_1 : 26 < p0.toInt := (by have := zt_ne (show p0.toInt = _ from rfl) tI_26 c118_1; omega) | skip
              refine lv_iload_n hx hb d_Mo_truth_136 rfl (lv_at hl 4 rfl) ?_
              refine lv_bipush (v := 27) hx hb d_Mo_truth_137 (by decide) ?_
              refine lv_icmp_ne (tgt := 157) hx hb d_Mo_truth_139 (by decide) (fun c139_1 => ?_) (fun c139_1 => ?_)
              · first | have fc139_1 : p0.toInt < 27 := (by have := zt_ne (show p0.toInt = _ from rfl) tI_27 c139_1; omega) | have fc139_1 : 27 < p0.toInt := (by have := zt_ne (show p0.toInt = _ from rfl) tI_27 c139_1; omega) | skip
                refine lv_dload_n hx hb d_Mo_truth_157 rfl (lv_at hl 1 rfl) ?_
                refine lv_dload hx hb d_Mo_truth_158 (lv_at hl 0 rfl) ?_
                refine lv_dcmp hx hb d_Mo_truth_160 ?_
                refine lv_topi (fun x3 ex3 => ?_)
                refine lv_if_gt (tgt := 168) hx hb d_Mo_truth_161 (by decide) (fun c161_1 => ?_) (fun c161_1 => ?_)
                · have fc161_1 : 0 < x3.toInt := zt_lt tI_0 (show x3.toInt = _ from rfl) c161_1
                  have vc161_1 : dk rv1 > dk rv2 := by have := zr_dcmp (a := rv1) (b := rv2) ex3 (show dN rv1 by omega) (show dN rv2 by omega); have := zt_lt tI_0 (show x3.toInt = _ from rfl) c161_1; omega
                  refine lv_iconst (v := 0) hx hb d_Mo_truth_168 (by decide) ?_
                  exact key1 (0 : Int32) _ _ _ ⟨(show (0 : Int32).toInt = 0 ∨ (0 : Int32).toInt = 1 by have := tI_0; omega), hP, hD, hS, lv_sub hl [0, 1, 2, 3, 4] rfl⟩
                · have fc161_1 : x3.toInt ≤ 0 := Int.not_lt.mp (zt_nlt tI_0 (show x3.toInt = _ from rfl) c161_1)
                  have vc161_1 : dk rv1 ≤ dk rv2 := by have := zr_dcmp (a := rv1) (b := rv2) ex3 (show dN rv1 by omega) (show dN rv2 by omega); have := Int.not_lt.mp (zt_nlt tI_0 (show x3.toInt = _ from rfl) c161_1); omega
                  refine lv_iconst (v := 1) hx hb d_Mo_truth_164 (by decide) ?_
                  refine lv_goto (tgt := 169) hx hb d_Mo_truth_165 (by decide) ?_
                  exact key1 (1 : Int32) _ _ _ ⟨(show (1 : Int32).toInt = 0 ∨ (1 : Int32).toInt = 1 by have := tI_1; omega), hP, hD, hS, lv_sub hl [0, 1, 2, 3, 4] rfl⟩
              · have fc139_1 : p0.toInt = 27 := zt_eq (show p0.toInt = _ from rfl) tI_27 c139_1
                refine lv_dload_n hx hb d_Mo_truth_142 rfl (lv_at hl 1 rfl) ?_
                refine lv_dload hx hb d_Mo_truth_143 (lv_at hl 0 rfl) ?_
                refine lv_dcmp hx hb d_Mo_truth_145 ?_
                refine lv_topi (fun x4 ex4 => ?_)
                refine lv_if_ge (tgt := 153) hx hb d_Mo_truth_146 (by decide) (fun c146_1 => ?_) (fun c146_1 => ?_)
                · have fc146_1 : 0 ≤ x4.toInt := zt_le tI_0 (show x4.toInt = _ from rfl) c146_1
                  have vc146_1 : dk rv1 ≥ dk rv2 := by have := zr_dcmp (a := rv1) (b := rv2) ex4 (show dN rv1 by omega) (show dN rv2 by omega); have := zt_le tI_0 (show x4.toInt = _ from rfl) c146_1; omega
                  refine lv_iconst (v := 0) hx hb d_Mo_truth_153 (by decide) ?_
                  refine lv_goto (tgt := 169) hx hb d_Mo_truth_154 (by decide) ?_
                  exact key1 (0 : Int32) _ _ _ ⟨(show (0 : Int32).toInt = 0 ∨ (0 : Int32).toInt = 1 by have := tI_0; omega), hP, hD, hS, lv_sub hl [0, 1, 2, 3, 4] rfl⟩
                · have fc146_1 : x4.toInt < 0 := Int.not_le.mp (zt_nle tI_0 (show x4.toInt = _ from rfl) c146_1)
                  have vc146_1 : dk rv1 < dk rv2 := by have := zr_dcmp (a := rv1) (b := rv2) ex4 (show dN rv1 by omega) (show dN rv2 by omega); have := Int.not_le.mp (zt_nle tI_0 (show x4.toInt = _ from rfl) c146_1); omega
                  refine lv_iconst (v := 1) hx hb d_Mo_truth_149 (by decide) ?_
                  refine lv_goto (tgt := 169) hx hb d_Mo_truth_150 (by decide) ?_
                  exact key1 (1 : Int32) _ _ _ ⟨(show (1 : Int32).toInt = 0 ∨ (1 : Int32).toInt = 1 by have := tI_1; omega), hP, hD, hS, lv_sub hl [0, 1, 2, 3, 4] rfl⟩
            · have fc118_1 : p0.toInt = 26 := zt_eq (show p0.toInt = _ from rfl) tI_26 c118_1
              refine lv_dload_n hx hb d_Mo_truth_121 rfl (lv_at hl 1 rfl) ?_
              refine lv_dload hx hb d_Mo_truth_122 (lv_at hl 0 rfl) ?_
              refine lv_dcmp hx hb d_Mo_truth_124 ?_
              refine lv_topi (fun x5 ex5 => ?_)
              refine lv_if_lt (tgt := 132) hx hb d_Mo_truth_125 (by decide) (fun c125_1 => ?_) (fun c125_1 => ?_)
              · have fc125_1 : x5.toInt < 0 := zt_lt (show x5.toInt = _ from rfl) tI_0 c125_1
                have vc125_1 : dk rv1 < dk rv2 := by have := zr_dcmp (a := rv1) (b := rv2) ex5 (show dN rv1 by omega) (show dN rv2 by omega); have := zt_lt (show x5.toInt = _ from rfl) tI_0 c125_1; omega
                refine lv_iconst (v := 0) hx hb d_Mo_truth_132 (by decide) ?_
                refine lv_goto (tgt := 169) hx hb d_Mo_truth_133 (by decide) ?_
                exact key1 (0 : Int32) _ _ _ ⟨(show (0 : Int32).toInt = 0 ∨ (0 : Int32).toInt = 1 by have := tI_0; omega), hP, hD, hS, lv_sub hl [0, 1, 2, 3, 4] rfl⟩
              · have fc125_1 : 0 ≤ x5.toInt := Int.not_lt.mp (zt_nlt (show x5.toInt = _ from rfl) tI_0 c125_1)
                have vc125_1 : dk rv1 ≥ dk rv2 := by have := zr_dcmp (a := rv1) (b := rv2) ex5 (show dN rv1 by omega) (show dN rv2 by omega); have := Int.not_lt.mp (zt_nlt (show x5.toInt = _ from rfl) tI_0 c125_1); omega
                refine lv_iconst (v := 1) hx hb d_Mo_truth_128 (by decide) ?_
                refine lv_goto (tgt := 169) hx hb d_Mo_truth_129 (by decide) ?_
                exact key1 (1 : Int32) _ _ _ ⟨(show (1 : Int32).toInt = 0 ∨ (1 : Int32).toInt = 1 by have := tI_1; omega), hP, hD, hS, lv_sub hl [0, 1, 2, 3, 4] rfl⟩
          · have fc97_1 : p0.toInt = 25 := zt_eq (show p0.toInt = _ from rfl) tI_25 c97_1
            refine lv_dload_n hx hb d_Mo_truth_100 rfl (lv_at hl 1 rfl) ?_
            refine lv_dload hx hb d_Mo_truth_101 (lv_at hl 0 rfl) ?_
            refine lv_dcmp hx hb d_Mo_truth_103 ?_
            refine lv_topi (fun x6 ex6 => ?_)
            refine lv_if_le (tgt := 111) hx hb d_Mo_truth_104 (by decide) (fun c104_1 => ?_) (fun c104_1 => ?_)
            · have fc104_1 : x6.toInt ≤ 0 := zt_le (show x6.toInt = _ from rfl) tI_0 c104_1
              have vc104_1 : dk rv1 ≤ dk rv2 := by have := zr_dcmp (a := rv1) (b := rv2) ex6 (show dN rv1 by omega) (show dN rv2 by omega); have := zt_le (show x6.toInt = _ from rfl) tI_0 c104_1; omega
              refine lv_iconst (v := 0) hx hb d_Mo_truth_111 (by decide) ?_
              refine lv_goto (tgt := 169) hx hb d_Mo_truth_112 (by decide) ?_
              exact key1 (0 : Int32) _ _ _ ⟨(show (0 : Int32).toInt = 0 ∨ (0 : Int32).toInt = 1 by have := tI_0; omega), hP, hD, hS, lv_sub hl [0, 1, 2, 3, 4] rfl⟩
            · have fc104_1 : 0 < x6.toInt := Int.not_le.mp (zt_nle (show x6.toInt = _ from rfl) tI_0 c104_1)
              have vc104_1 : dk rv1 > dk rv2 := by have := zr_dcmp (a := rv1) (b := rv2) ex6 (show dN rv1 by omega) (show dN rv2 by omega); have := Int.not_le.mp (zt_nle (show x6.toInt = _ from rfl) tI_0 c104_1); omega
              refine lv_iconst (v := 1) hx hb d_Mo_truth_107 (by decide) ?_
              refine lv_goto (tgt := 169) hx hb d_Mo_truth_108 (by decide) ?_
              exact key1 (1 : Int32) _ _ _ ⟨(show (1 : Int32).toInt = 0 ∨ (1 : Int32).toInt = 1 by have := tI_1; omega), hP, hD, hS, lv_sub hl [0, 1, 2, 3, 4] rfl⟩
        · have fc61_1 : p0.toInt < 25 := Int.not_le.mp (zt_nle tI_25 (show p0.toInt = _ from rfl) c61_1)
          refine lv_aload_n hx hb d_Mo_truth_64 rfl (lv_at hl 3 rfl) ?_
          refine lv_iload_n hx hb d_Mo_truth_65 rfl (lv_at hl 2 rfl) ?_
          refine lv_iconst (v := 1) hx hb d_Mo_truth_66 (by decide) ?_
          refine lv_isub hx hb d_Mo_truth_67 ?_
          refine j_eqi (y := x2) ex2.symm ?_
          refine lv_iload_n hx hb d_Mo_truth_68 rfl (lv_at hl 2 rfl) ?_
          refine jm_ci (w := (fun _ => S)) hK hP hD hS hA (va_runV (As := [.int x2, .int x1]) (rest := []) F (m_alike l D T h0 ar S x2 x1 H.size ⟨i_size, i_taken, i_vals, i_room, i_dicts, i_deep, i_open, i_cells, i_points, i_part, i_length, i_knows, i_page, i_text, i_pats, i_fuel, i_fr, i_ink⟩ (show 0 ≤ x2.toInt ∧ x2.toInt < 1300 by first | omega | (simp only [fx2, fx1]; omega)) (show 0 ≤ x1.toInt ∧ x1.toInt < 1300 by first | omega | (simp only [fx2, fx1]; omega))) (j_cV (k := 2) (C := "PageScribeModel") hts k_8_4 k_1_12 k_8_1 k_8_3 k_0_117 (by decide +kernel) ⟨Nat.le_of_ble_eq_true rfl, Nat.le_of_ble_eq_true rfl⟩) (jm_pre hK hP hD) rfl rfl hl.1 rfl (lv_room (Nat.le_of_ble_eq_true rfl)) d_Mo_truth_69 ⟨Nat.le_of_ble_eq_true rfl, Nat.le_of_ble_eq_true rfl⟩) (fun rv4 u3 H locs hw4 hP hD hS => ?_)
          have hP : va_P D classes (mW T h0 ar S) H := hP
          have hD : va_D A (mW T h0 ar S) := hD
          have qhw4 : rv4.toInt = 0 ∨ rv4.toInt = 1 := by simpa only [fx1, fx2] using hw4
          refine j_joinH (α := Int32) (fun x H locs ls => (x.toInt = 0 ∨ x.toInt = 1) ∧ va_P D classes (mW T h0 ar S) H ∧ va_D A (mW T h0 ar S) ∧ va_S A s.heap H locs ∧ lv_has ls 8 [(5, .double rv2), (3, .double rv1), (2, .int x1), (0, .ref h0), (1, .int p0)]) (fun x ls => F0 m 83 ls (.int x :: [.int rv4])) (fun x H locs ls hI9 => ?_) (fun key3 => ?_)
          · obtain ⟨j3, rfl⟩ : ∃ z, z = x := ⟨_, rfl⟩
            obtain ⟨hj3, hP, hD, hS, hl⟩ := hI9
            have hj3 : j3.toInt = 0 ∨ j3.toInt = 1 := hj3
            have hP : va_P D classes (mW T h0 ar S) H := hP
            have hD : va_D A (mW T h0 ar S) := hD
            have hl : lv_has ls 8 [(5, .double rv2), (3, .double rv1), (2, .int x1), (0, .ref h0), (1, .int p0)] := hl
            refine lv_icmp_ne (tgt := 90) hx hb d_Mo_truth_83 (by decide) (fun c83_1 => ?_) (fun c83_1 => ?_)
            · first | have fc83_1 : rv4.toInt < j3.toInt := (by have := zt_ne (show rv4.toInt = _ from rfl) (show j3.toInt = _ from rfl) c83_1; omega) | have fc83_1 : j3.toInt < rv4.toInt := (by have := zt_ne (show rv4.toInt = _ from rfl) (show j3.toInt = _ from rfl) c83_1; omega) | skip
              refine lv_iconst (v := 0) hx hb d_Mo_truth_90 (by decide) ?_
              refine lv_goto (tgt := 169) hx hb d_Mo_truth_91 (by decide) ?_
              exact key1 (0 : Int32) _ _ _ ⟨(show (0 : Int32).toInt = 0 ∨ (0 : Int32).toInt = 1 by have := tI_0; omega), hP, hD, hS, lv_sub hl [0, 1, 2, 3, 4] rfl⟩
            · have fc83_1 : rv4.toInt = j3.toInt := zt_eq (show rv4.toInt = _ from rfl) (show j3.toInt = _ from rfl) c83_1
              refine lv_iconst (v := 1) hx hb d_Mo_truth_86 (by decide) ?_
              refine lv_goto (tgt := 169) hx hb d_Mo_truth_87 (by decide) ?_
              exact key1 (1 : Int32) _ _ _ ⟨(show (1 : Int32).toInt = 0 ∨ (1 : Int32).toInt = 1 by have := tI_1; omega), hP, hD, hS, lv_sub hl [0, 1, 2, 3, 4] rfl⟩
          · refine lv_iload_n hx hb d_Mo_truth_72 rfl (lv_at hl 4 rfl) ?_
            refine lv_bipush (v := 23) hx hb d_Mo_truth_73 (by decide) ?_
            refine lv_icmp_ne (tgt := 82) hx hb d_Mo_truth_75 (by decide) (fun c75_1 => ?_) (fun c75_1 => ?_)
            · first | have fc75_1 : p0.toInt < 23 := (by have := zt_ne (show p0.toInt = _ from rfl) tI_23 c75_1; omega) | have fc75_1 : 23 < p0.toInt := (by have := zt_ne (show p0.toInt = _ from rfl) tI_23 c75_1; omega) | skip
              refine lv_iconst (v := 0) hx hb d_Mo_truth_82 (by decide) ?_
              exact key3 (0 : Int32) _ _ _ ⟨(show (0 : Int32).toInt = 0 ∨ (0 : Int32).toInt = 1 by have := tI_0; omega), hP, hD, hS, lv_sub hl [0, 1, 2, 3, 4] rfl⟩
            · have fc75_1 : p0.toInt = 23 := zt_eq (show p0.toInt = _ from rfl) tI_23 c75_1
              refine lv_iconst (v := 1) hx hb d_Mo_truth_78 (by decide) ?_
              refine lv_goto (tgt := 83) hx hb d_Mo_truth_79 (by decide) ?_
              exact key3 (1 : Int32) _ _ _ ⟨(show (1 : Int32).toInt = 0 ∨ (1 : Int32).toInt = 1 by have := tI_1; omega), hP, hD, hS, lv_sub hl [0, 1, 2, 3, 4] rfl⟩
    · have fc33_1 : 28 < p0.toInt := Int.not_le.mp (zt_nle (show p0.toInt = _ from rfl) tI_28 c33_1)
      refine lv_aload_n hx hb d_Mo_truth_36 rfl (lv_at hl 1 rfl) ?_
      refine lv_iload_n hx hb d_Mo_truth_37 rfl (lv_at hl 2 rfl) ?_
      refine lv_iload_n hx hb d_Mo_truth_38 rfl (lv_at hl 0 rfl) ?_
      refine jm_ci (w := (fun u => u)) hK hP hD hS hA (va_runV (As := [.int p0, .int x1]) (rest := []) F (m_bits l D T h0 ar S p0 x1 s.heap.size ⟨i_size, i_taken, i_vals, i_room, i_dicts, i_deep, i_open, i_cells, i_points, i_part, i_length, i_knows, i_page, i_text, i_pats, i_fuel, i_fr, i_ink⟩ (show 29 ≤ p0.toInt ∧ p0.toInt ≤ 36 by first | omega | (simp only [fx1]; omega)) (show x1.toInt = (f_size S).toInt - 1 ∧ 1 ≤ (f_size S).toInt ∧ ((p0.toInt = 29 ∨ p0.toInt = 30 ∨ p0.toInt = 32) → 2 ≤ (f_size S).toInt) by first | omega | (simp only [fx1]; omega)) (show bitP p0 ((a_kinds S) ((f_size S).toInt - 1).toNat) ((a_kinds S) ((f_size S).toInt - 2).toNat) by first | omega | (simp only [fx1]; omega))) (j_cV (k := 2) (C := "PageScribeModel") hts k_7_237 k_1_12 k_7_234 k_7_236 k_0_116 (by decide +kernel) ⟨Nat.le_of_ble_eq_true rfl, Nat.le_of_ble_eq_true rfl⟩) (jm_pre hK hP hD) rfl rfl hl.1 rfl (lv_room (Nat.le_of_ble_eq_true rfl)) d_Mo_truth_39 ⟨Nat.le_of_ble_eq_true rfl, Nat.le_of_ble_eq_true rfl⟩) (fun rv5 S2 H locs hw5 hP hD hS => ?_)
      have hP : va_P D classes (mW T h0 ar S2) H := hP
      have hD : va_D A (mW T h0 ar S2) := hD
      obtain ⟨⟨i_size, i_taken, i_vals, i_room, i_dicts, i_deep, i_open, i_cells, i_points, i_part, i_length, i_knows, i_page, i_text, i_pats, i_fuel, i_fr, i_ink⟩, kpA_S2, kpF_S2, qqhw5⟩ := hw5
      have kSA_S2 : kA S S2 := kA_t (show kA S S from (kA_r S)) kpA_S2
      have kSF_S2 : kF S S2 := kF_t (show kF S S from (kF_r S)) kpF_S2
      have kST_S2 : kT S S2 := kT_t (show kT S S from (kT_r S)) (kT_A kpA_S2)
      have qhw5 : rv5.toInt = 0 := by simpa only [fx1] using qqhw5
      exact j_iret F hr hlocks hK hS S2 ⟨⟨i_size, i_taken, i_vals, i_room, i_dicts, i_deep, i_open, i_cells, i_points, i_part, i_length, i_knows, i_page, i_text, i_pats, i_fuel, i_fr, i_ink⟩, kSA_S2, kSF_S2, (show rv5.toInt = 0 ∨ rv5.toInt = 2 by omega)⟩ hP hD d_Mo_truth_42
  · have fc10_1 : p0.toInt < 23 := Int.not_le.mp (zt_nle tI_23 (show p0.toInt = _ from rfl) c10_1)
    refine lv_aload_n hx hb d_Mo_truth_13 rfl (lv_at hl 1 rfl) ?_
    refine lv_iconst (v := 2) hx hb d_Mo_truth_14 (by decide) ?_
    refine j_joinH (α := Int64) (fun x H locs ls => (True) ∧ va_P D classes (mW T h0 ar S) H ∧ va_D A (mW T h0 ar S) ∧ va_S A s.heap H locs ∧ lv_has ls 8 [(2, .int x1), (0, .ref h0), (1, .int p0)]) (fun x ls => F0 m 26 ls (.long x :: [.int 2, .ref h0])) (fun x H locs ls hI9 => ?_) (fun key4 => ?_)
    · obtain ⟨j4, rfl⟩ : ∃ z, z = x := ⟨_, rfl⟩
      obtain ⟨hj4, hP, hD, hS, hl⟩ := hI9
      have hP : va_P D classes (mW T h0 ar S) H := hP
      have hD : va_D A (mW T h0 ar S) := hD
      have hl : lv_has ls 8 [(2, .int x1), (0, .ref h0), (1, .int p0)] := hl
      refine jm_ci (w := (fun u => u)) hK hP hD hS hA (va_runV (As := [.int 2, .long j4]) (rest := []) F (m_push l D T h0 ar S (2 : Int32) j4 H.size ⟨i_size, i_taken, i_vals, i_room, i_dicts, i_deep, i_open, i_cells, i_points, i_part, i_length, i_knows, i_page, i_text, i_pats, i_fuel, i_fr, i_ink⟩ (vO_of 2 tI_2 (by decide))) (j_cV (k := 2) (C := "PageScribeModel") hts k_7_191 k_1_12 k_7_188 k_7_190 k_0_106 (by decide +kernel) ⟨Nat.le_of_ble_eq_true rfl, Nat.le_of_ble_eq_true rfl⟩) (jm_pre hK hP hD) rfl rfl hl.1 rfl (lv_room (Nat.le_of_ble_eq_true rfl)) d_Mo_truth_26 ⟨Nat.le_of_ble_eq_true rfl, Nat.le_of_ble_eq_true rfl⟩) (fun rv6 S3 H locs hw6 hP hD hS => ?_)
      have hP : va_P D classes (mW T h0 ar S3) H := hP
      have hD : va_D A (mW T h0 ar S3) := hD
      obtain ⟨⟨i_size, i_taken, i_vals, i_room, i_dicts, i_deep, i_open, i_cells, i_points, i_part, i_length, i_knows, i_page, i_text, i_pats, i_fuel, i_fr, i_ink⟩, kpA_S3, kpF_S3, qqhw6⟩ := hw6
      have kSA_S3 : kA S S3 := kA_t (show kA S S from (kA_r S)) kpA_S3
      have kSF_S3 : kF S S3 := kF_t (show kF S S from (kF_r S)) kpF_S3
      have kST_S3 : kT S S3 := kT_t (show kT S S from (kT_r S)) (kT_A kpA_S3)
      have qhw6 : rv6.toInt = 0 ∨ rv6.toInt = 2 := by simpa only [tI_2] using qqhw6
      exact j_iret F hr hlocks hK hS S3 ⟨⟨i_size, i_taken, i_vals, i_room, i_dicts, i_deep, i_open, i_cells, i_points, i_part, i_length, i_knows, i_page, i_text, i_pats, i_fuel, i_fr, i_ink⟩, kSA_S3, kSF_S3, (show rv6.toInt = 0 ∨ rv6.toInt = 2 by omega)⟩ hP hD d_Mo_truth_29
    · refine lv_iload_n hx hb d_Mo_truth_15 rfl (lv_at hl 2 rfl) ?_
      refine lv_bipush (v := 21) hx hb d_Mo_truth_16 (by decide) ?_
      refine lv_icmp_ne (tgt := 25) hx hb d_Mo_truth_18 (by decide) (fun c18_1 => ?_) (fun c18_1 => ?_)
      · first | have fc18_1 : p0.toInt < 21 := (by have := zt_ne (show p0.toInt = _ from rfl) tI_21 c18_1; omega) | have fc18_1 : 21 < p0.toInt := (by have := zt_ne (show p0.toInt = _ from rfl) tI_21 c18_1; omega) | skip
        refine lv_lconst (v := 0) hx hb d_Mo_truth_25 (by decide) ?_
        exact key4 (0 : Int64) _ _ _ ⟨trivial, hP, hD, hS, lv_sub hl [0, 1, 2] rfl⟩
      · have fc18_1 : p0.toInt = 21 := zt_eq (show p0.toInt = _ from rfl) tI_21 c18_1
        refine lv_lconst (v := 1) hx hb d_Mo_truth_21 (by decide) ?_
        refine lv_goto (tgt := 26) hx hb d_Mo_truth_22 (by decide) ?_
        exact key4 (1 : Int64) _ _ _ ⟨trivial, hP, hD, hS, lv_sub hl [0, 1, 2] rfl⟩
