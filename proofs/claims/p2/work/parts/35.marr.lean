/-- the stack under an operator of arrays -/
def arrP (op : Int) (S : MS) : Prop := 1 ≤ (f_size S).toInt ∧ (op = 38 → ((a_kinds S) ((f_size S).toInt - 1).toNat).toInt % 8 = 5 ∨ ((a_kinds S) ((f_size S).toInt - 1).toNat).toInt % 8 = 6) ∧ (op = 39 → 2 ≤ (f_size S).toInt ∧ (((a_kinds S) ((f_size S).toInt - 2).toNat).toInt % 8 = 6 ∨ ((a_kinds S) ((f_size S).toInt - 2).toNat).toInt % 8 = 5)) ∧ (op = 40 → 3 ≤ (f_size S).toInt ∧ (((a_kinds S) ((f_size S).toInt - 3).toNat).toInt % 8 = 6 ∨ ((a_kinds S) ((f_size S).toInt - 3).toNat).toInt % 8 = 5)) ∧ (op = 41 → 3 ≤ (f_size S).toInt ∧ ((a_kinds S) ((f_size S).toInt - 3).toNat).toInt % 8 = 5 ∧ ((a_kinds S) ((f_size S).toInt - 2).toNat).toInt % 8 = 0 ∧ ((a_kinds S) ((f_size S).toInt - 1).toNat).toInt % 8 = 0) ∧ (op = 42 → ((a_kinds S) ((f_size S).toInt - 1).toNat).toInt % 8 = 5)
theorem d_Mo_arrayOperator_0 : decode prog_15_method_53_code 0 = .ok (.aload_n 0, 1) := by decide +kernel
theorem d_Mo_arrayOperator_1 : decode prog_15_method_53_code 1 = .ok (.getfield 247, 3) := by decide +kernel
theorem d_Mo_arrayOperator_4 : decode prog_15_method_53_code 4 = .ok (.iconst 1, 1) := by decide +kernel
theorem d_Mo_arrayOperator_5 : decode prog_15_method_53_code 5 = .ok (.isub, 1) := by decide +kernel
theorem d_Mo_arrayOperator_6 : decode prog_15_method_53_code 6 = .ok (.istore_n 2, 1) := by decide +kernel
theorem d_Mo_arrayOperator_7 : decode prog_15_method_53_code 7 = .ok (.iload_n 1, 1) := by decide +kernel
theorem d_Mo_arrayOperator_8 : decode prog_15_method_53_code 8 = .ok (.tableswitch 165 37 41 #[36, 47, 89, 95, 138], 36) := by decide +kernel
theorem d_Mo_arrayOperator_44 : decode prog_15_method_53_code 44 = .ok (.aload_n 0, 1) := by decide +kernel
theorem d_Mo_arrayOperator_45 : decode prog_15_method_53_code 45 = .ok (.aload_n 0, 1) := by decide +kernel
theorem d_Mo_arrayOperator_46 : decode prog_15_method_53_code 46 = .ok (.getfield 13, 3) := by decide +kernel
theorem d_Mo_arrayOperator_49 : decode prog_15_method_53_code 49 = .ok (.iload_n 2, 1) := by decide +kernel
theorem d_Mo_arrayOperator_50 : decode prog_15_method_53_code 50 = .ok (.laload, 1) := by decide +kernel
theorem d_Mo_arrayOperator_51 : decode prog_15_method_53_code 51 = .ok (.invokevirtual 497, 3) := by decide +kernel
theorem k_8_15 : Cond.code ⟨"PageScribeModel", "zeros", "(J)I"⟩ prog_15_method_54_code 4 (some .int) ∈ gw := gw_of (tb_8 (List.mem_of_getElem? (i := 15) (by decide +kernel))) (by decide +kernel)
theorem k_8_12 : Cond.methodLink "PageScribeModel" 497 ⟨"PageScribeModel", "zeros", "(J)I"⟩ ∈ gw := gw_of (tb_8 (List.mem_of_getElem? (i := 12) (by decide +kernel))) (by decide +kernel)
theorem k_8_14 : Cond.instanceMethod ⟨"PageScribeModel", "zeros", "(J)I"⟩ ∈ gw := gw_of (tb_8 (List.mem_of_getElem? (i := 14) (by decide +kernel))) (by decide +kernel)
theorem k_0_119 : Cond.selects "PageScribeModel" ⟨"PageScribeModel", "zeros", "(J)I"⟩ ⟨"PageScribeModel", "zeros", "(J)I"⟩ ∈ gw := gw_of (tb_0 (List.mem_of_getElem? (i := 119) (by decide +kernel))) (by decide +kernel)
theorem d_Mo_arrayOperator_54 : decode prog_15_method_53_code 54 = .ok (.ireturn, 1) := by decide +kernel
theorem d_Mo_arrayOperator_55 : decode prog_15_method_53_code 55 = .ok (.aload_n 0, 1) := by decide +kernel
theorem d_Mo_arrayOperator_56 : decode prog_15_method_53_code 56 = .ok (.iconst 1, 1) := by decide +kernel
theorem d_Mo_arrayOperator_57 : decode prog_15_method_53_code 57 = .ok (.iconst 0, 1) := by decide +kernel
theorem d_Mo_arrayOperator_93 : decode prog_15_method_53_code 93 = .ok (.invokevirtual 262, 3) := by decide +kernel
theorem d_Mo_arrayOperator_96 : decode prog_15_method_53_code 96 = .ok (.ireturn, 1) := by decide +kernel
theorem d_Mo_arrayOperator_58 : decode prog_15_method_53_code 58 = .ok (.aload_n 0, 1) := by decide +kernel
theorem d_Mo_arrayOperator_59 : decode prog_15_method_53_code 59 = .ok (.iload_n 2, 1) := by decide +kernel
theorem d_Mo_arrayOperator_60 : decode prog_15_method_53_code 60 = .ok (.invokevirtual 421, 3) := by decide +kernel
theorem d_Mo_arrayOperator_63 : decode prog_15_method_53_code 63 = .ok (.iconst 5, 1) := by decide +kernel
theorem d_Mo_arrayOperator_64 : decode prog_15_method_53_code 64 = .ok (.if_icmp .ne 16, 3) := by decide +kernel
theorem d_Mo_arrayOperator_80 : decode prog_15_method_53_code 80 = .ok (.aload_n 0, 1) := by decide +kernel
theorem d_Mo_arrayOperator_81 : decode prog_15_method_53_code 81 = .ok (.getfield 24, 3) := by decide +kernel
theorem d_Mo_arrayOperator_84 : decode prog_15_method_53_code 84 = .ok (.aload_n 0, 1) := by decide +kernel
theorem d_Mo_arrayOperator_85 : decode prog_15_method_53_code 85 = .ok (.getfield 13, 3) := by decide +kernel
theorem d_Mo_arrayOperator_88 : decode prog_15_method_53_code 88 = .ok (.iload_n 2, 1) := by decide +kernel
theorem d_Mo_arrayOperator_89 : decode prog_15_method_53_code 89 = .ok (.laload, 1) := by decide +kernel
theorem d_Mo_arrayOperator_90 : decode prog_15_method_53_code 90 = .ok (.l2i, 1) := by decide +kernel
theorem d_Mo_arrayOperator_91 : decode prog_15_method_53_code 91 = .ok (.iaload, 1) := by decide +kernel
theorem d_Mo_arrayOperator_92 : decode prog_15_method_53_code 92 = .ok (.i2l, 1) := by decide +kernel
theorem d_Mo_arrayOperator_67 : decode prog_15_method_53_code 67 = .ok (.aload_n 0, 1) := by decide +kernel
theorem d_Mo_arrayOperator_68 : decode prog_15_method_53_code 68 = .ok (.getfield 13, 3) := by decide +kernel
theorem d_Mo_arrayOperator_71 : decode prog_15_method_53_code 71 = .ok (.iload_n 2, 1) := by decide +kernel
theorem d_Mo_arrayOperator_72 : decode prog_15_method_53_code 72 = .ok (.laload, 1) := by decide +kernel
theorem d_Mo_arrayOperator_73 : decode prog_15_method_53_code 73 = .ok (.invokestatic 391, 3) := by decide +kernel
theorem d_Mo_arrayOperator_76 : decode prog_15_method_53_code 76 = .ok (.i2l, 1) := by decide +kernel
theorem d_Mo_arrayOperator_77 : decode prog_15_method_53_code 77 = .ok (.goto 16, 3) := by decide +kernel
theorem d_Mo_arrayOperator_97 : decode prog_15_method_53_code 97 = .ok (.aload_n 0, 1) := by decide +kernel
theorem d_Mo_arrayOperator_98 : decode prog_15_method_53_code 98 = .ok (.iload_n 2, 1) := by decide +kernel
theorem d_Mo_arrayOperator_99 : decode prog_15_method_53_code 99 = .ok (.invokevirtual 500, 3) := by decide +kernel
theorem k_8_19 : Cond.code ⟨"PageScribeModel", "get", "(I)I"⟩ prog_15_method_55_code 5 (some .int) ∈ gw := gw_of (tb_8 (List.mem_of_getElem? (i := 19) (by decide +kernel))) (by decide +kernel)
theorem k_8_16 : Cond.methodLink "PageScribeModel" 500 ⟨"PageScribeModel", "get", "(I)I"⟩ ∈ gw := gw_of (tb_8 (List.mem_of_getElem? (i := 16) (by decide +kernel))) (by decide +kernel)
theorem k_8_18 : Cond.instanceMethod ⟨"PageScribeModel", "get", "(I)I"⟩ ∈ gw := gw_of (tb_8 (List.mem_of_getElem? (i := 18) (by decide +kernel))) (by decide +kernel)
theorem k_0_120 : Cond.selects "PageScribeModel" ⟨"PageScribeModel", "get", "(I)I"⟩ ⟨"PageScribeModel", "get", "(I)I"⟩ ∈ gw := gw_of (tb_0 (List.mem_of_getElem? (i := 120) (by decide +kernel))) (by decide +kernel)
theorem d_Mo_arrayOperator_102 : decode prog_15_method_53_code 102 = .ok (.ireturn, 1) := by decide +kernel
theorem d_Mo_arrayOperator_103 : decode prog_15_method_53_code 103 = .ok (.aload_n 0, 1) := by decide +kernel
theorem d_Mo_arrayOperator_104 : decode prog_15_method_53_code 104 = .ok (.iload_n 2, 1) := by decide +kernel
theorem d_Mo_arrayOperator_105 : decode prog_15_method_53_code 105 = .ok (.iconst 2, 1) := by decide +kernel
theorem d_Mo_arrayOperator_106 : decode prog_15_method_53_code 106 = .ok (.isub, 1) := by decide +kernel
theorem d_Mo_arrayOperator_107 : decode prog_15_method_53_code 107 = .ok (.invokevirtual 421, 3) := by decide +kernel
theorem d_Mo_arrayOperator_110 : decode prog_15_method_53_code 110 = .ok (.bipush 6, 2) := by decide +kernel
theorem d_Mo_arrayOperator_112 : decode prog_15_method_53_code 112 = .ok (.if_icmp .ne 28, 3) := by decide +kernel
theorem d_Mo_arrayOperator_140 : decode prog_15_method_53_code 140 = .ok (.aload_n 0, 1) := by decide +kernel
theorem d_Mo_arrayOperator_141 : decode prog_15_method_53_code 141 = .ok (.iload_n 2, 1) := by decide +kernel
theorem d_Mo_arrayOperator_142 : decode prog_15_method_53_code 142 = .ok (.invokevirtual 507, 3) := by decide +kernel
theorem k_8_31 : Cond.code ⟨"PageScribeModel", "putCell", "(I)I"⟩ prog_15_method_56_code 4 (some .int) ∈ gw := gw_of (tb_8 (List.mem_of_getElem? (i := 31) (by decide +kernel))) (by decide +kernel)
theorem k_8_28 : Cond.methodLink "PageScribeModel" 507 ⟨"PageScribeModel", "putCell", "(I)I"⟩ ∈ gw := gw_of (tb_8 (List.mem_of_getElem? (i := 28) (by decide +kernel))) (by decide +kernel)
theorem k_8_30 : Cond.instanceMethod ⟨"PageScribeModel", "putCell", "(I)I"⟩ ∈ gw := gw_of (tb_8 (List.mem_of_getElem? (i := 30) (by decide +kernel))) (by decide +kernel)
theorem k_0_122 : Cond.selects "PageScribeModel" ⟨"PageScribeModel", "putCell", "(I)I"⟩ ⟨"PageScribeModel", "putCell", "(I)I"⟩ ∈ gw := gw_of (tb_0 (List.mem_of_getElem? (i := 122) (by decide +kernel))) (by decide +kernel)
theorem d_Mo_arrayOperator_145 : decode prog_15_method_53_code 145 = .ok (.ireturn, 1) := by decide +kernel
theorem d_Mo_arrayOperator_115 : decode prog_15_method_53_code 115 = .ok (.aload_n 0, 1) := by decide +kernel
theorem d_Mo_arrayOperator_116 : decode prog_15_method_53_code 116 = .ok (.aload_n 0, 1) := by decide +kernel
theorem d_Mo_arrayOperator_117 : decode prog_15_method_53_code 117 = .ok (.getfield 13, 3) := by decide +kernel
theorem d_Mo_arrayOperator_120 : decode prog_15_method_53_code 120 = .ok (.iload_n 2, 1) := by decide +kernel
theorem d_Mo_arrayOperator_121 : decode prog_15_method_53_code 121 = .ok (.iconst 2, 1) := by decide +kernel
theorem d_Mo_arrayOperator_122 : decode prog_15_method_53_code 122 = .ok (.isub, 1) := by decide +kernel
theorem d_Mo_arrayOperator_123 : decode prog_15_method_53_code 123 = .ok (.laload, 1) := by decide +kernel
theorem d_Mo_arrayOperator_124 : decode prog_15_method_53_code 124 = .ok (.l2i, 1) := by decide +kernel
theorem d_Mo_arrayOperator_125 : decode prog_15_method_53_code 125 = .ok (.aload_n 0, 1) := by decide +kernel
theorem d_Mo_arrayOperator_126 : decode prog_15_method_53_code 126 = .ok (.getfield 13, 3) := by decide +kernel
theorem d_Mo_arrayOperator_129 : decode prog_15_method_53_code 129 = .ok (.iload_n 2, 1) := by decide +kernel
theorem d_Mo_arrayOperator_130 : decode prog_15_method_53_code 130 = .ok (.iconst 1, 1) := by decide +kernel
theorem d_Mo_arrayOperator_131 : decode prog_15_method_53_code 131 = .ok (.isub, 1) := by decide +kernel
theorem d_Mo_arrayOperator_132 : decode prog_15_method_53_code 132 = .ok (.laload, 1) := by decide +kernel
theorem d_Mo_arrayOperator_133 : decode prog_15_method_53_code 133 = .ok (.iconst 3, 1) := by decide +kernel
theorem d_Mo_arrayOperator_134 : decode prog_15_method_53_code 134 = .ok (.invokevirtual 503, 3) := by decide +kernel
theorem k_8_27 : Cond.code ⟨"PageScribeModel", "putEntry", "(IJI)I"⟩ prog_15_method_61_code 6 (some .int) ∈ gw := gw_of (tb_8 (List.mem_of_getElem? (i := 27) (by decide +kernel))) (by decide +kernel)
theorem k_8_24 : Cond.methodLink "PageScribeModel" 503 ⟨"PageScribeModel", "putEntry", "(IJI)I"⟩ ∈ gw := gw_of (tb_8 (List.mem_of_getElem? (i := 24) (by decide +kernel))) (by decide +kernel)
theorem k_8_26 : Cond.instanceMethod ⟨"PageScribeModel", "putEntry", "(IJI)I"⟩ ∈ gw := gw_of (tb_8 (List.mem_of_getElem? (i := 26) (by decide +kernel))) (by decide +kernel)
theorem k_0_121 : Cond.selects "PageScribeModel" ⟨"PageScribeModel", "putEntry", "(IJI)I"⟩ ⟨"PageScribeModel", "putEntry", "(IJI)I"⟩ ∈ gw := gw_of (tb_0 (List.mem_of_getElem? (i := 121) (by decide +kernel))) (by decide +kernel)
theorem d_Mo_arrayOperator_137 : decode prog_15_method_53_code 137 = .ok (.goto 8, 3) := by decide +kernel
theorem d_Mo_arrayOperator_146 : decode prog_15_method_53_code 146 = .ok (.aload_n 0, 1) := by decide +kernel
theorem d_Mo_arrayOperator_147 : decode prog_15_method_53_code 147 = .ok (.aload_n 0, 1) := by decide +kernel
theorem d_Mo_arrayOperator_148 : decode prog_15_method_53_code 148 = .ok (.getfield 13, 3) := by decide +kernel
theorem d_Mo_arrayOperator_151 : decode prog_15_method_53_code 151 = .ok (.iload_n 2, 1) := by decide +kernel
theorem d_Mo_arrayOperator_152 : decode prog_15_method_53_code 152 = .ok (.iconst 2, 1) := by decide +kernel
theorem d_Mo_arrayOperator_153 : decode prog_15_method_53_code 153 = .ok (.isub, 1) := by decide +kernel
theorem d_Mo_arrayOperator_154 : decode prog_15_method_53_code 154 = .ok (.laload, 1) := by decide +kernel
theorem d_Mo_arrayOperator_155 : decode prog_15_method_53_code 155 = .ok (.aload_n 0, 1) := by decide +kernel
theorem d_Mo_arrayOperator_156 : decode prog_15_method_53_code 156 = .ok (.getfield 13, 3) := by decide +kernel
theorem d_Mo_arrayOperator_159 : decode prog_15_method_53_code 159 = .ok (.iload_n 2, 1) := by decide +kernel
theorem d_Mo_arrayOperator_160 : decode prog_15_method_53_code 160 = .ok (.iconst 1, 1) := by decide +kernel
theorem d_Mo_arrayOperator_161 : decode prog_15_method_53_code 161 = .ok (.isub, 1) := by decide +kernel
theorem d_Mo_arrayOperator_162 : decode prog_15_method_53_code 162 = .ok (.laload, 1) := by decide +kernel
theorem d_Mo_arrayOperator_163 : decode prog_15_method_53_code 163 = .ok (.aload_n 0, 1) := by decide +kernel
theorem d_Mo_arrayOperator_164 : decode prog_15_method_53_code 164 = .ok (.getfield 13, 3) := by decide +kernel
theorem d_Mo_arrayOperator_167 : decode prog_15_method_53_code 167 = .ok (.iload_n 2, 1) := by decide +kernel
theorem d_Mo_arrayOperator_168 : decode prog_15_method_53_code 168 = .ok (.laload, 1) := by decide +kernel
theorem d_Mo_arrayOperator_169 : decode prog_15_method_53_code 169 = .ok (.invokevirtual 510, 3) := by decide +kernel
theorem k_8_35 : Cond.code ⟨"PageScribeModel", "part", "(JJJ)I"⟩ prog_15_method_57_code 7 (some .int) ∈ gw := gw_of (tb_8 (List.mem_of_getElem? (i := 35) (by decide +kernel))) (by decide +kernel)
theorem k_8_32 : Cond.methodLink "PageScribeModel" 510 ⟨"PageScribeModel", "part", "(JJJ)I"⟩ ∈ gw := gw_of (tb_8 (List.mem_of_getElem? (i := 32) (by decide +kernel))) (by decide +kernel)
theorem k_8_34 : Cond.instanceMethod ⟨"PageScribeModel", "part", "(JJJ)I"⟩ ∈ gw := gw_of (tb_8 (List.mem_of_getElem? (i := 34) (by decide +kernel))) (by decide +kernel)
theorem k_0_123 : Cond.selects "PageScribeModel" ⟨"PageScribeModel", "part", "(JJJ)I"⟩ ⟨"PageScribeModel", "part", "(JJJ)I"⟩ ∈ gw := gw_of (tb_0 (List.mem_of_getElem? (i := 123) (by decide +kernel))) (by decide +kernel)
theorem d_Mo_arrayOperator_172 : decode prog_15_method_53_code 172 = .ok (.ireturn, 1) := by decide +kernel
theorem d_Mo_arrayOperator_173 : decode prog_15_method_53_code 173 = .ok (.aload_n 0, 1) := by decide +kernel
theorem d_Mo_arrayOperator_174 : decode prog_15_method_53_code 174 = .ok (.aload_n 0, 1) := by decide +kernel
theorem d_Mo_arrayOperator_175 : decode prog_15_method_53_code 175 = .ok (.getfield 13, 3) := by decide +kernel
theorem d_Mo_arrayOperator_178 : decode prog_15_method_53_code 178 = .ok (.iload_n 2, 1) := by decide +kernel
theorem d_Mo_arrayOperator_179 : decode prog_15_method_53_code 179 = .ok (.laload, 1) := by decide +kernel
theorem d_Mo_arrayOperator_180 : decode prog_15_method_53_code 180 = .ok (.invokevirtual 513, 3) := by decide +kernel
theorem k_8_39 : Cond.code ⟨"PageScribeModel", "load", "(J)I"⟩ prog_15_method_58_code 6 (some .int) ∈ gw := gw_of (tb_8 (List.mem_of_getElem? (i := 39) (by decide +kernel))) (by decide +kernel)
theorem k_8_36 : Cond.methodLink "PageScribeModel" 513 ⟨"PageScribeModel", "load", "(J)I"⟩ ∈ gw := gw_of (tb_8 (List.mem_of_getElem? (i := 36) (by decide +kernel))) (by decide +kernel)
theorem k_8_38 : Cond.instanceMethod ⟨"PageScribeModel", "load", "(J)I"⟩ ∈ gw := gw_of (tb_8 (List.mem_of_getElem? (i := 38) (by decide +kernel))) (by decide +kernel)
theorem k_0_124 : Cond.selects "PageScribeModel" ⟨"PageScribeModel", "load", "(J)I"⟩ ⟨"PageScribeModel", "load", "(J)I"⟩ ∈ gw := gw_of (tb_0 (List.mem_of_getElem? (i := 124) (by decide +kernel))) (by decide +kernel)
theorem d_Mo_arrayOperator_183 : decode prog_15_method_53_code 183 = .ok (.ireturn, 1) := by decide +kernel
set_option maxHeartbeats 4000000 in
set_option maxRecDepth 100000 in
theorem m_arrayOperator (l : Launch) (D : va_G) (T : Nat → ClassId) (h0 : Nat) (ar : Nat → Nat) (S : MS) (p0 : Int32) (sz : Nat) (hI : MI S) (h1 : 37 ≤ p0.toInt ∧ p0.toInt ≤ 42) (h2 : arrP p0.toInt S) : Met l ⟨"PageScribeModel", "arrayOperator", "(I)I"⟩ (wy ⟨"PageScribeModel", "arrayOperator", "(I)I"⟩ prog_15_method_53_code 3 (some .int)) ({ frames := 3, cells := 0, slots := 0, locals := 210 }) (va_Pc [.ref h0, .int p0] (Pw D T (mW T h0 ar S) sz E0)) (va_Qi (fun (r : Int32) (u : MS) => MI u ∧ kA S u ∧ kF S u ∧ (0 ≤ r.toInt ∧ r.toInt ≤ 16)) (fun u t => Bw D T (va_A (mW T h0 ar S) sz) (mW T h0 ar u) t) (va_A (mW T h0 ar S) sz)) 0 0 (va_A (mW T h0 ar S) sz) := by
  refine j_met (y := ⟨"PageScribeModel", "arrayOperator", "(I)I"⟩) (b := prog_15_method_53_code) (n := 3) (ret := (some .int)) (av := [.ref h0, .int p0]) (Qc := fun A => va_Qi (fun (r : Int32) (u : MS) => MI u ∧ kA S u ∧ kF S u ∧ (0 ≤ r.toInt ∧ r.toInt ≤ 16)) (fun u t => Bw D T A (mW T h0 ar u) t) A) (by decide +kernel) (Nat.le_of_ble_eq_true rfl) (fun p e s m args below meth c A ls F hr hlocks hnm hK hP hD hS hA hN hE hl => ?_)
  obtain ⟨hx, hb, hml, hown, hts⟩ := id F
  have hl : lv_has ls 3 [(0, .ref h0), (1, .int p0)] := hl
  obtain ⟨i_size, i_taken, i_vals, i_room, i_dicts, i_deep, i_open, i_cells, i_points, i_part, i_length, i_knows, i_page, i_text, i_pats, i_fuel, i_fr, i_ink⟩ := id hI
  have h5 := h2.1
  have kt := i_vals (((f_size S).toInt - 1).toNat) (by omega)
  refine lv_aload_n hx hb d_Mo_arrayOperator_0 rfl (lv_at hl 0 rfl) ?_
  refine va_get (D := D) (ci := 11) (v := .int (f_size S)) (C := "PageScribeModel") (T := F_Mo) (N := 45) hx hb hts i_Mo hown hK hP 0 mW_0 cl_11 4 (by decide) (hts _ k_6_164) (fun _ h9 => h9) (mg_size _ _) d_Mo_arrayOperator_1 ?_
  refine lv_iconst (v := 1) hx hb d_Mo_arrayOperator_4 (by decide) ?_
  refine lv_isub hx hb d_Mo_arrayOperator_5 ?_
  refine lv_topi (fun x1 ex1 => ?_)
  have fx1 : x1.toInt = ((f_size S).toInt - 1) := by rw [ex1]; exact (zt_sub (show (f_size S).toInt = _ from rfl) tI_1 (by omega) (by omega)).trans (by omega)
  refine lv_istore_n (lv' := [(2, .int x1), (0, .ref h0), (1, .int p0)]) hx hb d_Mo_arrayOperator_6 rfl hl (by decide) rfl (fun ls hl => ?_)
  refine lv_iload_n hx hb d_Mo_arrayOperator_7 rfl (lv_at hl 2 rfl) ?_
  by_cases h_37_1 : p0.toInt = 37
  · refine lv_tableIn (off := 36) (tgt := 44) hx hb d_Mo_arrayOperator_8 (by omega) (by omega) (by rw [show p0.toInt = 37 from h_37_1]; decide +kernel) (by decide) ?_
    refine lv_aload_n hx hb d_Mo_arrayOperator_44 rfl (lv_at hl 1 rfl) ?_
    refine lv_aload_n hx hb d_Mo_arrayOperator_45 rfl (lv_at hl 1 rfl) ?_
    refine va_get (D := D) (ci := 11) (v := .ref (ar 1)) (C := "PageScribeModel") (T := F_Mo) (N := 45) hx hb hts i_Mo hown hK hP 0 mW_0 cl_11 2 (by decide) (hts _ k_6_162) (fun _ h9 => h9) (mg_codes _ _) d_Mo_arrayOperator_46 ?_
    refine lv_iload_n hx hb d_Mo_arrayOperator_49 rfl (lv_at hl 0 rfl) ?_
    refine va_lald hx hb hK hP 2 1 (ma_codes _ _ _ _) rfl (zt_in fx1 (by omega) (by omega)) d_Mo_arrayOperator_50 ?_
    refine lv_topl (fun x2 ex2 => ?_)
    have gx2 : x2 = (a_codes S) ((f_size S).toInt - 1).toNat := ex2.trans (congrArg _ (zt_ix fx1))
    have fx2 : x2.toInt = ((a_codes S) ((f_size S).toInt - 1).toNat).toInt := by rw [gx2]
    have kx2 : vOk ((a_kinds S) ((f_size S).toInt - 1).toNat) ((a_codes S) ((f_size S).toInt - 1).toNat) ((a_reals S) ((f_size S).toInt - 1).toNat) := i_vals (((f_size S).toInt - 1).toNat) (by omega)
    refine jm_ci (w := (fun u => u)) hK hP hD hS hA (va_runV (As := [.long x2]) (rest := []) F (m_zeros l D T h0 ar S x2 s.heap.size ⟨i_size, i_taken, i_vals, i_room, i_dicts, i_deep, i_open, i_cells, i_points, i_part, i_length, i_knows, i_page, i_text, i_pats, i_fuel, i_fr, i_ink⟩ (show 1 ≤ (f_size S).toInt by omega)) (j_cV (k := 1) (C := "PageScribeModel") hts k_8_15 k_1_12 k_8_12 k_8_14 k_0_119 (by decide +kernel) ⟨Nat.le_of_ble_eq_true rfl, Nat.le_of_ble_eq_true rfl⟩) (jm_pre hK hP hD) rfl rfl hl.1 rfl (lv_room (Nat.le_of_ble_eq_true rfl)) d_Mo_arrayOperator_51 ⟨Nat.le_of_ble_eq_true rfl, Nat.le_of_ble_eq_true rfl⟩) (fun rv1 S1 H locs hw1 hP hD hS => ?_)
    have hP : va_P D classes (mW T h0 ar S1) H := hP
    have hD : va_D A (mW T h0 ar S1) := hD
    obtain ⟨⟨i_size, i_taken, i_vals, i_room, i_dicts, i_deep, i_open, i_cells, i_points, i_part, i_length, i_knows, i_page, i_text, i_pats, i_fuel, i_fr, i_ink⟩, kpA_S1, kpF_S1, qqhw1⟩ := hw1
    have kSA_S1 : kA S S1 := kA_t (show kA S S from (kA_r S)) kpA_S1
    have kSF_S1 : kF S S1 := kF_t (show kF S S from (kF_r S)) kpF_S1
    have kST_S1 : kT S S1 := kT_t (show kT S S from (kT_r S)) (kT_A kpA_S1)
    have qhw1 : rv1.toInt = 0 ∨ rv1.toInt = 4 ∨ rv1.toInt = 7 := qqhw1
    exact j_iret F hr hlocks hK hS S1 ⟨⟨i_size, i_taken, i_vals, i_room, i_dicts, i_deep, i_open, i_cells, i_points, i_part, i_length, i_knows, i_page, i_text, i_pats, i_fuel, i_fr, i_ink⟩, kSA_S1, kSF_S1, (show 0 ≤ rv1.toInt ∧ rv1.toInt ≤ 16 by omega)⟩ hP hD d_Mo_arrayOperator_54
  by_cases h_38_1 : p0.toInt = 38
  · refine lv_tableIn (off := 47) (tgt := 55) hx hb d_Mo_arrayOperator_8 (by omega) (by omega) (by rw [show p0.toInt = 38 from h_38_1]; decide +kernel) (by decide) ?_
    have hs := h2.2.1 h_38_1
    refine lv_aload_n hx hb d_Mo_arrayOperator_55 rfl (lv_at hl 1 rfl) ?_
    refine lv_iconst (v := 1) hx hb d_Mo_arrayOperator_56 (by decide) ?_
    refine lv_iconst (v := 0) hx hb d_Mo_arrayOperator_57 (by decide) ?_
    refine j_joinH (α := Int64) (fun x H locs ls => (-2147483648 ≤ x.toInt ∧ x.toInt ≤ 2147483647) ∧ va_P D classes (mW T h0 ar S) H ∧ va_D A (mW T h0 ar S) ∧ va_S A s.heap H locs ∧ lv_has ls 3 [(2, .int x1), (0, .ref h0), (1, .int p0)]) (fun x ls => F0 m 93 ls (.long x :: [.int 0, .int 1, .ref h0])) (fun x H locs ls hI9 => ?_) (fun key1 => ?_)
    · obtain ⟨j1, rfl⟩ : ∃ z, z = x := ⟨_, rfl⟩
      obtain ⟨hj1, hP, hD, hS, hl⟩ := hI9
      have hj1 : -2147483648 ≤ j1.toInt ∧ j1.toInt ≤ 2147483647 := hj1
      have hP : va_P D classes (mW T h0 ar S) H := hP
      have hD : va_D A (mW T h0 ar S) := hD
      have hl : lv_has ls 3 [(2, .int x1), (0, .ref h0), (1, .int p0)] := hl
      refine jm_ci (w := (fun u => u)) hK hP hD hS hA (va_runV (As := [.int 1, .int 0, .long j1]) (rest := []) F (m_give l D T h0 ar S (1 : Int32) (0 : Int32) j1 H.size ⟨i_size, i_taken, i_vals, i_room, i_dicts, i_deep, i_open, i_cells, i_points, i_part, i_length, i_knows, i_page, i_text, i_pats, i_fuel, i_fr, i_ink⟩ (show 0 ≤ (1 : Int32).toInt ∧ (1 : Int32).toInt ≤ (f_size S).toInt ∧ (f_size S).toInt - (1 : Int32).toInt ≤ 39 by have := tI_1; have := tI_0; omega) (vO_int (by omega))) (j_cV (k := 3) (C := "PageScribeModel") hts k_7_221 k_1_12 k_7_218 k_7_220 k_0_113 (by decide +kernel) ⟨Nat.le_of_ble_eq_true rfl, Nat.le_of_ble_eq_true rfl⟩) (jm_pre hK hP hD) rfl rfl hl.1 rfl (lv_room (Nat.le_of_ble_eq_true rfl)) d_Mo_arrayOperator_93 ⟨Nat.le_of_ble_eq_true rfl, Nat.le_of_ble_eq_true rfl⟩) (fun rv2 S2 H locs hw2 hP hD hS => ?_)
      have hP : va_P D classes (mW T h0 ar S2) H := hP
      have hD : va_D A (mW T h0 ar S2) := hD
      obtain ⟨⟨i_size, i_taken, i_vals, i_room, i_dicts, i_deep, i_open, i_cells, i_points, i_part, i_length, i_knows, i_page, i_text, i_pats, i_fuel, i_fr, i_ink⟩, kpA_S2, kpF_S2, qqhw2⟩ := hw2
      have kSA_S2 : kA S S2 := kA_t (show kA S S from (kA_r S)) kpA_S2
      have kSF_S2 : kF S S2 := kF_t (show kF S S from (kF_r S)) kpF_S2
      have kST_S2 : kT S S2 := kT_t (show kT S S from (kT_r S)) (kT_A kpA_S2)
      have qhw2 : rv2.toInt = 0 ∧ (f_taken S2).toInt = (f_taken S).toInt := by simpa only [tI_0, tI_1] using qqhw2
      exact j_iret F hr hlocks hK hS S2 ⟨⟨i_size, i_taken, i_vals, i_room, i_dicts, i_deep, i_open, i_cells, i_points, i_part, i_length, i_knows, i_page, i_text, i_pats, i_fuel, i_fr, i_ink⟩, kSA_S2, kSF_S2, (show 0 ≤ rv2.toInt ∧ rv2.toInt ≤ 16 by omega)⟩ hP hD d_Mo_arrayOperator_96
    · refine lv_aload_n hx hb d_Mo_arrayOperator_58 rfl (lv_at hl 1 rfl) ?_
      refine lv_iload_n hx hb d_Mo_arrayOperator_59 rfl (lv_at hl 0 rfl) ?_
      have kv1 : vOk ((a_kinds S) (((f_size S).toInt - 1).toNat)) ((a_codes S) (((f_size S).toInt - 1).toNat)) ((a_reals S) (((f_size S).toInt - 1).toNat)) := i_vals (((f_size S).toInt - 1).toNat) (by omega)
      have rkv1 := vk_rng kv1
      refine jm_ci (w := (fun _ => S)) hK hP hD hS hA (va_runV (As := [.int x1]) (rest := [.int 0, .int 1, .ref h0]) F (m_kindOf l D T h0 ar S x1 s.heap.size (show 0 ≤ x1.toInt ∧ x1.toInt < 1300 by first | omega | (simp only [fx1]; omega)) (show 0 ≤ ((a_kinds S) x1.toInt.toNat).toInt by first | omega | (simp only [fx1]; omega))) (j_cV (k := 1) (C := "PageScribeModel") hts k_7_174 k_1_12 k_7_171 k_7_173 k_0_102 (by decide +kernel) ⟨Nat.le_of_ble_eq_true rfl, Nat.le_of_ble_eq_true rfl⟩) (jm_pre hK hP hD) rfl rfl hl.1 rfl (lv_room (Nat.le_of_ble_eq_true rfl)) d_Mo_arrayOperator_60 ⟨Nat.le_of_ble_eq_true rfl, Nat.le_of_ble_eq_true rfl⟩) (fun rv3 u1 H locs hw3 hP hD hS => ?_)
      have hP : va_P D classes (mW T h0 ar S) H := hP
      have hD : va_D A (mW T h0 ar S) := hD
      have qhw3 : rv3.toInt = ((a_kinds S) ((f_size S).toInt - 1).toNat).toInt % 8 := by simpa only [fx1] using hw3
      refine lv_iconst (v := 5) hx hb d_Mo_arrayOperator_63 (by decide) ?_
      refine lv_icmp_ne (tgt := 80) hx hb d_Mo_arrayOperator_64 (by decide) (fun c64_1 => ?_) (fun c64_1 => ?_)
      · have fc64_1 : ¬ rv3.toInt = 5 := zt_ne (show rv3.toInt = _ from rfl) tI_5 c64_1
        have dd := vk_dict kt (by omega)
        refine lv_aload_n hx hb d_Mo_arrayOperator_80 rfl (lv_at hl 1 rfl) ?_
        refine va_get (D := D) (ci := 11) (v := .ref (ar 4)) (C := "PageScribeModel") (T := F_Mo) (N := 45) hx hb hts i_Mo hown hK hP 0 mW_0 cl_11 7 (by decide) (hts _ k_6_167) (fun _ h9 => h9) (mg_many _ _) d_Mo_arrayOperator_81 ?_
        refine lv_aload_n hx hb d_Mo_arrayOperator_84 rfl (lv_at hl 1 rfl) ?_
        refine va_get (D := D) (ci := 11) (v := .ref (ar 1)) (C := "PageScribeModel") (T := F_Mo) (N := 45) hx hb hts i_Mo hown hK hP 0 mW_0 cl_11 2 (by decide) (hts _ k_6_162) (fun _ h9 => h9) (mg_codes _ _) d_Mo_arrayOperator_85 ?_
        refine lv_iload_n hx hb d_Mo_arrayOperator_88 rfl (lv_at hl 0 rfl) ?_
        refine va_lald hx hb hK hP 2 1 (ma_codes _ _ _ _) rfl (zt_in fx1 (by omega) (by omega)) d_Mo_arrayOperator_89 ?_
        refine lv_topl (fun x3 ex3 => ?_)
        have gx3 : x3 = (a_codes S) ((f_size S).toInt - 1).toNat := ex3.trans (congrArg _ (zt_ix fx1))
        have fx3 : x3.toInt = ((a_codes S) ((f_size S).toInt - 1).toNat).toInt := by rw [gx3]
        have kx3 : vOk ((a_kinds S) ((f_size S).toInt - 1).toNat) ((a_codes S) ((f_size S).toInt - 1).toNat) ((a_reals S) ((f_size S).toInt - 1).toNat) := i_vals (((f_size S).toInt - 1).toNat) (by omega)
        refine lv_l2i (v := (x3).toInt32) hx hb d_Mo_arrayOperator_90 rfl ?_
        refine lv_topi (fun x4 ex4 => ?_)
        have wx4 := zt_rng x4
        have fx4 : x4.toInt = x3.toInt := by rw [ex4]; exact zt_l2i (show x3.toInt = _ from rfl) (by omega) (by omega)
        refine va_iald hx hb hK hP 5 0 (ma_many _ _ _ _) rfl (zt_in (show x4.toInt = _ from rfl) (by omega) (by omega)) d_Mo_arrayOperator_91 ?_
        refine lv_topi (fun x5 ex5 => ?_)
        have gx5 : x5 = (a_many S) x4.toInt.toNat := ex5.trans (congrArg _ (zt_ix (show x4.toInt = _ from rfl)))
        have fx5 : x5.toInt = ((a_many S) x4.toInt.toNat).toInt := by rw [gx5]
        have kx5 := rm_at i_room (k := x4.toInt.toNat) (by omega)
        refine lv_i2l (v := (x5).toInt64) hx hb d_Mo_arrayOperator_92 rfl ?_
        refine lv_topl (fun x6 ex6 => ?_)
        have fx6 : x6.toInt = x5.toInt := by rw [ex6]; exact zu_i2l (show x5.toInt = _ from rfl)
        exact key1 (x6) _ _ _ ⟨(show -2147483648 ≤ x6.toInt ∧ x6.toInt ≤ 2147483647 by omega), hP, hD, hS, lv_sub hl [0, 1, 2] rfl⟩
      · have fc64_1 : rv3.toInt = 5 := zt_eq (show rv3.toInt = _ from rfl) tI_5 c64_1
        have aa := vk_ar8 kt (by omega)
        refine lv_aload_n hx hb d_Mo_arrayOperator_67 rfl (lv_at hl 1 rfl) ?_
        refine va_get (D := D) (ci := 11) (v := .ref (ar 1)) (C := "PageScribeModel") (T := F_Mo) (N := 45) hx hb hts i_Mo hown hK hP 0 mW_0 cl_11 2 (by decide) (hts _ k_6_162) (fun _ h9 => h9) (mg_codes _ _) d_Mo_arrayOperator_68 ?_
        refine lv_iload_n hx hb d_Mo_arrayOperator_71 rfl (lv_at hl 0 rfl) ?_
        refine va_lald hx hb hK hP 2 1 (ma_codes _ _ _ _) rfl (zt_in fx1 (by omega) (by omega)) d_Mo_arrayOperator_72 ?_
        refine lv_topl (fun x7 ex7 => ?_)
        have gx7 : x7 = (a_codes S) ((f_size S).toInt - 1).toNat := ex7.trans (congrArg _ (zt_ix fx1))
        have fx7 : x7.toInt = ((a_codes S) ((f_size S).toInt - 1).toNat).toInt := by rw [gx7]
        have kx7 : vOk ((a_kinds S) ((f_size S).toInt - 1).toNat) ((a_codes S) ((f_size S).toInt - 1).toNat) ((a_reals S) ((f_size S).toInt - 1).toNat) := i_vals (((f_size S).toInt - 1).toNat) (by omega)
        refine j_ci (wc := []) (wr := (mW T h0 ar S)) hK hP hD hS hA [] isc rfl isc_all isc_nd (fun _ _ => List.not_mem_nil) (va_runS (As := [.long x7]) (rest := [.int 0, .int 1, .ref h0]) F (m_count l D T x7 H.size (show 0 ≤ x7.toInt ∧ x7.toInt < 1048576 by omega)) (j_cS (k := 1) hts k_8_7 k_1_12 k_8_5 k_8_6 (by decide +kernel) ⟨Nat.le_of_ble_eq_true rfl, Nat.le_of_ble_eq_true rfl⟩) (j_preS hK hP hD [] rfl (by decide) (fun _ _ _ _ h => h) (fun _ _ _ => trivial)) rfl rfl hl.1 rfl (lv_room (Nat.le_of_ble_eq_true rfl)) d_Mo_arrayOperator_73 ⟨Nat.le_of_ble_eq_true rfl, Nat.le_of_ble_eq_true rfl⟩) (fun rv4 u2 H locs hw4 hP hD hS => ?_)
        have hP : va_P D classes (mW T h0 ar S) H := hP
        have hD : va_D A (mW T h0 ar S) := hD
        have qhw4 : rv4.toInt = x7.toInt / 1024 := hw4
        refine lv_i2l (v := (rv4).toInt64) hx hb d_Mo_arrayOperator_76 rfl ?_
        refine lv_topl (fun x8 ex8 => ?_)
        have fx8 : x8.toInt = rv4.toInt := by rw [ex8]; exact zu_i2l (show rv4.toInt = _ from rfl)
        refine lv_goto (tgt := 93) hx hb d_Mo_arrayOperator_77 (by decide) ?_
        exact key1 (x8) _ _ _ ⟨(show -2147483648 ≤ x8.toInt ∧ x8.toInt ≤ 2147483647 by omega), hP, hD, hS, lv_sub hl [0, 1, 2] rfl⟩
  by_cases h_39_1 : p0.toInt = 39
  · refine lv_tableIn (off := 89) (tgt := 97) hx hb d_Mo_arrayOperator_8 (by omega) (by omega) (by rw [show p0.toInt = 39 from h_39_1]; decide +kernel) (by decide) ?_
    have hs := h2.2.2.1 h_39_1
    refine lv_aload_n hx hb d_Mo_arrayOperator_97 rfl (lv_at hl 1 rfl) ?_
    refine lv_iload_n hx hb d_Mo_arrayOperator_98 rfl (lv_at hl 0 rfl) ?_
    refine jm_ci (w := (fun u => u)) hK hP hD hS hA (va_runV (As := [.int x1]) (rest := []) F (m_get l D T h0 ar S x1 s.heap.size ⟨i_size, i_taken, i_vals, i_room, i_dicts, i_deep, i_open, i_cells, i_points, i_part, i_length, i_knows, i_page, i_text, i_pats, i_fuel, i_fr, i_ink⟩ (show x1.toInt = (f_size S).toInt - 1 ∧ 2 ≤ (f_size S).toInt by first | omega | (simp only [fx1]; omega)) (show ((a_kinds S) ((f_size S).toInt - 2).toNat).toInt % 8 = 6 ∨ ((a_kinds S) ((f_size S).toInt - 2).toNat).toInt % 8 = 5 by first | omega | (simp only [fx1]; omega))) (j_cV (k := 1) (C := "PageScribeModel") hts k_8_19 k_1_12 k_8_16 k_8_18 k_0_120 (by decide +kernel) ⟨Nat.le_of_ble_eq_true rfl, Nat.le_of_ble_eq_true rfl⟩) (jm_pre hK hP hD) rfl rfl hl.1 rfl (lv_room (Nat.le_of_ble_eq_true rfl)) d_Mo_arrayOperator_99 ⟨Nat.le_of_ble_eq_true rfl, Nat.le_of_ble_eq_true rfl⟩) (fun rv5 S3 H locs hw5 hP hD hS => ?_)
    have hP : va_P D classes (mW T h0 ar S3) H := hP
    have hD : va_D A (mW T h0 ar S3) := hD
    obtain ⟨⟨i_size, i_taken, i_vals, i_room, i_dicts, i_deep, i_open, i_cells, i_points, i_part, i_length, i_knows, i_page, i_text, i_pats, i_fuel, i_fr, i_ink⟩, kpA_S3, kpF_S3, qqhw5⟩ := hw5
    have kSA_S3 : kA S S3 := kA_t (show kA S S from (kA_r S)) kpA_S3
    have kSF_S3 : kF S S3 := kF_t (show kF S S from (kF_r S)) kpF_S3
    have kST_S3 : kT S S3 := kT_t (show kT S S from (kT_r S)) (kT_A kpA_S3)
    have qhw5 : rv5.toInt = 0 ∨ rv5.toInt = 4 ∨ rv5.toInt = 5 := by simpa only [fx1] using qqhw5
    exact j_iret F hr hlocks hK hS S3 ⟨⟨i_size, i_taken, i_vals, i_room, i_dicts, i_deep, i_open, i_cells, i_points, i_part, i_length, i_knows, i_page, i_text, i_pats, i_fuel, i_fr, i_ink⟩, kSA_S3, kSF_S3, (show 0 ≤ rv5.toInt ∧ rv5.toInt ≤ 16 by omega)⟩ hP hD d_Mo_arrayOperator_102
  by_cases h_40_1 : p0.toInt = 40
  · refine lv_tableIn (off := 95) (tgt := 103) hx hb d_Mo_arrayOperator_8 (by omega) (by omega) (by rw [show p0.toInt = 40 from h_40_1]; decide +kernel) (by decide) ?_
    have hs := h2.2.2.2.1 h_40_1
    have kq := i_vals (((f_size S).toInt - 3).toNat) (by omega)
    refine lv_aload_n hx hb d_Mo_arrayOperator_103 rfl (lv_at hl 1 rfl) ?_
    refine lv_iload_n hx hb d_Mo_arrayOperator_104 rfl (lv_at hl 0 rfl) ?_
    refine lv_iconst (v := 2) hx hb d_Mo_arrayOperator_105 (by decide) ?_
    refine lv_isub hx hb d_Mo_arrayOperator_106 ?_
    refine lv_topi (fun x9 ex9 => ?_)
    have fx9 : x9.toInt = ((f_size S).toInt - 3) := by rw [ex9]; exact (zt_sub fx1 tI_2 (by omega) (by omega)).trans (by omega)
    have kv2 : vOk ((a_kinds S) (((f_size S).toInt - 3).toNat)) ((a_codes S) (((f_size S).toInt - 3).toNat)) ((a_reals S) (((f_size S).toInt - 3).toNat)) := i_vals (((f_size S).toInt - 3).toNat) (by omega)
    have rkv2 := vk_rng kv2
    refine jm_ci (w := (fun _ => S)) hK hP hD hS hA (va_runV (As := [.int x9]) (rest := []) F (m_kindOf l D T h0 ar S x9 s.heap.size (show 0 ≤ x9.toInt ∧ x9.toInt < 1300 by first | omega | (simp only [fx9]; omega)) (show 0 ≤ ((a_kinds S) x9.toInt.toNat).toInt by first | omega | (simp only [fx9]; omega))) (j_cV (k := 1) (C := "PageScribeModel") hts k_7_174 k_1_12 k_7_171 k_7_173 k_0_102 (by decide +kernel) ⟨Nat.le_of_ble_eq_true rfl, Nat.le_of_ble_eq_true rfl⟩) (jm_pre hK hP hD) rfl rfl hl.1 rfl (lv_room (Nat.le_of_ble_eq_true rfl)) d_Mo_arrayOperator_107 ⟨Nat.le_of_ble_eq_true rfl, Nat.le_of_ble_eq_true rfl⟩) (fun rv6 u3 H locs hw6 hP hD hS => ?_)
    have hP : va_P D classes (mW T h0 ar S) H := hP
    have hD : va_D A (mW T h0 ar S) := hD
    have qhw6 : rv6.toInt = ((a_kinds S) ((f_size S).toInt - 3).toNat).toInt % 8 := by simpa only [fx9] using hw6
    refine lv_bipush (v := 6) hx hb d_Mo_arrayOperator_110 (by decide) ?_
    refine lv_icmp_ne (tgt := 140) hx hb d_Mo_arrayOperator_112 (by decide) (fun c112_1 => ?_) (fun c112_1 => ?_)
    · have fc112_1 : ¬ rv6.toInt = 6 := zt_ne (show rv6.toInt = _ from rfl) tI_6 c112_1
      refine lv_aload_n hx hb d_Mo_arrayOperator_140 rfl (lv_at hl 1 rfl) ?_
      refine lv_iload_n hx hb d_Mo_arrayOperator_141 rfl (lv_at hl 0 rfl) ?_
      refine jm_ci (w := (fun u => u)) hK hP hD hS hA (va_runV (As := [.int x1]) (rest := []) F (m_putCell l D T h0 ar S x1 H.size ⟨i_size, i_taken, i_vals, i_room, i_dicts, i_deep, i_open, i_cells, i_points, i_part, i_length, i_knows, i_page, i_text, i_pats, i_fuel, i_fr, i_ink⟩ (show x1.toInt = (f_size S).toInt - 1 ∧ 3 ≤ (f_size S).toInt by first | omega | (simp only [fx1]; omega)) (show ((a_kinds S) ((f_size S).toInt - 3).toNat).toInt % 8 = 5 by first | omega | (simp only [fx1]; omega))) (j_cV (k := 1) (C := "PageScribeModel") hts k_8_31 k_1_12 k_8_28 k_8_30 k_0_122 (by decide +kernel) ⟨Nat.le_of_ble_eq_true rfl, Nat.le_of_ble_eq_true rfl⟩) (jm_pre hK hP hD) rfl rfl hl.1 rfl (lv_room (Nat.le_of_ble_eq_true rfl)) d_Mo_arrayOperator_142 ⟨Nat.le_of_ble_eq_true rfl, Nat.le_of_ble_eq_true rfl⟩) (fun rv7 S4 H locs hw7 hP hD hS => ?_)
      have hP : va_P D classes (mW T h0 ar S4) H := hP
      have hD : va_D A (mW T h0 ar S4) := hD
      obtain ⟨⟨i_size, i_taken, i_vals, i_room, i_dicts, i_deep, i_open, i_cells, i_points, i_part, i_length, i_knows, i_page, i_text, i_pats, i_fuel, i_fr, i_ink⟩, kpA_S4, kpF_S4, qqhw7⟩ := hw7
      have kSA_S4 : kA S S4 := kA_t (show kA S S from (kA_r S)) kpA_S4
      have kSF_S4 : kF S S4 := kF_t (show kF S S from (kF_r S)) kpF_S4
      have kST_S4 : kT S S4 := kT_t (show kT S S from (kT_r S)) (kT_A kpA_S4)
      have qhw7 : rv7.toInt = 0 ∨ rv7.toInt = 4 := by simpa only [fx1] using qqhw7
      exact j_iret F hr hlocks hK hS S4 ⟨⟨i_size, i_taken, i_vals, i_room, i_dicts, i_deep, i_open, i_cells, i_points, i_part, i_length, i_knows, i_page, i_text, i_pats, i_fuel, i_fr, i_ink⟩, kSA_S4, kSF_S4, (show 0 ≤ rv7.toInt ∧ rv7.toInt ≤ 16 by omega)⟩ hP hD d_Mo_arrayOperator_145
    · have fc112_1 : rv6.toInt = 6 := zt_eq (show rv6.toInt = _ from rfl) tI_6 c112_1
      have dd := vk_dict kq (by omega)
      refine lv_aload_n hx hb d_Mo_arrayOperator_115 rfl (lv_at hl 1 rfl) ?_
      refine lv_aload_n hx hb d_Mo_arrayOperator_116 rfl (lv_at hl 1 rfl) ?_
      refine va_get (D := D) (ci := 11) (v := .ref (ar 1)) (C := "PageScribeModel") (T := F_Mo) (N := 45) hx hb hts i_Mo hown hK hP 0 mW_0 cl_11 2 (by decide) (hts _ k_6_162) (fun _ h9 => h9) (mg_codes _ _) d_Mo_arrayOperator_117 ?_
      refine lv_iload_n hx hb d_Mo_arrayOperator_120 rfl (lv_at hl 0 rfl) ?_
      refine lv_iconst (v := 2) hx hb d_Mo_arrayOperator_121 (by decide) ?_
      refine lv_isub hx hb d_Mo_arrayOperator_122 ?_
      refine j_eqi (y := x9) ex9.symm ?_
      refine va_lald hx hb hK hP 2 1 (ma_codes _ _ _ _) rfl (zt_in fx9 (by omega) (by omega)) d_Mo_arrayOperator_123 ?_
      refine lv_topl (fun x10 ex10 => ?_)
      have gx10 : x10 = (a_codes S) ((f_size S).toInt - 3).toNat := ex10.trans (congrArg _ (zt_ix fx9))
      have fx10 : x10.toInt = ((a_codes S) ((f_size S).toInt - 3).toNat).toInt := by rw [gx10]
      have kx10 : vOk ((a_kinds S) ((f_size S).toInt - 3).toNat) ((a_codes S) ((f_size S).toInt - 3).toNat) ((a_reals S) ((f_size S).toInt - 3).toNat) := i_vals (((f_size S).toInt - 3).toNat) (by omega)
      refine lv_l2i (v := (x10).toInt32) hx hb d_Mo_arrayOperator_124 rfl ?_
      refine lv_topi (fun x11 ex11 => ?_)
      have wx11 := zt_rng x11
      have fx11 : x11.toInt = x10.toInt := by rw [ex11]; exact zt_l2i (show x10.toInt = _ from rfl) (by omega) (by omega)
      refine lv_aload_n hx hb d_Mo_arrayOperator_125 rfl (lv_at hl 1 rfl) ?_
      refine va_get (D := D) (ci := 11) (v := .ref (ar 1)) (C := "PageScribeModel") (T := F_Mo) (N := 45) hx hb hts i_Mo hown hK hP 0 mW_0 cl_11 2 (by decide) (hts _ k_6_162) (fun _ h9 => h9) (mg_codes _ _) d_Mo_arrayOperator_126 ?_
      refine lv_iload_n hx hb d_Mo_arrayOperator_129 rfl (lv_at hl 0 rfl) ?_
      refine lv_iconst (v := 1) hx hb d_Mo_arrayOperator_130 (by decide) ?_
      refine lv_isub hx hb d_Mo_arrayOperator_131 ?_
      refine lv_topi (fun x12 ex12 => ?_)
      have fx12 : x12.toInt = ((f_size S).toInt - 2) := by rw [ex12]; exact (zt_sub fx1 tI_1 (by omega) (by omega)).trans (by omega)
      refine va_lald hx hb hK hP 2 1 (ma_codes _ _ _ _) rfl (zt_in fx12 (by omega) (by omega)) d_Mo_arrayOperator_132 ?_
      refine lv_topl (fun x13 ex13 => ?_)
      have gx13 : x13 = (a_codes S) ((f_size S).toInt - 2).toNat := ex13.trans (congrArg _ (zt_ix fx12))
      have fx13 : x13.toInt = ((a_codes S) ((f_size S).toInt - 2).toNat).toInt := by rw [gx13]
      have kx13 : vOk ((a_kinds S) ((f_size S).toInt - 2).toNat) ((a_codes S) ((f_size S).toInt - 2).toNat) ((a_reals S) ((f_size S).toInt - 2).toNat) := i_vals (((f_size S).toInt - 2).toNat) (by omega)
      refine lv_iconst (v := 3) hx hb d_Mo_arrayOperator_133 (by decide) ?_
      refine jm_ci (w := (fun u => u)) hK hP hD hS hA (va_runV (As := [.int x11, .long x13, .int 3]) (rest := []) F (m_putEntry l D T h0 ar S x11 x13 (3 : Int32) H.size ⟨i_size, i_taken, i_vals, i_room, i_dicts, i_deep, i_open, i_cells, i_points, i_part, i_length, i_knows, i_page, i_text, i_pats, i_fuel, i_fr, i_ink⟩ (show 0 ≤ x11.toInt ∧ x11.toInt ≤ 6 by have := tI_3; omega) (show 2 ≤ (3 : Int32).toInt ∧ (3 : Int32).toInt ≤ 3 ∧ (3 : Int32).toInt ≤ (f_size S).toInt by have := tI_3; omega)) (j_cV (k := 3) (C := "PageScribeModel") hts k_8_27 k_1_12 k_8_24 k_8_26 k_0_121 (by decide +kernel) ⟨Nat.le_of_ble_eq_true rfl, Nat.le_of_ble_eq_true rfl⟩) (jm_pre hK hP hD) rfl rfl hl.1 rfl (lv_room (Nat.le_of_ble_eq_true rfl)) d_Mo_arrayOperator_134 ⟨Nat.le_of_ble_eq_true rfl, Nat.le_of_ble_eq_true rfl⟩) (fun rv8 S5 H locs hw8 hP hD hS => ?_)
      have hP : va_P D classes (mW T h0 ar S5) H := hP
      have hD : va_D A (mW T h0 ar S5) := hD
      obtain ⟨⟨i_size, i_taken, i_vals, i_room, i_dicts, i_deep, i_open, i_cells, i_points, i_part, i_length, i_knows, i_page, i_text, i_pats, i_fuel, i_fr, i_ink⟩, kpA_S5, kpF_S5, qqhw8⟩ := hw8
      have kSA_S5 : kA S S5 := kA_t (show kA S S from (kA_r S)) kpA_S5
      have kSF_S5 : kF S S5 := kF_t (show kF S S from (kF_r S)) kpF_S5
      have kST_S5 : kT S S5 := kT_t (show kT S S from (kT_r S)) (kT_A kpA_S5)
      have qhw8 : rv8.toInt = 0 ∨ rv8.toInt = 8 := by simpa only [tI_3] using qqhw8
      refine lv_goto (tgt := 145) hx hb d_Mo_arrayOperator_137 (by decide) ?_
      exact j_iret F hr hlocks hK hS S5 ⟨⟨i_size, i_taken, i_vals, i_room, i_dicts, i_deep, i_open, i_cells, i_points, i_part, i_length, i_knows, i_page, i_text, i_pats, i_fuel, i_fr, i_ink⟩, kSA_S5, kSF_S5, (show 0 ≤ rv8.toInt ∧ rv8.toInt ≤ 16 by omega)⟩ hP hD d_Mo_arrayOperator_145
  by_cases h_41_1 : p0.toInt = 41
  · refine lv_tableIn (off := 138) (tgt := 146) hx hb d_Mo_arrayOperator_8 (by omega) (by omega) (by rw [show p0.toInt = 41 from h_41_1]; decide +kernel) (by decide) ?_
    have hs := h2.2.2.2.2.1 h_41_1
    have kq := i_vals (((f_size S).toInt - 3).toNat) (by omega)
    have kp := i_vals (((f_size S).toInt - 2).toNat) (by omega)
    have rq := vk_rng kq
    have aq := vk_ar8 kq hs.2.1
    have ap := vk_in8 kp hs.2.2.1
    have at1 := vk_in8 kt hs.2.2.2
    refine lv_aload_n hx hb d_Mo_arrayOperator_146 rfl (lv_at hl 1 rfl) ?_
    refine lv_aload_n hx hb d_Mo_arrayOperator_147 rfl (lv_at hl 1 rfl) ?_
    refine va_get (D := D) (ci := 11) (v := .ref (ar 1)) (C := "PageScribeModel") (T := F_Mo) (N := 45) hx hb hts i_Mo hown hK hP 0 mW_0 cl_11 2 (by decide) (hts _ k_6_162) (fun _ h9 => h9) (mg_codes _ _) d_Mo_arrayOperator_148 ?_
    refine lv_iload_n hx hb d_Mo_arrayOperator_151 rfl (lv_at hl 0 rfl) ?_
    refine lv_iconst (v := 2) hx hb d_Mo_arrayOperator_152 (by decide) ?_
    refine lv_isub hx hb d_Mo_arrayOperator_153 ?_
    refine lv_topi (fun x14 ex14 => ?_)
    have fx14 : x14.toInt = ((f_size S).toInt - 3) := by rw [ex14]; exact (zt_sub fx1 tI_2 (by omega) (by omega)).trans (by omega)
    refine va_lald hx hb hK hP 2 1 (ma_codes _ _ _ _) rfl (zt_in fx14 (by omega) (by omega)) d_Mo_arrayOperator_154 ?_
    refine lv_topl (fun x15 ex15 => ?_)
    have gx15 : x15 = (a_codes S) ((f_size S).toInt - 3).toNat := ex15.trans (congrArg _ (zt_ix fx14))
    have fx15 : x15.toInt = ((a_codes S) ((f_size S).toInt - 3).toNat).toInt := by rw [gx15]
    have kx15 : vOk ((a_kinds S) ((f_size S).toInt - 3).toNat) ((a_codes S) ((f_size S).toInt - 3).toNat) ((a_reals S) ((f_size S).toInt - 3).toNat) := i_vals (((f_size S).toInt - 3).toNat) (by omega)
    refine lv_aload_n hx hb d_Mo_arrayOperator_155 rfl (lv_at hl 1 rfl) ?_
    refine va_get (D := D) (ci := 11) (v := .ref (ar 1)) (C := "PageScribeModel") (T := F_Mo) (N := 45) hx hb hts i_Mo hown hK hP 0 mW_0 cl_11 2 (by decide) (hts _ k_6_162) (fun _ h9 => h9) (mg_codes _ _) d_Mo_arrayOperator_156 ?_
    refine lv_iload_n hx hb d_Mo_arrayOperator_159 rfl (lv_at hl 0 rfl) ?_
    refine lv_iconst (v := 1) hx hb d_Mo_arrayOperator_160 (by decide) ?_
    refine lv_isub hx hb d_Mo_arrayOperator_161 ?_
    refine lv_topi (fun x16 ex16 => ?_)
    have fx16 : x16.toInt = ((f_size S).toInt - 2) := by rw [ex16]; exact (zt_sub fx1 tI_1 (by omega) (by omega)).trans (by omega)
    refine va_lald hx hb hK hP 2 1 (ma_codes _ _ _ _) rfl (zt_in fx16 (by omega) (by omega)) d_Mo_arrayOperator_162 ?_
    refine lv_topl (fun x17 ex17 => ?_)
    have gx17 : x17 = (a_codes S) ((f_size S).toInt - 2).toNat := ex17.trans (congrArg _ (zt_ix fx16))
    have fx17 : x17.toInt = ((a_codes S) ((f_size S).toInt - 2).toNat).toInt := by rw [gx17]
    have kx17 : vOk ((a_kinds S) ((f_size S).toInt - 2).toNat) ((a_codes S) ((f_size S).toInt - 2).toNat) ((a_reals S) ((f_size S).toInt - 2).toNat) := i_vals (((f_size S).toInt - 2).toNat) (by omega)
    refine lv_aload_n hx hb d_Mo_arrayOperator_163 rfl (lv_at hl 1 rfl) ?_
    refine va_get (D := D) (ci := 11) (v := .ref (ar 1)) (C := "PageScribeModel") (T := F_Mo) (N := 45) hx hb hts i_Mo hown hK hP 0 mW_0 cl_11 2 (by decide) (hts _ k_6_162) (fun _ h9 => h9) (mg_codes _ _) d_Mo_arrayOperator_164 ?_
    refine lv_iload_n hx hb d_Mo_arrayOperator_167 rfl (lv_at hl 0 rfl) ?_
    refine va_lald hx hb hK hP 2 1 (ma_codes _ _ _ _) rfl (zt_in fx1 (by omega) (by omega)) d_Mo_arrayOperator_168 ?_
    refine lv_topl (fun x18 ex18 => ?_)
    have gx18 : x18 = (a_codes S) ((f_size S).toInt - 1).toNat := ex18.trans (congrArg _ (zt_ix fx1))
    have fx18 : x18.toInt = ((a_codes S) ((f_size S).toInt - 1).toNat).toInt := by rw [gx18]
    have kx18 : vOk ((a_kinds S) ((f_size S).toInt - 1).toNat) ((a_codes S) ((f_size S).toInt - 1).toNat) ((a_reals S) ((f_size S).toInt - 1).toNat) := i_vals (((f_size S).toInt - 1).toNat) (by omega)
    refine jm_ci (w := (fun u => u)) hK hP hD hS hA (va_runV (As := [.long x15, .long x17, .long x18]) (rest := []) F (m_part l D T h0 ar S x15 x17 x18 s.heap.size ⟨i_size, i_taken, i_vals, i_room, i_dicts, i_deep, i_open, i_cells, i_points, i_part, i_length, i_knows, i_page, i_text, i_pats, i_fuel, i_fr, i_ink⟩ (show 3 ≤ (f_size S).toInt by omega) (show ((a_kinds S) ((f_size S).toInt - 3).toNat).toInt = 5 ∨ ((a_kinds S) ((f_size S).toInt - 3).toNat).toInt = 13 by omega) (show cOk x15 by omega) (show -2147483648 ≤ x17.toInt ∧ x17.toInt ≤ 2147483647 ∧ -2147483648 ≤ x18.toInt ∧ x18.toInt ≤ 2147483647 by omega)) (j_cV (k := 3) (C := "PageScribeModel") hts k_8_35 k_1_12 k_8_32 k_8_34 k_0_123 (by decide +kernel) ⟨Nat.le_of_ble_eq_true rfl, Nat.le_of_ble_eq_true rfl⟩) (jm_pre hK hP hD) rfl rfl hl.1 rfl (lv_room (Nat.le_of_ble_eq_true rfl)) d_Mo_arrayOperator_169 ⟨Nat.le_of_ble_eq_true rfl, Nat.le_of_ble_eq_true rfl⟩) (fun rv9 S6 H locs hw9 hP hD hS => ?_)
    have hP : va_P D classes (mW T h0 ar S6) H := hP
    have hD : va_D A (mW T h0 ar S6) := hD
    obtain ⟨⟨i_size, i_taken, i_vals, i_room, i_dicts, i_deep, i_open, i_cells, i_points, i_part, i_length, i_knows, i_page, i_text, i_pats, i_fuel, i_fr, i_ink⟩, kpA_S6, kpF_S6, qqhw9⟩ := hw9
    have kSA_S6 : kA S S6 := kA_t (show kA S S from (kA_r S)) kpA_S6
    have kSF_S6 : kF S S6 := kF_t (show kF S S from (kF_r S)) kpF_S6
    have kST_S6 : kT S S6 := kT_t (show kT S S from (kT_r S)) (kT_A kpA_S6)
    have qhw9 : rv9.toInt = 0 ∨ rv9.toInt = 4 := qqhw9
    exact j_iret F hr hlocks hK hS S6 ⟨⟨i_size, i_taken, i_vals, i_room, i_dicts, i_deep, i_open, i_cells, i_points, i_part, i_length, i_knows, i_page, i_text, i_pats, i_fuel, i_fr, i_ink⟩, kSA_S6, kSF_S6, (show 0 ≤ rv9.toInt ∧ rv9.toInt ≤ 16 by omega)⟩ hP hD d_Mo_arrayOperator_172
  refine lv_tableOut (tgt := 173) hx hb d_Mo_arrayOperator_8 (by omega) (by decide) ?_
  have hs := h2.2.2.2.2.2 (by omega)
  have aa := vk_ar8 kt hs
  refine lv_aload_n hx hb d_Mo_arrayOperator_173 rfl (lv_at hl 1 rfl) ?_
  refine lv_aload_n hx hb d_Mo_arrayOperator_174 rfl (lv_at hl 1 rfl) ?_
  refine va_get (D := D) (ci := 11) (v := .ref (ar 1)) (C := "PageScribeModel") (T := F_Mo) (N := 45) hx hb hts i_Mo hown hK hP 0 mW_0 cl_11 2 (by decide) (hts _ k_6_162) (fun _ h9 => h9) (mg_codes _ _) d_Mo_arrayOperator_175 ?_
  refine lv_iload_n hx hb d_Mo_arrayOperator_178 rfl (lv_at hl 0 rfl) ?_
  refine va_lald hx hb hK hP 2 1 (ma_codes _ _ _ _) rfl (zt_in fx1 (by omega) (by omega)) d_Mo_arrayOperator_179 ?_
  refine lv_topl (fun x19 ex19 => ?_)
  have gx19 : x19 = (a_codes S) ((f_size S).toInt - 1).toNat := ex19.trans (congrArg _ (zt_ix fx1))
  have fx19 : x19.toInt = ((a_codes S) ((f_size S).toInt - 1).toNat).toInt := by rw [gx19]
  have kx19 : vOk ((a_kinds S) ((f_size S).toInt - 1).toNat) ((a_codes S) ((f_size S).toInt - 1).toNat) ((a_reals S) ((f_size S).toInt - 1).toNat) := i_vals (((f_size S).toInt - 1).toNat) (by omega)
  refine jm_ci (w := (fun u => u)) hK hP hD hS hA (va_runV (As := [.long x19]) (rest := []) F (m_load l D T h0 ar S x19 s.heap.size ⟨i_size, i_taken, i_vals, i_room, i_dicts, i_deep, i_open, i_cells, i_points, i_part, i_length, i_knows, i_page, i_text, i_pats, i_fuel, i_fr, i_ink⟩ (show 1 ≤ (f_size S).toInt by omega) (show cOk x19 by omega)) (j_cV (k := 1) (C := "PageScribeModel") hts k_8_39 k_1_12 k_8_36 k_8_38 k_0_124 (by decide +kernel) ⟨Nat.le_of_ble_eq_true rfl, Nat.le_of_ble_eq_true rfl⟩) (jm_pre hK hP hD) rfl rfl hl.1 rfl (lv_room (Nat.le_of_ble_eq_true rfl)) d_Mo_arrayOperator_180 ⟨Nat.le_of_ble_eq_true rfl, Nat.le_of_ble_eq_true rfl⟩) (fun rv10 S7 H locs hw10 hP hD hS => ?_)
  have hP : va_P D classes (mW T h0 ar S7) H := hP
  have hD : va_D A (mW T h0 ar S7) := hD
  obtain ⟨⟨i_size, i_taken, i_vals, i_room, i_dicts, i_deep, i_open, i_cells, i_points, i_part, i_length, i_knows, i_page, i_text, i_pats, i_fuel, i_fr, i_ink⟩, kpA_S7, kpF_S7, qqhw10⟩ := hw10
  have kSA_S7 : kA S S7 := kA_t (show kA S S from (kA_r S)) kpA_S7
  have kSF_S7 : kF S S7 := kF_t (show kF S S from (kF_r S)) kpF_S7
  have kST_S7 : kT S S7 := kT_t (show kT S S from (kT_r S)) (kT_A kpA_S7)
  have qhw10 : rv10.toInt = 0 ∨ rv10.toInt = 2 := qqhw10
  exact j_iret F hr hlocks hK hS S7 ⟨⟨i_size, i_taken, i_vals, i_room, i_dicts, i_deep, i_open, i_cells, i_points, i_part, i_length, i_knows, i_page, i_text, i_pats, i_fuel, i_fr, i_ink⟩, kSA_S7, kSF_S7, (show 0 ≤ rv10.toInt ∧ rv10.toInt ≤ 16 by omega)⟩ hP hD d_Mo_arrayOperator_183
