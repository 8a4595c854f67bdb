theorem d_Mo_sum_0 : decode prog_15_method_47_code 0 = .ok (.aload_n 0, 1) := by decide +kernel
theorem d_Mo_sum_1 : decode prog_15_method_47_code 1 = .ok (.getfield 247, 3) := by decide +kernel
theorem d_Mo_sum_4 : decode prog_15_method_47_code 4 = .ok (.iconst 1, 1) := by decide +kernel
theorem d_Mo_sum_5 : decode prog_15_method_47_code 5 = .ok (.isub, 1) := by decide +kernel
theorem d_Mo_sum_6 : decode prog_15_method_47_code 6 = .ok (.istore_n 2, 1) := by decide +kernel
theorem d_Mo_sum_7 : decode prog_15_method_47_code 7 = .ok (.aload_n 0, 1) := by decide +kernel
theorem d_Mo_sum_8 : decode prog_15_method_47_code 8 = .ok (.getfield 13, 3) := by decide +kernel
theorem d_Mo_sum_11 : decode prog_15_method_47_code 11 = .ok (.iload_n 2, 1) := by decide +kernel
theorem d_Mo_sum_12 : decode prog_15_method_47_code 12 = .ok (.iconst 1, 1) := by decide +kernel
theorem d_Mo_sum_13 : decode prog_15_method_47_code 13 = .ok (.isub, 1) := by decide +kernel
theorem d_Mo_sum_14 : decode prog_15_method_47_code 14 = .ok (.laload, 1) := by decide +kernel
theorem d_Mo_sum_15 : decode prog_15_method_47_code 15 = .ok (.lstore_n 3, 1) := by decide +kernel
theorem d_Mo_sum_16 : decode prog_15_method_47_code 16 = .ok (.aload_n 0, 1) := by decide +kernel
theorem d_Mo_sum_17 : decode prog_15_method_47_code 17 = .ok (.getfield 13, 3) := by decide +kernel
theorem d_Mo_sum_20 : decode prog_15_method_47_code 20 = .ok (.iload_n 2, 1) := by decide +kernel
theorem d_Mo_sum_21 : decode prog_15_method_47_code 21 = .ok (.laload, 1) := by decide +kernel
theorem d_Mo_sum_22 : decode prog_15_method_47_code 22 = .ok (.lstore 5, 2) := by decide +kernel
theorem d_Mo_sum_24 : decode prog_15_method_47_code 24 = .ok (.aload_n 0, 1) := by decide +kernel
theorem d_Mo_sum_25 : decode prog_15_method_47_code 25 = .ok (.iload_n 2, 1) := by decide +kernel
theorem d_Mo_sum_26 : decode prog_15_method_47_code 26 = .ok (.iconst 1, 1) := by decide +kernel
theorem d_Mo_sum_27 : decode prog_15_method_47_code 27 = .ok (.isub, 1) := by decide +kernel
theorem d_Mo_sum_28 : decode prog_15_method_47_code 28 = .ok (.invokevirtual 473, 3) := by decide +kernel
theorem d_Mo_sum_31 : decode prog_15_method_47_code 31 = .ok (.dstore 7, 2) := by decide +kernel
theorem d_Mo_sum_33 : decode prog_15_method_47_code 33 = .ok (.aload_n 0, 1) := by decide +kernel
theorem d_Mo_sum_34 : decode prog_15_method_47_code 34 = .ok (.iload_n 2, 1) := by decide +kernel
theorem d_Mo_sum_35 : decode prog_15_method_47_code 35 = .ok (.invokevirtual 473, 3) := by decide +kernel
theorem d_Mo_sum_38 : decode prog_15_method_47_code 38 = .ok (.dstore 9, 2) := by decide +kernel
theorem d_Mo_sum_40 : decode prog_15_method_47_code 40 = .ok (.iload_n 1, 1) := by decide +kernel
theorem d_Mo_sum_41 : decode prog_15_method_47_code 41 = .ok (.bipush 12, 2) := by decide +kernel
theorem d_Mo_sum_43 : decode prog_15_method_47_code 43 = .ok (.if_icmp .le 29, 3) := by decide +kernel
theorem tI_12 : (12 : Int32).toInt = 12 := by decide +kernel
theorem d_Mo_sum_72 : decode prog_15_method_47_code 72 = .ok (.iload_n 1, 1) := by decide +kernel
theorem d_Mo_sum_73 : decode prog_15_method_47_code 73 = .ok (.bipush 13, 2) := by decide +kernel
theorem d_Mo_sum_75 : decode prog_15_method_47_code 75 = .ok (.if_icmp .ne 14, 3) := by decide +kernel
theorem d_Mo_sum_89 : decode prog_15_method_47_code 89 = .ok (.iload_n 1, 1) := by decide +kernel
theorem d_Mo_sum_90 : decode prog_15_method_47_code 90 = .ok (.bipush 14, 2) := by decide +kernel
theorem d_Mo_sum_92 : decode prog_15_method_47_code 92 = .ok (.if_icmp .ne 13, 3) := by decide +kernel
theorem tI_14 : (14 : Int32).toInt = 14 := by decide +kernel
theorem d_Mo_sum_105 : decode prog_15_method_47_code 105 = .ok (.iload_n 1, 1) := by decide +kernel
theorem d_Mo_sum_106 : decode prog_15_method_47_code 106 = .ok (.bipush 15, 2) := by decide +kernel
theorem d_Mo_sum_108 : decode prog_15_method_47_code 108 = .ok (.if_icmp .ne 13, 3) := by decide +kernel
theorem tI_15 : (15 : Int32).toInt = 15 := by decide +kernel
theorem d_Mo_sum_121 : decode prog_15_method_47_code 121 = .ok (.aload_n 0, 1) := by decide +kernel
theorem d_Mo_sum_122 : decode prog_15_method_47_code 122 = .ok (.getfield 7, 3) := by decide +kernel
theorem d_Mo_sum_125 : decode prog_15_method_47_code 125 = .ok (.iload_n 2, 1) := by decide +kernel
theorem d_Mo_sum_126 : decode prog_15_method_47_code 126 = .ok (.iaload, 1) := by decide +kernel
theorem d_Mo_sum_127 : decode prog_15_method_47_code 127 = .ok (.ifCond .ne 50, 3) := by decide +kernel
theorem d_Mo_sum_177 : decode prog_15_method_47_code 177 = .ok (.aload_n 0, 1) := by decide +kernel
theorem d_Mo_sum_178 : decode prog_15_method_47_code 178 = .ok (.iconst 2, 1) := by decide +kernel
theorem d_Mo_sum_179 : decode prog_15_method_47_code 179 = .ok (.iload_n 1, 1) := by decide +kernel
theorem d_Mo_sum_180 : decode prog_15_method_47_code 180 = .ok (.bipush 10, 2) := by decide +kernel
theorem d_Mo_sum_182 : decode prog_15_method_47_code 182 = .ok (.if_icmp .ne 11, 3) := by decide +kernel
theorem d_Mo_sum_193 : decode prog_15_method_47_code 193 = .ok (.iload_n 1, 1) := by decide +kernel
theorem d_Mo_sum_194 : decode prog_15_method_47_code 194 = .ok (.bipush 11, 2) := by decide +kernel
theorem d_Mo_sum_196 : decode prog_15_method_47_code 196 = .ok (.if_icmp .ne 11, 3) := by decide +kernel
theorem tI_11 : (11 : Int32).toInt = 11 := by decide +kernel
theorem d_Mo_sum_207 : decode prog_15_method_47_code 207 = .ok (.dload 7, 2) := by decide +kernel
theorem d_Mo_sum_209 : decode prog_15_method_47_code 209 = .ok (.dload 9, 2) := by decide +kernel
theorem d_Mo_sum_211 : decode prog_15_method_47_code 211 = .ok (.dmul, 1) := by decide +kernel
theorem d_Mo_sum_212 : decode prog_15_method_47_code 212 = .ok (.invokevirtual 266, 3) := by decide +kernel
theorem d_Mo_sum_215 : decode prog_15_method_47_code 215 = .ok (.ireturn, 1) := by decide +kernel
theorem d_Mo_sum_199 : decode prog_15_method_47_code 199 = .ok (.dload 7, 2) := by decide +kernel
theorem d_Mo_sum_201 : decode prog_15_method_47_code 201 = .ok (.dload 9, 2) := by decide +kernel
theorem d_Mo_sum_203 : decode prog_15_method_47_code 203 = .ok (.dsub, 1) := by decide +kernel
theorem d_Mo_sum_204 : decode prog_15_method_47_code 204 = .ok (.goto 8, 3) := by decide +kernel
theorem d_Mo_sum_185 : decode prog_15_method_47_code 185 = .ok (.dload 7, 2) := by decide +kernel
theorem d_Mo_sum_187 : decode prog_15_method_47_code 187 = .ok (.dload 9, 2) := by decide +kernel
theorem d_Mo_sum_189 : decode prog_15_method_47_code 189 = .ok (.dadd, 1) := by decide +kernel
theorem d_Mo_sum_190 : decode prog_15_method_47_code 190 = .ok (.goto 22, 3) := by decide +kernel
theorem d_Mo_sum_130 : decode prog_15_method_47_code 130 = .ok (.aload_n 0, 1) := by decide +kernel
theorem d_Mo_sum_131 : decode prog_15_method_47_code 131 = .ok (.getfield 7, 3) := by decide +kernel
theorem d_Mo_sum_134 : decode prog_15_method_47_code 134 = .ok (.iload_n 2, 1) := by decide +kernel
theorem d_Mo_sum_135 : decode prog_15_method_47_code 135 = .ok (.iconst 1, 1) := by decide +kernel
theorem d_Mo_sum_136 : decode prog_15_method_47_code 136 = .ok (.isub, 1) := by decide +kernel
theorem d_Mo_sum_137 : decode prog_15_method_47_code 137 = .ok (.iaload, 1) := by decide +kernel
theorem d_Mo_sum_138 : decode prog_15_method_47_code 138 = .ok (.ifCond .ne 39, 3) := by decide +kernel
theorem d_Mo_sum_141 : decode prog_15_method_47_code 141 = .ok (.aload_n 0, 1) := by decide +kernel
theorem d_Mo_sum_142 : decode prog_15_method_47_code 142 = .ok (.iconst 2, 1) := by decide +kernel
theorem d_Mo_sum_143 : decode prog_15_method_47_code 143 = .ok (.iload_n 1, 1) := by decide +kernel
theorem d_Mo_sum_144 : decode prog_15_method_47_code 144 = .ok (.bipush 10, 2) := by decide +kernel
theorem d_Mo_sum_146 : decode prog_15_method_47_code 146 = .ok (.if_icmp .ne 10, 3) := by decide +kernel
theorem d_Mo_sum_156 : decode prog_15_method_47_code 156 = .ok (.iload_n 1, 1) := by decide +kernel
theorem d_Mo_sum_157 : decode prog_15_method_47_code 157 = .ok (.bipush 11, 2) := by decide +kernel
theorem d_Mo_sum_159 : decode prog_15_method_47_code 159 = .ok (.if_icmp .ne 10, 3) := by decide +kernel
theorem d_Mo_sum_169 : decode prog_15_method_47_code 169 = .ok (.lload_n 3, 1) := by decide +kernel
theorem d_Mo_sum_170 : decode prog_15_method_47_code 170 = .ok (.lload 5, 2) := by decide +kernel
theorem d_Mo_sum_172 : decode prog_15_method_47_code 172 = .ok (.lmul, 1) := by decide +kernel
theorem d_Mo_sum_173 : decode prog_15_method_47_code 173 = .ok (.invokevirtual 477, 3) := by decide +kernel
theorem k_7_217 : Cond.code ⟨"PageScribeModel", "giveExact", "(IJ)I"⟩ prog_15_method_15_code 4 (some .int) ∈ gw := gw_of (tb_7 (List.mem_of_getElem? (i := 217) (by decide +kernel))) (by decide +kernel)
theorem k_7_214 : Cond.methodLink "PageScribeModel" 477 ⟨"PageScribeModel", "giveExact", "(IJ)I"⟩ ∈ gw := gw_of (tb_7 (List.mem_of_getElem? (i := 214) (by decide +kernel))) (by decide +kernel)
theorem k_7_216 : Cond.instanceMethod ⟨"PageScribeModel", "giveExact", "(IJ)I"⟩ ∈ gw := gw_of (tb_7 (List.mem_of_getElem? (i := 216) (by decide +kernel))) (by decide +kernel)
theorem k_0_112 : Cond.selects "PageScribeModel" ⟨"PageScribeModel", "giveExact", "(IJ)I"⟩ ⟨"PageScribeModel", "giveExact", "(IJ)I"⟩ ∈ gw := gw_of (tb_0 (List.mem_of_getElem? (i := 112) (by decide +kernel))) (by decide +kernel)
theorem d_Mo_sum_176 : decode prog_15_method_47_code 176 = .ok (.ireturn, 1) := by decide +kernel
theorem d_Mo_sum_162 : decode prog_15_method_47_code 162 = .ok (.lload_n 3, 1) := by decide +kernel
theorem d_Mo_sum_163 : decode prog_15_method_47_code 163 = .ok (.lload 5, 2) := by decide +kernel
theorem d_Mo_sum_165 : decode prog_15_method_47_code 165 = .ok (.lsub, 1) := by decide +kernel
theorem d_Mo_sum_166 : decode prog_15_method_47_code 166 = .ok (.goto 7, 3) := by decide +kernel
theorem d_Mo_sum_149 : decode prog_15_method_47_code 149 = .ok (.lload_n 3, 1) := by decide +kernel
theorem d_Mo_sum_150 : decode prog_15_method_47_code 150 = .ok (.lload 5, 2) := by decide +kernel
theorem d_Mo_sum_152 : decode prog_15_method_47_code 152 = .ok (.ladd, 1) := by decide +kernel
theorem d_Mo_sum_153 : decode prog_15_method_47_code 153 = .ok (.goto 20, 3) := by decide +kernel
theorem d_Mo_sum_111 : decode prog_15_method_47_code 111 = .ok (.aload_n 0, 1) := by decide +kernel
theorem d_Mo_sum_112 : decode prog_15_method_47_code 112 = .ok (.iconst 2, 1) := by decide +kernel
theorem d_Mo_sum_113 : decode prog_15_method_47_code 113 = .ok (.lload_n 3, 1) := by decide +kernel
theorem d_Mo_sum_114 : decode prog_15_method_47_code 114 = .ok (.lload 5, 2) := by decide +kernel
theorem d_Mo_sum_116 : decode prog_15_method_47_code 116 = .ok (.lrem, 1) := by decide +kernel
theorem d_Mo_sum_117 : decode prog_15_method_47_code 117 = .ok (.invokevirtual 477, 3) := by decide +kernel
theorem d_Mo_sum_120 : decode prog_15_method_47_code 120 = .ok (.ireturn, 1) := by decide +kernel
theorem d_Mo_sum_95 : decode prog_15_method_47_code 95 = .ok (.aload_n 0, 1) := by decide +kernel
theorem d_Mo_sum_96 : decode prog_15_method_47_code 96 = .ok (.iconst 2, 1) := by decide +kernel
theorem d_Mo_sum_97 : decode prog_15_method_47_code 97 = .ok (.lload_n 3, 1) := by decide +kernel
theorem d_Mo_sum_98 : decode prog_15_method_47_code 98 = .ok (.lload 5, 2) := by decide +kernel
theorem d_Mo_sum_100 : decode prog_15_method_47_code 100 = .ok (.ldiv, 1) := by decide +kernel
theorem d_Mo_sum_101 : decode prog_15_method_47_code 101 = .ok (.invokevirtual 477, 3) := by decide +kernel
theorem d_Mo_sum_104 : decode prog_15_method_47_code 104 = .ok (.ireturn, 1) := by decide +kernel
theorem d_Mo_sum_78 : decode prog_15_method_47_code 78 = .ok (.aload_n 0, 1) := by decide +kernel
theorem d_Mo_sum_79 : decode prog_15_method_47_code 79 = .ok (.iconst 2, 1) := by decide +kernel
theorem d_Mo_sum_80 : decode prog_15_method_47_code 80 = .ok (.dload 7, 2) := by decide +kernel
theorem d_Mo_sum_82 : decode prog_15_method_47_code 82 = .ok (.dload 9, 2) := by decide +kernel
theorem d_Mo_sum_84 : decode prog_15_method_47_code 84 = .ok (.ddiv, 1) := by decide +kernel
theorem d_Mo_sum_85 : decode prog_15_method_47_code 85 = .ok (.invokevirtual 266, 3) := by decide +kernel
theorem d_Mo_sum_88 : decode prog_15_method_47_code 88 = .ok (.ireturn, 1) := by decide +kernel
theorem d_Mo_sum_46 : decode prog_15_method_47_code 46 = .ok (.iload_n 1, 1) := by decide +kernel
theorem d_Mo_sum_47 : decode prog_15_method_47_code 47 = .ok (.bipush 13, 2) := by decide +kernel
theorem d_Mo_sum_49 : decode prog_15_method_47_code 49 = .ok (.if_icmp .ne 13, 3) := by decide +kernel
theorem d_Mo_sum_62 : decode prog_15_method_47_code 62 = .ok (.lload 5, 2) := by decide +kernel
theorem d_Mo_sum_64 : decode prog_15_method_47_code 64 = .ok (.lconst 0, 1) := by decide +kernel
theorem d_Mo_sum_65 : decode prog_15_method_47_code 65 = .ok (.lcmp, 1) := by decide +kernel
theorem d_Mo_sum_66 : decode prog_15_method_47_code 66 = .ok (.ifCond .ne 6, 3) := by decide +kernel
theorem d_Mo_sum_69 : decode prog_15_method_47_code 69 = .ok (.bipush 6, 2) := by decide +kernel
theorem d_Mo_sum_71 : decode prog_15_method_47_code 71 = .ok (.ireturn, 1) := by decide +kernel
theorem tI_6 : (6 : Int32).toInt = 6 := by decide +kernel
theorem d_Mo_sum_52 : decode prog_15_method_47_code 52 = .ok (.dload 9, 2) := by decide +kernel
theorem d_Mo_sum_54 : decode prog_15_method_47_code 54 = .ok (.dconst 0, 1) := by decide +kernel
theorem d_Mo_sum_55 : decode prog_15_method_47_code 55 = .ok (.dcmp .l, 1) := by decide +kernel
theorem d_Mo_sum_56 : decode prog_15_method_47_code 56 = .ok (.ifCond .ne 16, 3) := by decide +kernel
theorem d_Mo_sum_59 : decode prog_15_method_47_code 59 = .ok (.goto 10, 3) := by decide +kernel
set_option maxHeartbeats 4000000 in
set_option maxRecDepth 100000 in
theorem m_sum (l : Launch) (D : va_G) (T : Nat → ClassId) (h0 : Nat) (ar : Nat → Nat) (S : MS) (p0 : Int32) (sz : Nat) (hI : MI S) (h1 : 10 ≤ p0.toInt ∧ p0.toInt ≤ 15) (h3 : 2 ≤ (f_size S).toInt) : Met l ⟨"PageScribeModel", "sum", "(I)I"⟩ (wy ⟨"PageScribeModel", "sum", "(I)I"⟩ prog_15_method_47_code 11 (some .int)) ({ frames := 3, cells := 0, slots := 0, locals := 210 }) (va_Pc [.ref h0, .int p0] (Pw D T (mW T h0 ar S) sz E0)) (va_Qi (fun (r : Int32) (u : MS) => MI u ∧ kA S u ∧ kF S u ∧ (r.toInt = 0 ∨ r.toInt = 4 ∨ r.toInt = 6)) (fun u t => Bw D T (va_A (mW T h0 ar S) sz) (mW T h0 ar u) t) (va_A (mW T h0 ar S) sz)) 0 0 (va_A (mW T h0 ar S) sz) := by
  refine j_met (y := ⟨"PageScribeModel", "sum", "(I)I"⟩) (b := prog_15_method_47_code) (n := 11) (ret := (some .int)) (av := [.ref h0, .int p0]) (Qc := fun A => va_Qi (fun (r : Int32) (u : MS) => MI u ∧ kA S u ∧ kF S u ∧ (r.toInt = 0 ∨ r.toInt = 4 ∨ r.toInt = 6)) (fun u t => Bw D T A (mW T h0 ar u) t) A) (by decide +kernel) (Nat.le_of_ble_eq_true rfl) (fun p e s m args below meth c A ls F hr hlocks hnm hK hP hD hS hA hN hE hl => ?_)
  obtain ⟨hx, hb, hml, hown, hts⟩ := id F
  have hl : lv_has ls 11 [(0, .ref h0), (1, .int p0)] := hl
  obtain ⟨i_size, i_taken, i_vals, i_room, i_dicts, i_deep, i_open, i_cells, i_points, i_part, i_length, i_knows, i_page, i_text, i_pats, i_fuel, i_fr, i_ink⟩ := id hI
  refine lv_aload_n hx hb d_Mo_sum_0 rfl (lv_at hl 0 rfl) ?_
  refine va_get (D := D) (ci := 11) (v := .int (f_size S)) (C := "PageScribeModel") (T := F_Mo) (N := 45) hx hb hts i_Mo hown hK hP 0 mW_0 cl_11 4 (by decide) (hts _ k_6_164) (fun _ h9 => h9) (mg_size _ _) d_Mo_sum_1 ?_
  refine lv_iconst (v := 1) hx hb d_Mo_sum_4 (by decide) ?_
  refine lv_isub hx hb d_Mo_sum_5 ?_
  refine lv_topi (fun x1 ex1 => ?_)
  have fx1 : x1.toInt = ((f_size S).toInt - 1) := by rw [ex1]; exact (zt_sub (show (f_size S).toInt = _ from rfl) tI_1 (by omega) (by omega)).trans (by omega)
  refine lv_istore_n (lv' := [(2, .int x1), (0, .ref h0), (1, .int p0)]) hx hb d_Mo_sum_6 rfl hl (by decide) rfl (fun ls hl => ?_)
  refine lv_aload_n hx hb d_Mo_sum_7 rfl (lv_at hl 1 rfl) ?_
  refine va_get (D := D) (ci := 11) (v := .ref (ar 1)) (C := "PageScribeModel") (T := F_Mo) (N := 45) hx hb hts i_Mo hown hK hP 0 mW_0 cl_11 2 (by decide) (hts _ k_6_162) (fun _ h9 => h9) (mg_codes _ _) d_Mo_sum_8 ?_
  refine lv_iload_n hx hb d_Mo_sum_11 rfl (lv_at hl 0 rfl) ?_
  refine lv_iconst (v := 1) hx hb d_Mo_sum_12 (by decide) ?_
  refine lv_isub hx hb d_Mo_sum_13 ?_
  refine lv_topi (fun x2 ex2 => ?_)
  have fx2 : x2.toInt = ((f_size S).toInt - 2) := by rw [ex2]; exact (zt_sub fx1 tI_1 (by omega) (by omega)).trans (by omega)
  refine va_lald hx hb hK hP 2 1 (ma_codes _ _ _ _) rfl (zt_in fx2 (by omega) (by omega)) d_Mo_sum_14 ?_
  refine lv_topl (fun x3 ex3 => ?_)
  have gx3 : x3 = (a_codes S) ((f_size S).toInt - 2).toNat := ex3.trans (congrArg _ (zt_ix fx2))
  have fx3 : x3.toInt = ((a_codes S) ((f_size S).toInt - 2).toNat).toInt := by rw [gx3]
  have kx3 : vOk ((a_kinds S) ((f_size S).toInt - 2).toNat) ((a_codes S) ((f_size S).toInt - 2).toNat) ((a_reals S) ((f_size S).toInt - 2).toNat) := i_vals (((f_size S).toInt - 2).toNat) (by omega)
  refine lv_lstore_n (lv' := [(3, .long x3), (2, .int x1), (0, .ref h0), (1, .int p0)]) hx hb d_Mo_sum_15 rfl hl (by decide) rfl (fun ls hl => ?_)
  refine lv_aload_n hx hb d_Mo_sum_16 rfl (lv_at hl 2 rfl) ?_
  refine va_get (D := D) (ci := 11) (v := .ref (ar 1)) (C := "PageScribeModel") (T := F_Mo) (N := 45) hx hb hts i_Mo hown hK hP 0 mW_0 cl_11 2 (by decide) (hts _ k_6_162) (fun _ h9 => h9) (mg_codes _ _) d_Mo_sum_17 ?_
  refine lv_iload_n hx hb d_Mo_sum_20 rfl (lv_at hl 1 rfl) ?_
  refine va_lald hx hb hK hP 2 1 (ma_codes _ _ _ _) rfl (zt_in fx1 (by omega) (by omega)) d_Mo_sum_21 ?_
  refine lv_topl (fun x4 ex4 => ?_)
  have gx4 : x4 = (a_codes S) ((f_size S).toInt - 1).toNat := ex4.trans (congrArg _ (zt_ix fx1))
  have fx4 : x4.toInt = ((a_codes S) ((f_size S).toInt - 1).toNat).toInt := by rw [gx4]
  have kx4 : vOk ((a_kinds S) ((f_size S).toInt - 1).toNat) ((a_codes S) ((f_size S).toInt - 1).toNat) ((a_reals S) ((f_size S).toInt - 1).toNat) := i_vals (((f_size S).toInt - 1).toNat) (by omega)
  refine lv_lstore (lv' := [(5, .long x4), (3, .long x3), (2, .int x1), (0, .ref h0), (1, .int p0)]) hx hb d_Mo_sum_22 hl (by decide) rfl (fun ls hl => ?_)
  refine lv_aload_n hx hb d_Mo_sum_24 rfl (lv_at hl 3 rfl) ?_
  refine lv_iload_n hx hb d_Mo_sum_25 rfl (lv_at hl 2 rfl) ?_
  refine lv_iconst (v := 1) hx hb d_Mo_sum_26 (by decide) ?_
  refine lv_isub hx hb d_Mo_sum_27 ?_
  refine j_eqi (y := x2) ex2.symm ?_
  have kv1 : vOk ((a_kinds S) (((f_size S).toInt - 2).toNat)) ((a_codes S) (((f_size S).toInt - 2).toNat)) ((a_reals S) (((f_size S).toInt - 2).toNat)) := i_vals (((f_size S).toInt - 2).toNat) (by omega)
  have rkv1 := vk_rng kv1
  refine jm_cd (w := (fun _ => S)) hK hP hD hS hA (va_runV (As := [.int x2]) (rest := []) F (m_numberAt l D T h0 ar S x2 s.heap.size ⟨i_size, i_taken, i_vals, i_room, i_dicts, i_deep, i_open, i_cells, i_points, i_part, i_length, i_knows, i_page, i_text, i_pats, i_fuel, i_fr, i_ink⟩ (show 0 ≤ x2.toInt ∧ x2.toInt < 1300 by first | omega | (simp only [fx2]; omega))) (j_cV (k := 1) (C := "PageScribeModel") hts k_7_207 k_1_12 k_7_204 k_7_206 k_0_110 (by decide +kernel) ⟨Nat.le_of_ble_eq_true rfl, Nat.le_of_ble_eq_true rfl⟩) (jm_pre hK hP hD) rfl rfl hl.1 rfl (lv_room (Nat.le_of_ble_eq_true rfl)) d_Mo_sum_28 ⟨Nat.le_of_ble_eq_true rfl, Nat.le_of_ble_eq_true rfl⟩) (fun rv1 u1 H locs hw1 hP hD hS => ?_)
  have hP : va_P D classes (mW T h0 ar S) H := hP
  have hD : va_D A (mW T h0 ar S) := hD
  have qhw1 : dB rv1 := by simpa only [fx2] using hw1
  refine lv_dstore (lv' := [(7, .double rv1), (5, .long x4), (3, .long x3), (2, .int x1), (0, .ref h0), (1, .int p0)]) hx hb d_Mo_sum_31 hl (by decide) rfl (fun ls hl => ?_)
  refine lv_aload_n hx hb d_Mo_sum_33 rfl (lv_at hl 4 rfl) ?_
  refine lv_iload_n hx hb d_Mo_sum_34 rfl (lv_at hl 3 rfl) ?_
  have kv2 : vOk ((a_kinds S) (((f_size S).toInt - 1).toNat)) ((a_codes S) (((f_size S).toInt - 1).toNat)) ((a_reals S) (((f_size S).toInt - 1).toNat)) := i_vals (((f_size S).toInt - 1).toNat) (by omega)
  have rkv2 := vk_rng kv2
  refine jm_cd (w := (fun _ => S)) hK hP hD hS hA (va_runV (As := [.int x1]) (rest := []) F (m_numberAt l D T h0 ar S x1 H.size ⟨i_size, i_taken, i_vals, i_room, i_dicts, i_deep, i_open, i_cells, i_points, i_part, i_length, i_knows, i_page, i_text, i_pats, i_fuel, i_fr, i_ink⟩ (show 0 ≤ x1.toInt ∧ x1.toInt < 1300 by first | omega | (simp only [fx1]; omega))) (j_cV (k := 1) (C := "PageScribeModel") hts k_7_207 k_1_12 k_7_204 k_7_206 k_0_110 (by decide +kernel) ⟨Nat.le_of_ble_eq_true rfl, Nat.le_of_ble_eq_true rfl⟩) (jm_pre hK hP hD) rfl rfl hl.1 rfl (lv_room (Nat.le_of_ble_eq_true rfl)) d_Mo_sum_35 ⟨Nat.le_of_ble_eq_true rfl, Nat.le_of_ble_eq_true rfl⟩) (fun rv2 u2 H locs hw2 hP hD hS => ?_)
  have hP : va_P D classes (mW T h0 ar S) H := hP
  have hD : va_D A (mW T h0 ar S) := hD
  have qhw2 : dB rv2 := by simpa only [fx1] using hw2
  refine lv_dstore (lv' := [(9, .double rv2), (7, .double rv1), (5, .long x4), (3, .long x3), (2, .int x1), (0, .ref h0), (1, .int p0)]) hx hb d_Mo_sum_38 hl (by decide) rfl (fun ls hl => ?_)
  refine lv_iload_n hx hb d_Mo_sum_40 rfl (lv_at hl 6 rfl) ?_
  refine lv_bipush (v := 12) hx hb d_Mo_sum_41 (by decide) ?_
  refine lv_icmp_le (tgt := 72) hx hb d_Mo_sum_43 (by decide) (fun c43_1 => ?_) (fun c43_1 => ?_)
  · have fc43_1 : p0.toInt ≤ 12 := zt_le (show p0.toInt = _ from rfl) tI_12 c43_1
    refine lv_iload_n hx hb d_Mo_sum_72 rfl (lv_at hl 6 rfl) ?_
    refine lv_bipush (v := 13) hx hb d_Mo_sum_73 (by decide) ?_
    refine lv_icmp_ne (tgt := 89) hx hb d_Mo_sum_75 (by decide) (fun c75_1 => ?_) (fun c75_1 => ?_)
    · first | have fc75_1 : p0.toInt < 13 := (by have := zt_ne (show p0.toInt = _ from rfl) tI_13 c75_1; omega) | have fc75_1 : 13 < p0.toInt := (by have := zt_ne (show p0.toInt = _ from rfl) tI_13 c75_1; omega) | skip
      refine lv_iload_n hx hb d_Mo_sum_89 rfl (lv_at hl 6 rfl) ?_
      refine lv_bipush (v := 14) hx hb d_Mo_sum_90 (by decide) ?_
      refine lv_icmp_ne (tgt := 105) hx hb d_Mo_sum_92 (by decide) (fun c92_1 => ?_) (fun c92_1 => ?_)
      · first | have fc92_1 : p0.toInt < 14 := (by have := zt_ne (show p0.toInt = _ from rfl) tI_14 c92_1; omega) | have fc92_1 : 14 < p0.toInt := (by have := zt_ne (show p0.toInt = _ from rfl) tI_14 c92_1; omega) | skip
        refine lv_iload_n hx hb d_Mo_sum_105 rfl (lv_at hl 6 rfl) ?_
        refine lv_bipush (v := 15) hx hb d_Mo_sum_106 (by decide) ?_
        refine lv_icmp_ne (tgt := 121) hx hb d_Mo_sum_108 (by decide) (fun c108_1 => ?_) (fun c108_1 => ?_)
        · first | have fc108_1 : p0.toInt < 15 := (by have := zt_ne (show p0.toInt = _ from rfl) tI_15 c108_1; omega) | have fc108_1 : 15 < p0.toInt := (by have := zt_ne (show p0.toInt = _ from rfl) tI_15 c108_1; omega) | skip
          refine lv_aload_n hx hb d_Mo_sum_121 rfl (lv_at hl 5 rfl) ?_
          refine va_get (D := D) (ci := 11) (v := .ref (ar 0)) (C := "PageScribeModel") (T := F_Mo) (N := 45) hx hb hts i_Mo hown hK hP 0 mW_0 cl_11 1 (by decide) (hts _ k_6_161) (fun _ h9 => h9) (mg_kinds _ _) d_Mo_sum_122 ?_
          refine lv_iload_n hx hb d_Mo_sum_125 rfl (lv_at hl 4 rfl) ?_
          refine va_iald hx hb hK hP 1 0 (ma_kinds _ _ _ _) rfl (zt_in fx1 (by omega) (by omega)) d_Mo_sum_126 ?_
          refine lv_topi (fun x5 ex5 => ?_)
          have gx5 : x5 = (a_kinds S) ((f_size S).toInt - 1).toNat := ex5.trans (congrArg _ (zt_ix fx1))
          have fx5 : x5.toInt = ((a_kinds S) ((f_size S).toInt - 1).toNat).toInt := by rw [gx5]
          have kx5 : vOk ((a_kinds S) ((f_size S).toInt - 1).toNat) ((a_codes S) ((f_size S).toInt - 1).toNat) ((a_reals S) ((f_size S).toInt - 1).toNat) := i_vals (((f_size S).toInt - 1).toNat) (by omega)
          have rx5 := vk_rng kx5
          refine lv_if_ne (tgt := 177) hx hb d_Mo_sum_127 (by decide) (fun c127_1 => ?_) (fun c127_1 => ?_)
          · first | have fc127_1 : x5.toInt < 0 := (by have := zt_ne (show x5.toInt = _ from rfl) tI_0 c127_1; omega) | have fc127_1 : 0 < x5.toInt := (by have := zt_ne (show x5.toInt = _ from rfl) tI_0 c127_1; omega) | skip
            refine lv_aload_n hx hb d_Mo_sum_177 rfl (lv_at hl 5 rfl) ?_
            refine lv_iconst (v := 2) hx hb d_Mo_sum_178 (by decide) ?_
            refine lv_iload_n hx hb d_Mo_sum_179 rfl (lv_at hl 6 rfl) ?_
            refine lv_bipush (v := 10) hx hb d_Mo_sum_180 (by decide) ?_
            refine lv_icmp_ne (tgt := 193) hx hb d_Mo_sum_182 (by decide) (fun c182_1 => ?_) (fun c182_1 => ?_)
            · first | have fc182_1 : p0.toInt < 10 := (by have := zt_ne (show p0.toInt = _ from rfl) tI_10 c182_1; omega) | have fc182_1 : 10 < p0.toInt := (by have := zt_ne (show p0.toInt = _ from rfl) tI_10 c182_1; omega) | skip
              refine lv_iload_n hx hb d_Mo_sum_193 rfl (lv_at hl 6 rfl) ?_
              refine lv_bipush (v := 11) hx hb d_Mo_sum_194 (by decide) ?_
              refine lv_icmp_ne (tgt := 207) hx hb d_Mo_sum_196 (by decide) (fun c196_1 => ?_) (fun c196_1 => ?_)
              · first | have fc196_1 : p0.toInt < 11 := (by have := zt_ne (show p0.toInt = _ from rfl) tI_11 c196_1; omega) | have fc196_1 : 11 < p0.toInt := (by have := zt_ne (show p0.toInt = _ from rfl) tI_11 c196_1; omega) | skip
                refine lv_dload hx hb d_Mo_sum_207 (lv_at hl 1 rfl) ?_
                refine lv_dload hx hb d_Mo_sum_209 (lv_at hl 0 rfl) ?_
                have n211 := (zd_mul (show dF rv1 by omega) (show dF rv2 by omega))
                refine lv_dmul hx hb d_Mo_sum_211 (vf_N n211) ?_
                refine lv_topd (fun x6 ex6 => ?_)
                rw [show FP.dmul rv1 rv2 = x6 from ex6.symm] at n211
                refine jm_ci (w := (fun u => u)) hK hP hD hS hA (va_runV (As := [.int 2, .double x6]) (rest := []) F (m_giveReal l D T h0 ar S (2 : Int32) x6 H.size ⟨i_size, i_taken, i_vals, i_room, i_dicts, i_deep, i_open, i_cells, i_points, i_part, i_length, i_knows, i_page, i_text, i_pats, i_fuel, i_fr, i_ink⟩ (show 0 ≤ (2 : Int32).toInt ∧ (2 : Int32).toInt ≤ (f_size S).toInt ∧ (f_size S).toInt - (2 : Int32).toInt ≤ 39 by have := tI_2; omega) (show dN x6 by have := tI_2; omega)) (j_cV (k := 2) (C := "PageScribeModel") hts k_7_211 k_1_12 k_7_208 k_7_210 k_0_111 (by decide +kernel) ⟨Nat.le_of_ble_eq_true rfl, Nat.le_of_ble_eq_true rfl⟩) (jm_pre hK hP hD) rfl rfl hl.1 rfl (lv_room (Nat.le_of_ble_eq_true rfl)) d_Mo_sum_212 ⟨Nat.le_of_ble_eq_true rfl, Nat.le_of_ble_eq_true rfl⟩) (fun rv3 S1 H locs hw3 hP hD hS => ?_)
                have hP : va_P D classes (mW T h0 ar S1) H := hP
                have hD : va_D A (mW T h0 ar S1) := hD
                obtain ⟨⟨i_size, i_taken, i_vals, i_room, i_dicts, i_deep, i_open, i_cells, i_points, i_part, i_length, i_knows, i_page, i_text, i_pats, i_fuel, i_fr, i_ink⟩, kpA_S1, kpF_S1, qqhw3⟩ := hw3
                have kSA_S1 : kA S S1 := kA_t (show kA S S from (kA_r S)) kpA_S1
                have kSF_S1 : kF S S1 := kF_t (show kF S S from (kF_r S)) kpF_S1
                have kST_S1 : kT S S1 := kT_t (show kT S S from (kT_r S)) (kT_A kpA_S1)
                have qhw3 : rv3.toInt = 0 ∨ rv3.toInt = 4 := by simpa only [tI_2] using qqhw3
                exact j_iret F hr hlocks hK hS S1 ⟨⟨i_size, i_taken, i_vals, i_room, i_dicts, i_deep, i_open, i_cells, i_points, i_part, i_length, i_knows, i_page, i_text, i_pats, i_fuel, i_fr, i_ink⟩, kSA_S1, kSF_S1, (show rv3.toInt = 0 ∨ rv3.toInt = 4 ∨ rv3.toInt = 6 by omega)⟩ hP hD d_Mo_sum_215
              · have fc196_1 : p0.toInt = 11 := zt_eq (show p0.toInt = _ from rfl) tI_11 c196_1
                refine lv_dload hx hb d_Mo_sum_199 (lv_at hl 1 rfl) ?_
                refine lv_dload hx hb d_Mo_sum_201 (lv_at hl 0 rfl) ?_
                have n203 := (zd_sub (show dF rv1 by omega) (show dF rv2 by omega))
                try have o203 := zd_subB (show dB rv1 by omega) (show dB rv2 by omega)
                refine lv_dsub hx hb d_Mo_sum_203 (vf_N n203) ?_
                refine lv_topd (fun x7 ex7 => ?_)
                rw [show FP.dsub rv1 rv2 = x7 from ex7.symm] at n203
                try rw [show FP.dsub rv1 rv2 = x7 from ex7.symm] at o203
                refine lv_goto (tgt := 212) hx hb d_Mo_sum_204 (by decide) ?_
                refine jm_ci (w := (fun u => u)) hK hP hD hS hA (va_runV (As := [.int 2, .double x7]) (rest := []) F (m_giveReal l D T h0 ar S (2 : Int32) x7 H.size ⟨i_size, i_taken, i_vals, i_room, i_dicts, i_deep, i_open, i_cells, i_points, i_part, i_length, i_knows, i_page, i_text, i_pats, i_fuel, i_fr, i_ink⟩ (show 0 ≤ (2 : Int32).toInt ∧ (2 : Int32).toInt ≤ (f_size S).toInt ∧ (f_size S).toInt - (2 : Int32).toInt ≤ 39 by have := tI_2; omega) (show dN x7 by have := tI_2; omega)) (j_cV (k := 2) (C := "PageScribeModel") hts k_7_211 k_1_12 k_7_208 k_7_210 k_0_111 (by decide +kernel) ⟨Nat.le_of_ble_eq_true rfl, Nat.le_of_ble_eq_true rfl⟩) (jm_pre hK hP hD) rfl rfl hl.1 rfl (lv_room (Nat.le_of_ble_eq_true rfl)) d_Mo_sum_212 ⟨Nat.le_of_ble_eq_true rfl, Nat.le_of_ble_eq_true rfl⟩) (fun rv4 S2 H locs hw4 hP hD hS => ?_)
                have hP : va_P D classes (mW T h0 ar S2) H := hP
                have hD : va_D A (mW T h0 ar S2) := hD
                obtain ⟨⟨i_size, i_taken, i_vals, i_room, i_dicts, i_deep, i_open, i_cells, i_points, i_part, i_length, i_knows, i_page, i_text, i_pats, i_fuel, i_fr, i_ink⟩, kpA_S2, kpF_S2, qqhw4⟩ := hw4
                have kSA_S2 : kA S S2 := kA_t (show kA S S from (kA_r S)) kpA_S2
                have kSF_S2 : kF S S2 := kF_t (show kF S S from (kF_r S)) kpF_S2
                have kST_S2 : kT S S2 := kT_t (show kT S S from (kT_r S)) (kT_A kpA_S2)
                have qhw4 : rv4.toInt = 0 ∨ rv4.toInt = 4 := by simpa only [tI_2] using qqhw4
                exact j_iret F hr hlocks hK hS S2 ⟨⟨i_size, i_taken, i_vals, i_room, i_dicts, i_deep, i_open, i_cells, i_points, i_part, i_length, i_knows, i_page, i_text, i_pats, i_fuel, i_fr, i_ink⟩, kSA_S2, kSF_S2, (show rv4.toInt = 0 ∨ rv4.toInt = 4 ∨ rv4.toInt = 6 by omega)⟩ hP hD d_Mo_sum_215
            · have fc182_1 : p0.toInt = 10 := zt_eq (show p0.toInt = _ from rfl) tI_10 c182_1
              refine lv_dload hx hb d_Mo_sum_185 (lv_at hl 1 rfl) ?_
              refine lv_dload hx hb d_Mo_sum_187 (lv_at hl 0 rfl) ?_
              have n189 := (zd_add (show dF rv1 by omega) (show dF rv2 by omega))
              try have o189 := zd_addB (show dB rv1 by omega) (show dB rv2 by omega)
              refine lv_dadd hx hb d_Mo_sum_189 (vf_N n189) ?_
              refine lv_topd (fun x8 ex8 => ?_)
              rw [show FP.dadd rv1 rv2 = x8 from ex8.symm] at n189
              try rw [show FP.dadd rv1 rv2 = x8 from ex8.symm] at o189
              refine lv_goto (tgt := 212) hx hb d_Mo_sum_190 (by decide) ?_
              refine jm_ci (w := (fun u => u)) hK hP hD hS hA (va_runV (As := [.int 2, .double x8]) (rest := []) F (m_giveReal l D T h0 ar S (2 : Int32) x8 H.size ⟨i_size, i_taken, i_vals, i_room, i_dicts, i_deep, i_open, i_cells, i_points, i_part, i_length, i_knows, i_page, i_text, i_pats, i_fuel, i_fr, i_ink⟩ (show 0 ≤ (2 : Int32).toInt ∧ (2 : Int32).toInt ≤ (f_size S).toInt ∧ (f_size S).toInt - (2 : Int32).toInt ≤ 39 by have := tI_2; omega) (show dN x8 by have := tI_2; omega)) (j_cV (k := 2) (C := "PageScribeModel") hts k_7_211 k_1_12 k_7_208 k_7_210 k_0_111 (by decide +kernel) ⟨Nat.le_of_ble_eq_true rfl, Nat.le_of_ble_eq_true rfl⟩) (jm_pre hK hP hD) rfl rfl hl.1 rfl (lv_room (Nat.le_of_ble_eq_true rfl)) d_Mo_sum_212 ⟨Nat.le_of_ble_eq_true rfl, Nat.le_of_ble_eq_true rfl⟩) (fun rv5 S3 H locs hw5 hP hD hS => ?_)
              have hP : va_P D classes (mW T h0 ar S3) H := hP
              have hD : va_D A (mW T h0 ar S3) := hD
              obtain ⟨⟨i_size, i_taken, i_vals, i_room, i_dicts, i_deep, i_open, i_cells, i_points, i_part, i_length, i_knows, i_page, i_text, i_pats, i_fuel, i_fr, i_ink⟩, kpA_S3, kpF_S3, qqhw5⟩ := hw5
              have kSA_S3 : kA S S3 := kA_t (show kA S S from (kA_r S)) kpA_S3
              have kSF_S3 : kF S S3 := kF_t (show kF S S from (kF_r S)) kpF_S3
              have kST_S3 : kT S S3 := kT_t (show kT S S from (kT_r S)) (kT_A kpA_S3)
              have qhw5 : rv5.toInt = 0 ∨ rv5.toInt = 4 := by simpa only [tI_2] using qqhw5
              exact j_iret F hr hlocks hK hS S3 ⟨⟨i_size, i_taken, i_vals, i_room, i_dicts, i_deep, i_open, i_cells, i_points, i_part, i_length, i_knows, i_page, i_text, i_pats, i_fuel, i_fr, i_ink⟩, kSA_S3, kSF_S3, (show rv5.toInt = 0 ∨ rv5.toInt = 4 ∨ rv5.toInt = 6 by omega)⟩ hP hD d_Mo_sum_215
          · have fc127_1 : x5.toInt = 0 := zt_eq (show x5.toInt = _ from rfl) tI_0 c127_1
            refine lv_aload_n hx hb d_Mo_sum_130 rfl (lv_at hl 5 rfl) ?_
            refine va_get (D := D) (ci := 11) (v := .ref (ar 0)) (C := "PageScribeModel") (T := F_Mo) (N := 45) hx hb hts i_Mo hown hK hP 0 mW_0 cl_11 1 (by decide) (hts _ k_6_161) (fun _ h9 => h9) (mg_kinds _ _) d_Mo_sum_131 ?_
            refine lv_iload_n hx hb d_Mo_sum_134 rfl (lv_at hl 4 rfl) ?_
            refine lv_iconst (v := 1) hx hb d_Mo_sum_135 (by decide) ?_
            refine lv_isub hx hb d_Mo_sum_136 ?_
            refine j_eqi (y := x2) ex2.symm ?_
            refine va_iald hx hb hK hP 1 0 (ma_kinds _ _ _ _) rfl (zt_in fx2 (by omega) (by omega)) d_Mo_sum_137 ?_
            refine lv_topi (fun x9 ex9 => ?_)
            have gx9 : x9 = (a_kinds S) ((f_size S).toInt - 2).toNat := ex9.trans (congrArg _ (zt_ix fx2))
            have fx9 : x9.toInt = ((a_kinds S) ((f_size S).toInt - 2).toNat).toInt := by rw [gx9]
            have kx9 : vOk ((a_kinds S) ((f_size S).toInt - 2).toNat) ((a_codes S) ((f_size S).toInt - 2).toNat) ((a_reals S) ((f_size S).toInt - 2).toNat) := i_vals (((f_size S).toInt - 2).toNat) (by omega)
            have rx9 := vk_rng kx9
            refine lv_if_ne (tgt := 177) hx hb d_Mo_sum_138 (by decide) (fun c138_1 => ?_) (fun c138_1 => ?_)
            · first | have fc138_1 : x9.toInt < 0 := (by have := zt_ne (show x9.toInt = _ from rfl) tI_0 c138_1; omega) | have fc138_1 : 0 < x9.toInt := (by have := zt_ne (show x9.toInt = _ from rfl) tI_0 c138_1; omega) | skip
              refine lv_aload_n hx hb d_Mo_sum_177 rfl (lv_at hl 5 rfl) ?_
              refine lv_iconst (v := 2) hx hb d_Mo_sum_178 (by decide) ?_
              refine lv_iload_n hx hb d_Mo_sum_179 rfl (lv_at hl 6 rfl) ?_
              refine lv_bipush (v := 10) hx hb d_Mo_sum_180 (by decide) ?_
              refine lv_icmp_ne (tgt := 193) hx hb d_Mo_sum_182 (by decide) (fun c182_2 => ?_) (fun c182_2 => ?_)
              · first | have fc182_2 : p0.toInt < 10 := (by have := zt_ne (show p0.toInt = _ from rfl) tI_10 c182_2; omega) | have fc182_2 : 10 < p0.toInt := (by have := zt_ne (show p0.toInt = _ from rfl) tI_10 c182_2; omega) | skip
                refine lv_iload_n hx hb d_Mo_sum_193 rfl (lv_at hl 6 rfl) ?_
                refine lv_bipush (v := 11) hx hb d_Mo_sum_194 (by decide) ?_
                refine lv_icmp_ne (tgt := 207) hx hb d_Mo_sum_196 (by decide) (fun c196_2 => ?_) (fun c196_2 => ?_)
                · first | have fc196_2 : p0.toInt < 11 := (by have := zt_ne (show p0.toInt = _ from rfl) tI_11 c196_2; omega) | have fc196_2 : 11 < p0.toInt := (by have := zt_ne (show p0.toInt = _ from rfl) tI_11 c196_2; omega) | skip
                  refine lv_dload hx hb d_Mo_sum_207 (lv_at hl 1 rfl) ?_
                  refine lv_dload hx hb d_Mo_sum_209 (lv_at hl 0 rfl) ?_
                  have n211 := (zd_mul (show dF rv1 by omega) (show dF rv2 by omega))
                  refine lv_dmul hx hb d_Mo_sum_211 (vf_N n211) ?_
                  refine lv_topd (fun x10 ex10 => ?_)
                  rw [show FP.dmul rv1 rv2 = x10 from ex10.symm] at n211
                  refine jm_ci (w := (fun u => u)) hK hP hD hS hA (va_runV (As := [.int 2, .double x10]) (rest := []) F (m_giveReal l D T h0 ar S (2 : Int32) x10 H.size ⟨i_size, i_taken, i_vals, i_room, i_dicts, i_deep, i_open, i_cells, i_points, i_part, i_length, i_knows, i_page, i_text, i_pats, i_fuel, i_fr, i_ink⟩ (show 0 ≤ (2 : Int32).toInt ∧ (2 : Int32).toInt ≤ (f_size S).toInt ∧ (f_size S).toInt - (2 : Int32).toInt ≤ 39 by have := tI_2; omega) (show dN x10 by have := tI_2; omega)) (j_cV (k := 2) (C := "PageScribeModel") hts k_7_211 k_1_12 k_7_208 k_7_210 k_0_111 (by decide +kernel) ⟨Nat.le_of_ble_eq_true rfl, Nat.le_of_ble_eq_true rfl⟩) (jm_pre hK hP hD) rfl rfl hl.1 rfl (lv_room (Nat.le_of_ble_eq_true rfl)) d_Mo_sum_212 ⟨Nat.le_of_ble_eq_true rfl, Nat.le_of_ble_eq_true rfl⟩) (fun rv6 S4 H locs hw6 hP hD hS => ?_)
                  have hP : va_P D classes (mW T h0 ar S4) H := hP
                  have hD : va_D A (mW T h0 ar S4) := hD
                  obtain ⟨⟨i_size, i_taken, i_vals, i_room, i_dicts, i_deep, i_open, i_cells, i_points, i_part, i_length, i_knows, i_page, i_text, i_pats, i_fuel, i_fr, i_ink⟩, kpA_S4, kpF_S4, qqhw6⟩ := hw6
                  have kSA_S4 : kA S S4 := kA_t (show kA S S from (kA_r S)) kpA_S4
                  have kSF_S4 : kF S S4 := kF_t (show kF S S from (kF_r S)) kpF_S4
                  have kST_S4 : kT S S4 := kT_t (show kT S S from (kT_r S)) (kT_A kpA_S4)
                  have qhw6 : rv6.toInt = 0 ∨ rv6.toInt = 4 := by simpa only [tI_2] using qqhw6
                  exact j_iret F hr hlocks hK hS S4 ⟨⟨i_size, i_taken, i_vals, i_room, i_dicts, i_deep, i_open, i_cells, i_points, i_part, i_length, i_knows, i_page, i_text, i_pats, i_fuel, i_fr, i_ink⟩, kSA_S4, kSF_S4, (show rv6.toInt = 0 ∨ rv6.toInt = 4 ∨ rv6.toInt = 6 by omega)⟩ hP hD d_Mo_sum_215
                · have fc196_2 : p0.toInt = 11 := zt_eq (show p0.toInt = _ from rfl) tI_11 c196_2
                  refine lv_dload hx hb d_Mo_sum_199 (lv_at hl 1 rfl) ?_
                  refine lv_dload hx hb d_Mo_sum_201 (lv_at hl 0 rfl) ?_
                  have n203 := (zd_sub (show dF rv1 by omega) (show dF rv2 by omega))
                  try have o203 := zd_subB (show dB rv1 by omega) (show dB rv2 by omega)
                  refine lv_dsub hx hb d_Mo_sum_203 (vf_N n203) ?_
                  refine lv_topd (fun x11 ex11 => ?_)
                  rw [show FP.dsub rv1 rv2 = x11 from ex11.symm] at n203
                  try rw [show FP.dsub rv1 rv2 = x11 from ex11.symm] at o203
                  refine lv_goto (tgt := 212) hx hb d_Mo_sum_204 (by decide) ?_
                  refine jm_ci (w := (fun u => u)) hK hP hD hS hA (va_runV (As := [.int 2, .double x11]) (rest := []) F (m_giveReal l D T h0 ar S (2 : Int32) x11 H.size ⟨i_size, i_taken, i_vals, i_room, i_dicts, i_deep, i_open, i_cells, i_points, i_part, i_length, i_knows, i_page, i_text, i_pats, i_fuel, i_fr, i_ink⟩ (show 0 ≤ (2 : Int32).toInt ∧ (2 : Int32).toInt ≤ (f_size S).toInt ∧ (f_size S).toInt - (2 : Int32).toInt ≤ 39 by have := tI_2; omega) (show dN x11 by have := tI_2; omega)) (j_cV (k := 2) (C := "PageScribeModel") hts k_7_211 k_1_12 k_7_208 k_7_210 k_0_111 (by decide +kernel) ⟨Nat.le_of_ble_eq_true rfl, Nat.le_of_ble_eq_true rfl⟩) (jm_pre hK hP hD) rfl rfl hl.1 rfl (lv_room (Nat.le_of_ble_eq_true rfl)) d_Mo_sum_212 ⟨Nat.le_of_ble_eq_true rfl, Nat.le_of_ble_eq_true rfl⟩) (fun rv7 S5 H locs hw7 hP hD hS => ?_)
                  have hP : va_P D classes (mW T h0 ar S5) H := hP
                  have hD : va_D A (mW T h0 ar S5) := hD
                  obtain ⟨⟨i_size, i_taken, i_vals, i_room, i_dicts, i_deep, i_open, i_cells, i_points, i_part, i_length, i_knows, i_page, i_text, i_pats, i_fuel, i_fr, i_ink⟩, kpA_S5, kpF_S5, qqhw7⟩ := hw7
                  have kSA_S5 : kA S S5 := kA_t (show kA S S from (kA_r S)) kpA_S5
                  have kSF_S5 : kF S S5 := kF_t (show kF S S from (kF_r S)) kpF_S5
                  have kST_S5 : kT S S5 := kT_t (show kT S S from (kT_r S)) (kT_A kpA_S5)
                  have qhw7 : rv7.toInt = 0 ∨ rv7.toInt = 4 := by simpa only [tI_2] using qqhw7
                  exact j_iret F hr hlocks hK hS S5 ⟨⟨i_size, i_taken, i_vals, i_room, i_dicts, i_deep, i_open, i_cells, i_points, i_part, i_length, i_knows, i_page, i_text, i_pats, i_fuel, i_fr, i_ink⟩, kSA_S5, kSF_S5, (show rv7.toInt = 0 ∨ rv7.toInt = 4 ∨ rv7.toInt = 6 by omega)⟩ hP hD d_Mo_sum_215
              · have fc182_2 : p0.toInt = 10 := zt_eq (show p0.toInt = _ from rfl) tI_10 c182_2
                refine lv_dload hx hb d_Mo_sum_185 (lv_at hl 1 rfl) ?_
                refine lv_dload hx hb d_Mo_sum_187 (lv_at hl 0 rfl) ?_
                have n189 := (zd_add (show dF rv1 by omega) (show dF rv2 by omega))
                try have o189 := zd_addB (show dB rv1 by omega) (show dB rv2 by omega)
                refine lv_dadd hx hb d_Mo_sum_189 (vf_N n189) ?_
                refine lv_topd (fun x12 ex12 => ?_)
                rw [show FP.dadd rv1 rv2 = x12 from ex12.symm] at n189
                try rw [show FP.dadd rv1 rv2 = x12 from ex12.symm] at o189
                refine lv_goto (tgt := 212) hx hb d_Mo_sum_190 (by decide) ?_
                refine jm_ci (w := (fun u => u)) hK hP hD hS hA (va_runV (As := [.int 2, .double x12]) (rest := []) F (m_giveReal l D T h0 ar S (2 : Int32) x12 H.size ⟨i_size, i_taken, i_vals, i_room, i_dicts, i_deep, i_open, i_cells, i_points, i_part, i_length, i_knows, i_page, i_text, i_pats, i_fuel, i_fr, i_ink⟩ (show 0 ≤ (2 : Int32).toInt ∧ (2 : Int32).toInt ≤ (f_size S).toInt ∧ (f_size S).toInt - (2 : Int32).toInt ≤ 39 by have := tI_2; omega) (show dN x12 by have := tI_2; omega)) (j_cV (k := 2) (C := "PageScribeModel") hts k_7_211 k_1_12 k_7_208 k_7_210 k_0_111 (by decide +kernel) ⟨Nat.le_of_ble_eq_true rfl, Nat.le_of_ble_eq_true rfl⟩) (jm_pre hK hP hD) rfl rfl hl.1 rfl (lv_room (Nat.le_of_ble_eq_true rfl)) d_Mo_sum_212 ⟨Nat.le_of_ble_eq_true rfl, Nat.le_of_ble_eq_true rfl⟩) (fun rv8 S6 H locs hw8 hP hD hS => ?_)
                have hP : va_P D classes (mW T h0 ar S6) H := hP
                have hD : va_D A (mW T h0 ar S6) := hD
                obtain ⟨⟨i_size, i_taken, i_vals, i_room, i_dicts, i_deep, i_open, i_cells, i_points, i_part, i_length, i_knows, i_page, i_text, i_pats, i_fuel, i_fr, i_ink⟩, kpA_S6, kpF_S6, qqhw8⟩ := hw8
                have kSA_S6 : kA S S6 := kA_t (show kA S S from (kA_r S)) kpA_S6
                have kSF_S6 : kF S S6 := kF_t (show kF S S from (kF_r S)) kpF_S6
                have kST_S6 : kT S S6 := kT_t (show kT S S from (kT_r S)) (kT_A kpA_S6)
                have qhw8 : rv8.toInt = 0 ∨ rv8.toInt = 4 := by simpa only [tI_2] using qqhw8
                exact j_iret F hr hlocks hK hS S6 ⟨⟨i_size, i_taken, i_vals, i_room, i_dicts, i_deep, i_open, i_cells, i_points, i_part, i_length, i_knows, i_page, i_text, i_pats, i_fuel, i_fr, i_ink⟩, kSA_S6, kSF_S6, (show rv8.toInt = 0 ∨ rv8.toInt = 4 ∨ rv8.toInt = 6 by omega)⟩ hP hD d_Mo_sum_215
            · have fc138_1 : x9.toInt = 0 := zt_eq (show x9.toInt = _ from rfl) tI_0 c138_1
              refine lv_aload_n hx hb d_Mo_sum_141 rfl (lv_at hl 5 rfl) ?_
              refine lv_iconst (v := 2) hx hb d_Mo_sum_142 (by decide) ?_
              refine lv_iload_n hx hb d_Mo_sum_143 rfl (lv_at hl 6 rfl) ?_
              refine lv_bipush (v := 10) hx hb d_Mo_sum_144 (by decide) ?_
              refine lv_icmp_ne (tgt := 156) hx hb d_Mo_sum_146 (by decide) (fun c146_1 => ?_) (fun c146_1 => ?_)
              · first | have fc146_1 : p0.toInt < 10 := (by have := zt_ne (show p0.toInt = _ from rfl) tI_10 c146_1; omega) | have fc146_1 : 10 < p0.toInt := (by have := zt_ne (show p0.toInt = _ from rfl) tI_10 c146_1; omega) | skip
                refine lv_iload_n hx hb d_Mo_sum_156 rfl (lv_at hl 6 rfl) ?_
                refine lv_bipush (v := 11) hx hb d_Mo_sum_157 (by decide) ?_
                refine lv_icmp_ne (tgt := 169) hx hb d_Mo_sum_159 (by decide) (fun c159_1 => ?_) (fun c159_1 => ?_)
                · first | have fc159_1 : p0.toInt < 11 := (by have := zt_ne (show p0.toInt = _ from rfl) tI_11 c159_1; omega) | have fc159_1 : 11 < p0.toInt := (by have := zt_ne (show p0.toInt = _ from rfl) tI_11 c159_1; omega) | skip
                  refine lv_lload_n hx hb d_Mo_sum_169 rfl (lv_at hl 3 rfl) ?_
                  refine lv_lload hx hb d_Mo_sum_170 (lv_at hl 2 rfl) ?_
                  refine lv_lmul hx hb d_Mo_sum_172 ?_
                  refine lv_topl (fun x13 ex13 => ?_)
                  refine jm_ci (w := (fun u => u)) hK hP hD hS hA (va_runV (As := [.int 2, .long x13]) (rest := []) F (m_giveExact l D T h0 ar S (2 : Int32) x13 H.size ⟨i_size, i_taken, i_vals, i_room, i_dicts, i_deep, i_open, i_cells, i_points, i_part, i_length, i_knows, i_page, i_text, i_pats, i_fuel, i_fr, i_ink⟩ (show 0 ≤ (2 : Int32).toInt ∧ (2 : Int32).toInt ≤ (f_size S).toInt ∧ (f_size S).toInt - (2 : Int32).toInt ≤ 39 by have := tI_2; omega)) (j_cV (k := 2) (C := "PageScribeModel") hts k_7_217 k_1_12 k_7_214 k_7_216 k_0_112 (by decide +kernel) ⟨Nat.le_of_ble_eq_true rfl, Nat.le_of_ble_eq_true rfl⟩) (jm_pre hK hP hD) rfl rfl hl.1 rfl (lv_room (Nat.le_of_ble_eq_true rfl)) d_Mo_sum_173 ⟨Nat.le_of_ble_eq_true rfl, Nat.le_of_ble_eq_true rfl⟩) (fun rv9 S7 H locs hw9 hP hD hS => ?_)
                  have hP : va_P D classes (mW T h0 ar S7) H := hP
                  have hD : va_D A (mW T h0 ar S7) := hD
                  obtain ⟨⟨i_size, i_taken, i_vals, i_room, i_dicts, i_deep, i_open, i_cells, i_points, i_part, i_length, i_knows, i_page, i_text, i_pats, i_fuel, i_fr, i_ink⟩, kpA_S7, kpF_S7, qqhw9⟩ := hw9
                  have kSA_S7 : kA S S7 := kA_t (show kA S S from (kA_r S)) kpA_S7
                  have kSF_S7 : kF S S7 := kF_t (show kF S S from (kF_r S)) kpF_S7
                  have kST_S7 : kT S S7 := kT_t (show kT S S from (kT_r S)) (kT_A kpA_S7)
                  have qhw9 : rv9.toInt = 0 ∨ rv9.toInt = 4 := by simpa only [tI_2] using qqhw9
                  exact j_iret F hr hlocks hK hS S7 ⟨⟨i_size, i_taken, i_vals, i_room, i_dicts, i_deep, i_open, i_cells, i_points, i_part, i_length, i_knows, i_page, i_text, i_pats, i_fuel, i_fr, i_ink⟩, kSA_S7, kSF_S7, (show rv9.toInt = 0 ∨ rv9.toInt = 4 ∨ rv9.toInt = 6 by omega)⟩ hP hD d_Mo_sum_176
                · have fc159_1 : p0.toInt = 11 := zt_eq (show p0.toInt = _ from rfl) tI_11 c159_1
                  refine lv_lload_n hx hb d_Mo_sum_162 rfl (lv_at hl 3 rfl) ?_
                  refine lv_lload hx hb d_Mo_sum_163 (lv_at hl 2 rfl) ?_
                  refine lv_lsub hx hb d_Mo_sum_165 ?_
                  refine lv_topl (fun x14 ex14 => ?_)
                  refine lv_goto (tgt := 173) hx hb d_Mo_sum_166 (by decide) ?_
                  refine jm_ci (w := (fun u => u)) hK hP hD hS hA (va_runV (As := [.int 2, .long x14]) (rest := []) F (m_giveExact l D T h0 ar S (2 : Int32) x14 H.size ⟨i_size, i_taken, i_vals, i_room, i_dicts, i_deep, i_open, i_cells, i_points, i_part, i_length, i_knows, i_page, i_text, i_pats, i_fuel, i_fr, i_ink⟩ (show 0 ≤ (2 : Int32).toInt ∧ (2 : Int32).toInt ≤ (f_size S).toInt ∧ (f_size S).toInt - (2 : Int32).toInt ≤ 39 by have := tI_2; omega)) (j_cV (k := 2) (C := "PageScribeModel") hts k_7_217 k_1_12 k_7_214 k_7_216 k_0_112 (by decide +kernel) ⟨Nat.le_of_ble_eq_true rfl, Nat.le_of_ble_eq_true rfl⟩) (jm_pre hK hP hD) rfl rfl hl.1 rfl (lv_room (Nat.le_of_ble_eq_true rfl)) d_Mo_sum_173 ⟨Nat.le_of_ble_eq_true rfl, Nat.le_of_ble_eq_true rfl⟩) (fun rv10 S8 H locs hw10 hP hD hS => ?_)
                  have hP : va_P D classes (mW T h0 ar S8) H := hP
                  have hD : va_D A (mW T h0 ar S8) := hD
                  obtain ⟨⟨i_size, i_taken, i_vals, i_room, i_dicts, i_deep, i_open, i_cells, i_points, i_part, i_length, i_knows, i_page, i_text, i_pats, i_fuel, i_fr, i_ink⟩, kpA_S8, kpF_S8, qqhw10⟩ := hw10
                  have kSA_S8 : kA S S8 := kA_t (show kA S S from (kA_r S)) kpA_S8
                  have kSF_S8 : kF S S8 := kF_t (show kF S S from (kF_r S)) kpF_S8
                  have kST_S8 : kT S S8 := kT_t (show kT S S from (kT_r S)) (kT_A kpA_S8)
                  have qhw10 : rv10.toInt = 0 ∨ rv10.toInt = 4 := by simpa only [tI_2] using qqhw10
                  exact j_iret F hr hlocks hK hS S8 ⟨⟨i_size, i_taken, i_vals, i_room, i_dicts, i_deep, i_open, i_cells, i_points, i_part, i_length, i_knows, i_page, i_text, i_pats, i_fuel, i_fr, i_ink⟩, kSA_S8, kSF_S8, (show rv10.toInt = 0 ∨ rv10.toInt = 4 ∨ rv10.toInt = 6 by omega)⟩ hP hD d_Mo_sum_176
              · have fc146_1 : p0.toInt = 10 := zt_eq (show p0.toInt = _ from rfl) tI_10 c146_1
                refine lv_lload_n hx hb d_Mo_sum_149 rfl (lv_at hl 3 rfl) ?_
                refine lv_lload hx hb d_Mo_sum_150 (lv_at hl 2 rfl) ?_
                refine lv_ladd hx hb d_Mo_sum_152 ?_
                refine lv_topl (fun x15 ex15 => ?_)
                refine lv_goto (tgt := 173) hx hb d_Mo_sum_153 (by decide) ?_
                refine jm_ci (w := (fun u => u)) hK hP hD hS hA (va_runV (As := [.int 2, .long x15]) (rest := []) F (m_giveExact l D T h0 ar S (2 : Int32) x15 H.size ⟨i_size, i_taken, i_vals, i_room, i_dicts, i_deep, i_open, i_cells, i_points, i_part, i_length, i_knows, i_page, i_text, i_pats, i_fuel, i_fr, i_ink⟩ (show 0 ≤ (2 : Int32).toInt ∧ (2 : Int32).toInt ≤ (f_size S).toInt ∧ (f_size S).toInt - (2 : Int32).toInt ≤ 39 by have := tI_2; omega)) (j_cV (k := 2) (C := "PageScribeModel") hts k_7_217 k_1_12 k_7_214 k_7_216 k_0_112 (by decide +kernel) ⟨Nat.le_of_ble_eq_true rfl, Nat.le_of_ble_eq_true rfl⟩) (jm_pre hK hP hD) rfl rfl hl.1 rfl (lv_room (Nat.le_of_ble_eq_true rfl)) d_Mo_sum_173 ⟨Nat.le_of_ble_eq_true rfl, Nat.le_of_ble_eq_true rfl⟩) (fun rv11 S9 H locs hw11 hP hD hS => ?_)
                have hP : va_P D classes (mW T h0 ar S9) H := hP
                have hD : va_D A (mW T h0 ar S9) := hD
                obtain ⟨⟨i_size, i_taken, i_vals, i_room, i_dicts, i_deep, i_open, i_cells, i_points, i_part, i_length, i_knows, i_page, i_text, i_pats, i_fuel, i_fr, i_ink⟩, kpA_S9, kpF_S9, qqhw11⟩ := hw11
                have kSA_S9 : kA S S9 := kA_t (show kA S S from (kA_r S)) kpA_S9
                have kSF_S9 : kF S S9 := kF_t (show kF S S from (kF_r S)) kpF_S9
                have kST_S9 : kT S S9 := kT_t (show kT S S from (kT_r S)) (kT_A kpA_S9)
                have qhw11 : rv11.toInt = 0 ∨ rv11.toInt = 4 := by simpa only [tI_2] using qqhw11
                exact j_iret F hr hlocks hK hS S9 ⟨⟨i_size, i_taken, i_vals, i_room, i_dicts, i_deep, i_open, i_cells, i_points, i_part, i_length, i_knows, i_page, i_text, i_pats, i_fuel, i_fr, i_ink⟩, kSA_S9, kSF_S9, (show rv11.toInt = 0 ∨ rv11.toInt = 4 ∨ rv11.toInt = 6 by omega)⟩ hP hD d_Mo_sum_176
        · have fc108_1 : p0.toInt = 15 := zt_eq (show p0.toInt = _ from rfl) tI_15 c108_1
          refine lv_aload_n hx hb d_Mo_sum_111 rfl (lv_at hl 5 rfl) ?_
          refine lv_iconst (v := 2) hx hb d_Mo_sum_112 (by decide) ?_
          refine lv_lload_n hx hb d_Mo_sum_113 rfl (lv_at hl 3 rfl) ?_
          refine lv_lload hx hb d_Mo_sum_114 (lv_at hl 2 rfl) ?_
          refine lv_lrem hx hb d_Mo_sum_116 (zu_n0 rfl (by omega)) ?_
          refine lv_topl (fun x16 ex16 => ?_)
          try have fx16 := zu_rem (show x3.toInt = _ from rfl) (show x4.toInt = _ from rfl) (show 1 ≤ x4.toInt by omega)
          try rw [← ex16] at fx16
          refine jm_ci (w := (fun u => u)) hK hP hD hS hA (va_runV (As := [.int 2, .long x16]) (rest := []) F (m_giveExact l D T h0 ar S (2 : Int32) x16 H.size ⟨i_size, i_taken, i_vals, i_room, i_dicts, i_deep, i_open, i_cells, i_points, i_part, i_length, i_knows, i_page, i_text, i_pats, i_fuel, i_fr, i_ink⟩ (show 0 ≤ (2 : Int32).toInt ∧ (2 : Int32).toInt ≤ (f_size S).toInt ∧ (f_size S).toInt - (2 : Int32).toInt ≤ 39 by have := tI_2; omega)) (j_cV (k := 2) (C := "PageScribeModel") hts k_7_217 k_1_12 k_7_214 k_7_216 k_0_112 (by decide +kernel) ⟨Nat.le_of_ble_eq_true rfl, Nat.le_of_ble_eq_true rfl⟩) (jm_pre hK hP hD) rfl rfl hl.1 rfl (lv_room (Nat.le_of_ble_eq_true rfl)) d_Mo_sum_117 ⟨Nat.le_of_ble_eq_true rfl, Nat.le_of_ble_eq_true rfl⟩) (fun rv12 S10 H locs hw12 hP hD hS => ?_)
          have hP : va_P D classes (mW T h0 ar S10) H := hP
          have hD : va_D A (mW T h0 ar S10) := hD
          obtain ⟨⟨i_size, i_taken, i_vals, i_room, i_dicts, i_deep, i_open, i_cells, i_points, i_part, i_length, i_knows, i_page, i_text, i_pats, i_fuel, i_fr, i_ink⟩, kpA_S10, kpF_S10, qqhw12⟩ := hw12
          have kSA_S10 : kA S S10 := kA_t (show kA S S from (kA_r S)) kpA_S10
          have kSF_S10 : kF S S10 := kF_t (show kF S S from (kF_r S)) kpF_S10
          have kST_S10 : kT S S10 := kT_t (show kT S S from (kT_r S)) (kT_A kpA_S10)
          have qhw12 : rv12.toInt = 0 ∨ rv12.toInt = 4 := by simpa only [tI_2] using qqhw12
          exact j_iret F hr hlocks hK hS S10 ⟨⟨i_size, i_taken, i_vals, i_room, i_dicts, i_deep, i_open, i_cells, i_points, i_part, i_length, i_knows, i_page, i_text, i_pats, i_fuel, i_fr, i_ink⟩, kSA_S10, kSF_S10, (show rv12.toInt = 0 ∨ rv12.toInt = 4 ∨ rv12.toInt = 6 by omega)⟩ hP hD d_Mo_sum_120
      · have fc92_1 : p0.toInt = 14 := zt_eq (show p0.toInt = _ from rfl) tI_14 c92_1
        refine lv_aload_n hx hb d_Mo_sum_95 rfl (lv_at hl 5 rfl) ?_
        refine lv_iconst (v := 2) hx hb d_Mo_sum_96 (by decide) ?_
        refine lv_lload_n hx hb d_Mo_sum_97 rfl (lv_at hl 3 rfl) ?_
        refine lv_lload hx hb d_Mo_sum_98 (lv_at hl 2 rfl) ?_
        refine lv_ldiv hx hb d_Mo_sum_100 (zu_n0 rfl (by omega)) ?_
        refine lv_topl (fun x17 ex17 => ?_)
        refine jm_ci (w := (fun u => u)) hK hP hD hS hA (va_runV (As := [.int 2, .long x17]) (rest := []) F (m_giveExact l D T h0 ar S (2 : Int32) x17 H.size ⟨i_size, i_taken, i_vals, i_room, i_dicts, i_deep, i_open, i_cells, i_points, i_part, i_length, i_knows, i_page, i_text, i_pats, i_fuel, i_fr, i_ink⟩ (show 0 ≤ (2 : Int32).toInt ∧ (2 : Int32).toInt ≤ (f_size S).toInt ∧ (f_size S).toInt - (2 : Int32).toInt ≤ 39 by have := tI_2; omega)) (j_cV (k := 2) (C := "PageScribeModel") hts k_7_217 k_1_12 k_7_214 k_7_216 k_0_112 (by decide +kernel) ⟨Nat.le_of_ble_eq_true rfl, Nat.le_of_ble_eq_true rfl⟩) (jm_pre hK hP hD) rfl rfl hl.1 rfl (lv_room (Nat.le_of_ble_eq_true rfl)) d_Mo_sum_101 ⟨Nat.le_of_ble_eq_true rfl, Nat.le_of_ble_eq_true rfl⟩) (fun rv13 S11 H locs hw13 hP hD hS => ?_)
        have hP : va_P D classes (mW T h0 ar S11) H := hP
        have hD : va_D A (mW T h0 ar S11) := hD
        obtain ⟨⟨i_size, i_taken, i_vals, i_room, i_dicts, i_deep, i_open, i_cells, i_points, i_part, i_length, i_knows, i_page, i_text, i_pats, i_fuel, i_fr, i_ink⟩, kpA_S11, kpF_S11, qqhw13⟩ := hw13
        have kSA_S11 : kA S S11 := kA_t (show kA S S from (kA_r S)) kpA_S11
        have kSF_S11 : kF S S11 := kF_t (show kF S S from (kF_r S)) kpF_S11
        have kST_S11 : kT S S11 := kT_t (show kT S S from (kT_r S)) (kT_A kpA_S11)
        have qhw13 : rv13.toInt = 0 ∨ rv13.toInt = 4 := by simpa only [tI_2] using qqhw13
        exact j_iret F hr hlocks hK hS S11 ⟨⟨i_size, i_taken, i_vals, i_room, i_dicts, i_deep, i_open, i_cells, i_points, i_part, i_length, i_knows, i_page, i_text, i_pats, i_fuel, i_fr, i_ink⟩, kSA_S11, kSF_S11, (show rv13.toInt = 0 ∨ rv13.toInt = 4 ∨ rv13.toInt = 6 by omega)⟩ hP hD d_Mo_sum_104
    · have fc75_1 : p0.toInt = 13 := zt_eq (show p0.toInt = _ from rfl) tI_13 c75_1
      refine lv_aload_n hx hb d_Mo_sum_78 rfl (lv_at hl 5 rfl) ?_
      refine lv_iconst (v := 2) hx hb d_Mo_sum_79 (by decide) ?_
      refine lv_dload hx hb d_Mo_sum_80 (lv_at hl 1 rfl) ?_
      refine lv_dload hx hb d_Mo_sum_82 (lv_at hl 0 rfl) ?_
      have n84 := (zd_div (show dF rv1 by omega) (show dF rv2 by omega) (by omega))
      refine lv_ddiv hx hb d_Mo_sum_84 (vf_N n84) ?_
      refine lv_topd (fun x18 ex18 => ?_)
      rw [show FP.ddiv rv1 rv2 = x18 from ex18.symm] at n84
      refine jm_ci (w := (fun u => u)) hK hP hD hS hA (va_runV (As := [.int 2, .double x18]) (rest := []) F (m_giveReal l D T h0 ar S (2 : Int32) x18 H.size ⟨i_size, i_taken, i_vals, i_room, i_dicts, i_deep, i_open, i_cells, i_points, i_part, i_length, i_knows, i_page, i_text, i_pats, i_fuel, i_fr, i_ink⟩ (show 0 ≤ (2 : Int32).toInt ∧ (2 : Int32).toInt ≤ (f_size S).toInt ∧ (f_size S).toInt - (2 : Int32).toInt ≤ 39 by have := tI_2; omega) (show dN x18 by have := tI_2; omega)) (j_cV (k := 2) (C := "PageScribeModel") hts k_7_211 k_1_12 k_7_208 k_7_210 k_0_111 (by decide +kernel) ⟨Nat.le_of_ble_eq_true rfl, Nat.le_of_ble_eq_true rfl⟩) (jm_pre hK hP hD) rfl rfl hl.1 rfl (lv_room (Nat.le_of_ble_eq_true rfl)) d_Mo_sum_85 ⟨Nat.le_of_ble_eq_true rfl, Nat.le_of_ble_eq_true rfl⟩) (fun rv14 S12 H locs hw14 hP hD hS => ?_)
      have hP : va_P D classes (mW T h0 ar S12) H := hP
      have hD : va_D A (mW T h0 ar S12) := hD
      obtain ⟨⟨i_size, i_taken, i_vals, i_room, i_dicts, i_deep, i_open, i_cells, i_points, i_part, i_length, i_knows, i_page, i_text, i_pats, i_fuel, i_fr, i_ink⟩, kpA_S12, kpF_S12, qqhw14⟩ := hw14
      have kSA_S12 : kA S S12 := kA_t (show kA S S from (kA_r S)) kpA_S12
      have kSF_S12 : kF S S12 := kF_t (show kF S S from (kF_r S)) kpF_S12
      have kST_S12 : kT S S12 := kT_t (show kT S S from (kT_r S)) (kT_A kpA_S12)
      have qhw14 : rv14.toInt = 0 ∨ rv14.toInt = 4 := by simpa only [tI_2] using qqhw14
      exact j_iret F hr hlocks hK hS S12 ⟨⟨i_size, i_taken, i_vals, i_room, i_dicts, i_deep, i_open, i_cells, i_points, i_part, i_length, i_knows, i_page, i_text, i_pats, i_fuel, i_fr, i_ink⟩, kSA_S12, kSF_S12, (show rv14.toInt = 0 ∨ rv14.toInt = 4 ∨ rv14.toInt = 6 by omega)⟩ hP hD d_Mo_sum_88
  · have fc43_1 : 12 < p0.toInt := Int.not_le.mp (zt_nle (show p0.toInt = _ from rfl) tI_12 c43_1)
    refine lv_iload_n hx hb d_Mo_sum_46 rfl (lv_at hl 6 rfl) ?_
    refine lv_bipush (v := 13) hx hb d_Mo_sum_47 (by decide) ?_
    refine lv_icmp_ne (tgt := 62) hx hb d_Mo_sum_49 (by decide) (fun c49_1 => ?_) (fun c49_1 => ?_)
    · first | have fc49_1 : p0.toInt < 13 := (by have := zt_ne (show p0.toInt = _ from rfl) tI_13 c49_1; omega) | have fc49_1 : 13 < p0.toInt := (by have := zt_ne (show p0.toInt = _ from rfl) tI_13 c49_1; omega) | skip
      refine lv_lload hx hb d_Mo_sum_62 (lv_at hl 2 rfl) ?_
      refine lv_lconst (v := 0) hx hb d_Mo_sum_64 (by decide) ?_
      refine W.lcmp hx hb d_Mo_sum_65 ?_
      refine lv_topi (fun x19 ex19 => ?_)
      refine lv_if_ne (tgt := 72) hx hb d_Mo_sum_66 (by decide) (fun c66_1 => ?_) (fun c66_1 => ?_)
      · first | have fc66_1 : x19.toInt < 0 := (by have := zt_ne (show x19.toInt = _ from rfl) tI_0 c66_1; omega) | have fc66_1 : 0 < x19.toInt := (by have := zt_ne (show x19.toInt = _ from rfl) tI_0 c66_1; omega) | skip
        have vc66_1 : ¬ x4.toInt = 0 := by have := zr_cmp ex19 (show x4.toInt = _ from rfl) tJ_0; have := zt_ne (show x19.toInt = _ from rfl) tI_0 c66_1; omega
        refine lv_iload_n hx hb d_Mo_sum_72 rfl (lv_at hl 6 rfl) ?_
        refine lv_bipush (v := 13) hx hb d_Mo_sum_73 (by decide) ?_
        refine lv_icmp_ne (tgt := 89) hx hb d_Mo_sum_75 (by decide) (fun c75_2 => ?_) (fun c75_2 => ?_)
        · first | have fc75_2 : p0.toInt < 13 := (by have := zt_ne (show p0.toInt = _ from rfl) tI_13 c75_2; omega) | have fc75_2 : 13 < p0.toInt := (by have := zt_ne (show p0.toInt = _ from rfl) tI_13 c75_2; omega) | skip
          refine lv_iload_n hx hb d_Mo_sum_89 rfl (lv_at hl 6 rfl) ?_
          refine lv_bipush (v := 14) hx hb d_Mo_sum_90 (by decide) ?_
          refine lv_icmp_ne (tgt := 105) hx hb d_Mo_sum_92 (by decide) (fun c92_2 => ?_) (fun c92_2 => ?_)
          · first | have fc92_2 : p0.toInt < 14 := (by have := zt_ne (show p0.toInt = _ from rfl) tI_14 c92_2; omega) | have fc92_2 : 14 < p0.toInt := (by have := zt_ne (show p0.toInt = _ from rfl) tI_14 c92_2; omega) | skip
            refine lv_iload_n hx hb d_Mo_sum_105 rfl (lv_at hl 6 rfl) ?_
            refine lv_bipush (v := 15) hx hb d_Mo_sum_106 (by decide) ?_
            refine lv_icmp_ne (tgt := 121) hx hb d_Mo_sum_108 (by decide) (fun c108_2 => ?_) (fun c108_2 => ?_)
            · first | have fc108_2 : p0.toInt < 15 := (by have := zt_ne (show p0.toInt = _ from rfl) tI_15 c108_2; omega) | have fc108_2 : 15 < p0.toInt := (by have := zt_ne (show p0.toInt = _ from rfl) tI_15 c108_2; omega) | skip
              refine lv_aload_n hx hb d_Mo_sum_121 rfl (lv_at hl 5 rfl) ?_
              refine va_get (D := D) (ci := 11) (v := .ref (ar 0)) (C := "PageScribeModel") (T := F_Mo) (N := 45) hx hb hts i_Mo hown hK hP 0 mW_0 cl_11 1 (by decide) (hts _ k_6_161) (fun _ h9 => h9) (mg_kinds _ _) d_Mo_sum_122 ?_
              refine lv_iload_n hx hb d_Mo_sum_125 rfl (lv_at hl 4 rfl) ?_
              refine va_iald hx hb hK hP 1 0 (ma_kinds _ _ _ _) rfl (zt_in fx1 (by omega) (by omega)) d_Mo_sum_126 ?_
              refine lv_topi (fun x20 ex20 => ?_)
              have gx20 : x20 = (a_kinds S) ((f_size S).toInt - 1).toNat := ex20.trans (congrArg _ (zt_ix fx1))
              have fx20 : x20.toInt = ((a_kinds S) ((f_size S).toInt - 1).toNat).toInt := by rw [gx20]
              have kx20 : vOk ((a_kinds S) ((f_size S).toInt - 1).toNat) ((a_codes S) ((f_size S).toInt - 1).toNat) ((a_reals S) ((f_size S).toInt - 1).toNat) := i_vals (((f_size S).toInt - 1).toNat) (by omega)
              have rx20 := vk_rng kx20
              refine lv_if_ne (tgt := 177) hx hb d_Mo_sum_127 (by decide) (fun c127_2 => ?_) (fun c127_2 => ?_)
              · first | have fc127_2 : x20.toInt < 0 := (by have := zt_ne (show x20.toInt = _ from rfl) tI_0 c127_2; omega) | have fc127_2 : 0 < x20.toInt := (by have := zt_ne (show x20.toInt = _ from rfl) tI_0 c127_2; omega) | skip
                refine lv_aload_n hx hb d_Mo_sum_177 rfl (lv_at hl 5 rfl) ?_
                refine lv_iconst (v := 2) hx hb d_Mo_sum_178 (by decide) ?_
                refine lv_iload_n hx hb d_Mo_sum_179 rfl (lv_at hl 6 rfl) ?_
                refine lv_bipush (v := 10) hx hb d_Mo_sum_180 (by decide) ?_
                refine lv_icmp_ne (tgt := 193) hx hb d_Mo_sum_182 (by decide) (fun c182_3 => ?_) (fun c182_3 => ?_)
                · first | have fc182_3 : p0.toInt < 10 := (by have := zt_ne (show p0.toInt = _ from rfl) tI_10 c182_3; omega) | have fc182_3 : 10 < p0.toInt := (by have := zt_ne (show p0.toInt = _ from rfl) tI_10 c182_3; omega) | skip
                  refine lv_iload_n hx hb d_Mo_sum_193 rfl (lv_at hl 6 rfl) ?_
                  refine lv_bipush (v := 11) hx hb d_Mo_sum_194 (by decide) ?_
                  refine lv_icmp_ne (tgt := 207) hx hb d_Mo_sum_196 (by decide) (fun c196_3 => ?_) (fun c196_3 => ?_)
                  · first | have fc196_3 : p0.toInt < 11 := (by have := zt_ne (show p0.toInt = _ from rfl) tI_11 c196_3; omega) | have fc196_3 : 11 < p0.toInt := (by have := zt_ne (show p0.toInt = _ from rfl) tI_11 c196_3; omega) | skip
                    refine lv_dload hx hb d_Mo_sum_207 (lv_at hl 1 rfl) ?_
                    refine lv_dload hx hb d_Mo_sum_209 (lv_at hl 0 rfl) ?_
                    have n211 := (zd_mul (show dF rv1 by omega) (show dF rv2 by omega))
                    refine lv_dmul hx hb d_Mo_sum_211 (vf_N n211) ?_
                    refine lv_topd (fun x21 ex21 => ?_)
                    rw [show FP.dmul rv1 rv2 = x21 from ex21.symm] at n211
                    refine jm_ci (w := (fun u => u)) hK hP hD hS hA (va_runV (As := [.int 2, .double x21]) (rest := []) F (m_giveReal l D T h0 ar S (2 : Int32) x21 H.size ⟨i_size, i_taken, i_vals, i_room, i_dicts, i_deep, i_open, i_cells, i_points, i_part, i_length, i_knows, i_page, i_text, i_pats, i_fuel, i_fr, i_ink⟩ (show 0 ≤ (2 : Int32).toInt ∧ (2 : Int32).toInt ≤ (f_size S).toInt ∧ (f_size S).toInt - (2 : Int32).toInt ≤ 39 by have := tI_2; omega) (show dN x21 by have := tI_2; omega)) (j_cV (k := 2) (C := "PageScribeModel") hts k_7_211 k_1_12 k_7_208 k_7_210 k_0_111 (by decide +kernel) ⟨Nat.le_of_ble_eq_true rfl, Nat.le_of_ble_eq_true rfl⟩) (jm_pre hK hP hD) rfl rfl hl.1 rfl (lv_room (Nat.le_of_ble_eq_true rfl)) d_Mo_sum_212 ⟨Nat.le_of_ble_eq_true rfl, Nat.le_of_ble_eq_true rfl⟩) (fun rv15 S13 H locs hw15 hP hD hS => ?_)
                    have hP : va_P D classes (mW T h0 ar S13) H := hP
                    have hD : va_D A (mW T h0 ar S13) := hD
                    obtain ⟨⟨i_size, i_taken, i_vals, i_room, i_dicts, i_deep, i_open, i_cells, i_points, i_part, i_length, i_knows, i_page, i_text, i_pats, i_fuel, i_fr, i_ink⟩, kpA_S13, kpF_S13, qqhw15⟩ := hw15
                    have kSA_S13 : kA S S13 := kA_t (show kA S S from (kA_r S)) kpA_S13
                    have kSF_S13 : kF S S13 := kF_t (show kF S S from (kF_r S)) kpF_S13
                    have kST_S13 : kT S S13 := kT_t (show kT S S from (kT_r S)) (kT_A kpA_S13)
                    have qhw15 : rv15.toInt = 0 ∨ rv15.toInt = 4 := by simpa only [tI_2] using qqhw15
                    exact j_iret F hr hlocks hK hS S13 ⟨⟨i_size, i_taken, i_vals, i_room, i_dicts, i_deep, i_open, i_cells, i_points, i_part, i_length, i_knows, i_page, i_text, i_pats, i_fuel, i_fr, i_ink⟩, kSA_S13, kSF_S13, (show rv15.toInt = 0 ∨ rv15.toInt = 4 ∨ rv15.toInt = 6 by omega)⟩ hP hD d_Mo_sum_215
                  · have fc196_3 : p0.toInt = 11 := zt_eq (show p0.toInt = _ from rfl) tI_11 c196_3
                    refine lv_dload hx hb d_Mo_sum_199 (lv_at hl 1 rfl) ?_
                    refine lv_dload hx hb d_Mo_sum_201 (lv_at hl 0 rfl) ?_
                    have n203 := (zd_sub (show dF rv1 by omega) (show dF rv2 by omega))
                    try have o203 := zd_subB (show dB rv1 by omega) (show dB rv2 by omega)
                    refine lv_dsub hx hb d_Mo_sum_203 (vf_N n203) ?_
                    refine lv_topd (fun x22 ex22 => ?_)
                    rw [show FP.dsub rv1 rv2 = x22 from ex22.symm] at n203
                    try rw [show FP.dsub rv1 rv2 = x22 from ex22.symm] at o203
                    refine lv_goto (tgt := 212) hx hb d_Mo_sum_204 (by decide) ?_
                    refine jm_ci (w := (fun u => u)) hK hP hD hS hA (va_runV (As := [.int 2, .double x22]) (rest := []) F (m_giveReal l D T h0 ar S (2 : Int32) x22 H.size ⟨i_size, i_taken, i_vals, i_room, i_dicts, i_deep, i_open, i_cells, i_points, i_part, i_length, i_knows, i_page, i_text, i_pats, i_fuel, i_fr, i_ink⟩ (show 0 ≤ (2 : Int32).toInt ∧ (2 : Int32).toInt ≤ (f_size S).toInt ∧ (f_size S).toInt - (2 : Int32).toInt ≤ 39 by have := tI_2; omega) (show dN x22 by have := tI_2; omega)) (j_cV (k := 2) (C := "PageScribeModel") hts k_7_211 k_1_12 k_7_208 k_7_210 k_0_111 (by decide +kernel) ⟨Nat.le_of_ble_eq_true rfl, Nat.le_of_ble_eq_true rfl⟩) (jm_pre hK hP hD) rfl rfl hl.1 rfl (lv_room (Nat.le_of_ble_eq_true rfl)) d_Mo_sum_212 ⟨Nat.le_of_ble_eq_true rfl, Nat.le_of_ble_eq_true rfl⟩) (fun rv16 S14 H locs hw16 hP hD hS => ?_)
                    have hP : va_P D classes (mW T h0 ar S14) H := hP
                    have hD : va_D A (mW T h0 ar S14) := hD
                    obtain ⟨⟨i_size, i_taken, i_vals, i_room, i_dicts, i_deep, i_open, i_cells, i_points, i_part, i_length, i_knows, i_page, i_text, i_pats, i_fuel, i_fr, i_ink⟩, kpA_S14, kpF_S14, qqhw16⟩ := hw16
                    have kSA_S14 : kA S S14 := kA_t (show kA S S from (kA_r S)) kpA_S14
                    have kSF_S14 : kF S S14 := kF_t (show kF S S from (kF_r S)) kpF_S14
                    have kST_S14 : kT S S14 := kT_t (show kT S S from (kT_r S)) (kT_A kpA_S14)
                    have qhw16 : rv16.toInt = 0 ∨ rv16.toInt = 4 := by simpa only [tI_2] using qqhw16
                    exact j_iret F hr hlocks hK hS S14 ⟨⟨i_size, i_taken, i_vals, i_room, i_dicts, i_deep, i_open, i_cells, i_points, i_part, i_length, i_knows, i_page, i_text, i_pats, i_fuel, i_fr, i_ink⟩, kSA_S14, kSF_S14, (show rv16.toInt = 0 ∨ rv16.toInt = 4 ∨ rv16.toInt = 6 by omega)⟩ hP hD d_Mo_sum_215
                · have fc182_3 : p0.toInt = 10 := zt_eq (show p0.toInt = _ from rfl) tI_10 c182_3
                  refine lv_dload hx hb d_Mo_sum_185 (lv_at hl 1 rfl) ?_
                  refine lv_dload hx hb d_Mo_sum_187 (lv_at hl 0 rfl) ?_
                  have n189 := (zd_add (show dF rv1 by omega) (show dF rv2 by omega))
                  try have o189 := zd_addB (show dB rv1 by omega) (show dB rv2 by omega)
                  refine lv_dadd hx hb d_Mo_sum_189 (vf_N n189) ?_
                  refine lv_topd (fun x23 ex23 => ?_)
                  rw [show FP.dadd rv1 rv2 = x23 from ex23.symm] at n189
                  try rw [show FP.dadd rv1 rv2 = x23 from ex23.symm] at o189
                  refine lv_goto (tgt := 212) hx hb d_Mo_sum_190 (by decide) ?_
                  refine jm_ci (w := (fun u => u)) hK hP hD hS hA (va_runV (As := [.int 2, .double x23]) (rest := []) F (m_giveReal l D T h0 ar S (2 : Int32) x23 H.size ⟨i_size, i_taken, i_vals, i_room, i_dicts, i_deep, i_open, i_cells, i_points, i_part, i_length, i_knows, i_page, i_text, i_pats, i_fuel, i_fr, i_ink⟩ (show 0 ≤ (2 : Int32).toInt ∧ (2 : Int32).toInt ≤ (f_size S).toInt ∧ (f_size S).toInt - (2 : Int32).toInt ≤ 39 by have := tI_2; omega) (show dN x23 by have := tI_2; omega)) (j_cV (k := 2) (C := "PageScribeModel") hts k_7_211 k_1_12 k_7_208 k_7_210 k_0_111 (by decide +kernel) ⟨Nat.le_of_ble_eq_true rfl, Nat.le_of_ble_eq_true rfl⟩) (jm_pre hK hP hD) rfl rfl hl.1 rfl (lv_room (Nat.le_of_ble_eq_true rfl)) d_Mo_sum_212 ⟨Nat.le_of_ble_eq_true rfl, Nat.le_of_ble_eq_true rfl⟩) (fun rv17 S15 H locs hw17 hP hD hS => ?_)
                  have hP : va_P D classes (mW T h0 ar S15) H := hP
                  have hD : va_D A (mW T h0 ar S15) := hD
                  obtain ⟨⟨i_size, i_taken, i_vals, i_room, i_dicts, i_deep, i_open, i_cells, i_points, i_part, i_length, i_knows, i_page, i_text, i_pats, i_fuel, i_fr, i_ink⟩, kpA_S15, kpF_S15, qqhw17⟩ := hw17
                  have kSA_S15 : kA S S15 := kA_t (show kA S S from (kA_r S)) kpA_S15
                  have kSF_S15 : kF S S15 := kF_t (show kF S S from (kF_r S)) kpF_S15
                  have kST_S15 : kT S S15 := kT_t (show kT S S from (kT_r S)) (kT_A kpA_S15)
                  have qhw17 : rv17.toInt = 0 ∨ rv17.toInt = 4 := by simpa only [tI_2] using qqhw17
                  exact j_iret F hr hlocks hK hS S15 ⟨⟨i_size, i_taken, i_vals, i_room, i_dicts, i_deep, i_open, i_cells, i_points, i_part, i_length, i_knows, i_page, i_text, i_pats, i_fuel, i_fr, i_ink⟩, kSA_S15, kSF_S15, (show rv17.toInt = 0 ∨ rv17.toInt = 4 ∨ rv17.toInt = 6 by omega)⟩ hP hD d_Mo_sum_215
              · have fc127_2 : x20.toInt = 0 := zt_eq (show x20.toInt = _ from rfl) tI_0 c127_2
                refine lv_aload_n hx hb d_Mo_sum_130 rfl (lv_at hl 5 rfl) ?_
                refine va_get (D := D) (ci := 11) (v := .ref (ar 0)) (C := "PageScribeModel") (T := F_Mo) (N := 45) hx hb hts i_Mo hown hK hP 0 mW_0 cl_11 1 (by decide) (hts _ k_6_161) (fun _ h9 => h9) (mg_kinds _ _) d_Mo_sum_131 ?_
                refine lv_iload_n hx hb d_Mo_sum_134 rfl (lv_at hl 4 rfl) ?_
                refine lv_iconst (v := 1) hx hb d_Mo_sum_135 (by decide) ?_
                refine lv_isub hx hb d_Mo_sum_136 ?_
                refine j_eqi (y := x2) ex2.symm ?_
                refine va_iald hx hb hK hP 1 0 (ma_kinds _ _ _ _) rfl (zt_in fx2 (by omega) (by omega)) d_Mo_sum_137 ?_
                refine lv_topi (fun x24 ex24 => ?_)
                have gx24 : x24 = (a_kinds S) ((f_size S).toInt - 2).toNat := ex24.trans (congrArg _ (zt_ix fx2))
                have fx24 : x24.toInt = ((a_kinds S) ((f_size S).toInt - 2).toNat).toInt := by rw [gx24]
                have kx24 : vOk ((a_kinds S) ((f_size S).toInt - 2).toNat) ((a_codes S) ((f_size S).toInt - 2).toNat) ((a_reals S) ((f_size S).toInt - 2).toNat) := i_vals (((f_size S).toInt - 2).toNat) (by omega)
                have rx24 := vk_rng kx24
                refine lv_if_ne (tgt := 177) hx hb d_Mo_sum_138 (by decide) (fun c138_2 => ?_) (fun c138_2 => ?_)
                · first | have fc138_2 : x24.toInt < 0 := (by have := zt_ne (show x24.toInt = _ from rfl) tI_0 c138_2; omega) | have fc138_2 : 0 < x24.toInt := (by have := zt_ne (show x24.toInt = _ from rfl) tI_0 c138_2; omega) | skip
                  refine lv_aload_n hx hb d_Mo_sum_177 rfl (lv_at hl 5 rfl) ?_
                  refine lv_iconst (v := 2) hx hb d_Mo_sum_178 (by decide) ?_
                  refine lv_iload_n hx hb d_Mo_sum_179 rfl (lv_at hl 6 rfl) ?_
                  refine lv_bipush (v := 10) hx hb d_Mo_sum_180 (by decide) ?_
                  refine lv_icmp_ne (tgt := 193) hx hb d_Mo_sum_182 (by decide) (fun c182_4 => ?_) (fun c182_4 => ?_)
                  · first | have fc182_4 : p0.toInt < 10 := (by have := zt_ne (show p0.toInt = _ from rfl) tI_10 c182_4; omega) | have fc182_4 : 10 < p0.toInt := (by have := zt_ne (show p0.toInt = _ from rfl) tI_10 c182_4; omega) | skip
                    refine lv_iload_n hx hb d_Mo_sum_193 rfl (lv_at hl 6 rfl) ?_
                    refine lv_bipush (v := 11) hx hb d_Mo_sum_194 (by decide) ?_
                    refine lv_icmp_ne (tgt := 207) hx hb d_Mo_sum_196 (by decide) (fun c196_4 => ?_) (fun c196_4 => ?_)
                    · first | have fc196_4 : p0.toInt < 11 := (by have := zt_ne (show p0.toInt = _ from rfl) tI_11 c196_4; omega) | have fc196_4 : 11 < p0.toInt := (by have := zt_ne (show p0.toInt = _ from rfl) tI_11 c196_4; omega) | skip
                      refine lv_dload hx hb d_Mo_sum_207 (lv_at hl 1 rfl) ?_
                      refine lv_dload hx hb d_Mo_sum_209 (lv_at hl 0 rfl) ?_
                      have n211 := (zd_mul (show dF rv1 by omega) (show dF rv2 by omega))
                      refine lv_dmul hx hb d_Mo_sum_211 (vf_N n211) ?_
                      refine lv_topd (fun x25 ex25 => ?_)
                      rw [show FP.dmul rv1 rv2 = x25 from ex25.symm] at n211
                      refine jm_ci (w := (fun u => u)) hK hP hD hS hA (va_runV (As := [.int 2, .double x25]) (rest := []) F (m_giveReal l D T h0 ar S (2 : Int32) x25 H.size ⟨i_size, i_taken, i_vals, i_room, i_dicts, i_deep, i_open, i_cells, i_points, i_part, i_length, i_knows, i_page, i_text, i_pats, i_fuel, i_fr, i_ink⟩ (show 0 ≤ (2 : Int32).toInt ∧ (2 : Int32).toInt ≤ (f_size S).toInt ∧ (f_size S).toInt - (2 : Int32).toInt ≤ 39 by have := tI_2; omega) (show dN x25 by have := tI_2; omega)) (j_cV (k := 2) (C := "PageScribeModel") hts k_7_211 k_1_12 k_7_208 k_7_210 k_0_111 (by decide +kernel) ⟨Nat.le_of_ble_eq_true rfl, Nat.le_of_ble_eq_true rfl⟩) (jm_pre hK hP hD) rfl rfl hl.1 rfl (lv_room (Nat.le_of_ble_eq_true rfl)) d_Mo_sum_212 ⟨Nat.le_of_ble_eq_true rfl, Nat.le_of_ble_eq_true rfl⟩) (fun rv18 S16 H locs hw18 hP hD hS => ?_)
                      have hP : va_P D classes (mW T h0 ar S16) H := hP
                      have hD : va_D A (mW T h0 ar S16) := hD
                      obtain ⟨⟨i_size, i_taken, i_vals, i_room, i_dicts, i_deep, i_open, i_cells, i_points, i_part, i_length, i_knows, i_page, i_text, i_pats, i_fuel, i_fr, i_ink⟩, kpA_S16, kpF_S16, qqhw18⟩ := hw18
                      have kSA_S16 : kA S S16 := kA_t (show kA S S from (kA_r S)) kpA_S16
                      have kSF_S16 : kF S S16 := kF_t (show kF S S from (kF_r S)) kpF_S16
                      have kST_S16 : kT S S16 := kT_t (show kT S S from (kT_r S)) (kT_A kpA_S16)
                      have qhw18 : rv18.toInt = 0 ∨ rv18.toInt = 4 := by simpa only [tI_2] using qqhw18
                      exact j_iret F hr hlocks hK hS S16 ⟨⟨i_size, i_taken, i_vals, i_room, i_dicts, i_deep, i_open, i_cells, i_points, i_part, i_length, i_knows, i_page, i_text, i_pats, i_fuel, i_fr, i_ink⟩, kSA_S16, kSF_S16, (show rv18.toInt = 0 ∨ rv18.toInt = 4 ∨ rv18.toInt = 6 by omega)⟩ hP hD d_Mo_sum_215
                    · have fc196_4 : p0.toInt = 11 := zt_eq (show p0.toInt = _ from rfl) tI_11 c196_4
                      refine lv_dload hx hb d_Mo_sum_199 (lv_at hl 1 rfl) ?_
                      refine lv_dload hx hb d_Mo_sum_201 (lv_at hl 0 rfl) ?_
                      have n203 := (zd_sub (show dF rv1 by omega) (show dF rv2 by omega))
                      try have o203 := zd_subB (show dB rv1 by omega) (show dB rv2 by omega)
                      refine lv_dsub hx hb d_Mo_sum_203 (vf_N n203) ?_
                      refine lv_topd (fun x26 ex26 => ?_)
                      rw [show FP.dsub rv1 rv2 = x26 from ex26.symm] at n203
                      try rw [show FP.dsub rv1 rv2 = x26 from ex26.symm] at o203
                      refine lv_goto (tgt := 212) hx hb d_Mo_sum_204 (by decide) ?_
                      refine jm_ci (w := (fun u => u)) hK hP hD hS hA (va_runV (As := [.int 2, .double x26]) (rest := []) F (m_giveReal l D T h0 ar S (2 : Int32) x26 H.size ⟨i_size, i_taken, i_vals, i_room, i_dicts, i_deep, i_open, i_cells, i_points, i_part, i_length, i_knows, i_page, i_text, i_pats, i_fuel, i_fr, i_ink⟩ (show 0 ≤ (2 : Int32).toInt ∧ (2 : Int32).toInt ≤ (f_size S).toInt ∧ (f_size S).toInt - (2 : Int32).toInt ≤ 39 by have := tI_2; omega) (show dN x26 by have := tI_2; omega)) (j_cV (k := 2) (C := "PageScribeModel") hts k_7_211 k_1_12 k_7_208 k_7_210 k_0_111 (by decide +kernel) ⟨Nat.le_of_ble_eq_true rfl, Nat.le_of_ble_eq_true rfl⟩) (jm_pre hK hP hD) rfl rfl hl.1 rfl (lv_room (Nat.le_of_ble_eq_true rfl)) d_Mo_sum_212 ⟨Nat.le_of_ble_eq_true rfl, Nat.le_of_ble_eq_true rfl⟩) (fun rv19 S17 H locs hw19 hP hD hS => ?_)
                      have hP : va_P D classes (mW T h0 ar S17) H := hP
                      have hD : va_D A (mW T h0 ar S17) := hD
                      obtain ⟨⟨i_size, i_taken, i_vals, i_room, i_dicts, i_deep, i_open, i_cells, i_points, i_part, i_length, i_knows, i_page, i_text, i_pats, i_fuel, i_fr, i_ink⟩, kpA_S17, kpF_S17, qqhw19⟩ := hw19
                      have kSA_S17 : kA S S17 := kA_t (show kA S S from (kA_r S)) kpA_S17
                      have kSF_S17 : kF S S17 := kF_t (show kF S S from (kF_r S)) kpF_S17
                      have kST_S17 : kT S S17 := kT_t (show kT S S from (kT_r S)) (kT_A kpA_S17)
                      have qhw19 : rv19.toInt = 0 ∨ rv19.toInt = 4 := by simpa only [tI_2] using qqhw19
                      exact j_iret F hr hlocks hK hS S17 ⟨⟨i_size, i_taken, i_vals, i_room, i_dicts, i_deep, i_open, i_cells, i_points, i_part, i_length, i_knows, i_page, i_text, i_pats, i_fuel, i_fr, i_ink⟩, kSA_S17, kSF_S17, (show rv19.toInt = 0 ∨ rv19.toInt = 4 ∨ rv19.toInt = 6 by omega)⟩ hP hD d_Mo_sum_215
                  · have fc182_4 : p0.toInt = 10 := zt_eq (show p0.toInt = _ from rfl) tI_10 c182_4
                    refine lv_dload hx hb d_Mo_sum_185 (lv_at hl 1 rfl) ?_
                    refine lv_dload hx hb d_Mo_sum_187 (lv_at hl 0 rfl) ?_
                    have n189 := (zd_add (show dF rv1 by omega) (show dF rv2 by omega))
                    try have o189 := zd_addB (show dB rv1 by omega) (show dB rv2 by omega)
                    refine lv_dadd hx hb d_Mo_sum_189 (vf_N n189) ?_
                    refine lv_topd (fun x27 ex27 => ?_)
                    rw [show FP.dadd rv1 rv2 = x27 from ex27.symm] at n189
                    try rw [show FP.dadd rv1 rv2 = x27 from ex27.symm] at o189
                    refine lv_goto (tgt := 212) hx hb d_Mo_sum_190 (by decide) ?_
                    refine jm_ci (w := (fun u => u)) hK hP hD hS hA (va_runV (As := [.int 2, .double x27]) (rest := []) F (m_giveReal l D T h0 ar S (2 : Int32) x27 H.size ⟨i_size, i_taken, i_vals, i_room, i_dicts, i_deep, i_open, i_cells, i_points, i_part, i_length, i_knows, i_page, i_text, i_pats, i_fuel, i_fr, i_ink⟩ (show 0 ≤ (2 : Int32).toInt ∧ (2 : Int32).toInt ≤ (f_size S).toInt ∧ (f_size S).toInt - (2 : Int32).toInt ≤ 39 by have := tI_2; omega) (show dN x27 by have := tI_2; omega)) (j_cV (k := 2) (C := "PageScribeModel") hts k_7_211 k_1_12 k_7_208 k_7_210 k_0_111 (by decide +kernel) ⟨Nat.le_of_ble_eq_true rfl, Nat.le_of_ble_eq_true rfl⟩) (jm_pre hK hP hD) rfl rfl hl.1 rfl (lv_room (Nat.le_of_ble_eq_true rfl)) d_Mo_sum_212 ⟨Nat.le_of_ble_eq_true rfl, Nat.le_of_ble_eq_true rfl⟩) (fun rv20 S18 H locs hw20 hP hD hS => ?_)
                    have hP : va_P D classes (mW T h0 ar S18) H := hP
                    have hD : va_D A (mW T h0 ar S18) := hD
                    obtain ⟨⟨i_size, i_taken, i_vals, i_room, i_dicts, i_deep, i_open, i_cells, i_points, i_part, i_length, i_knows, i_page, i_text, i_pats, i_fuel, i_fr, i_ink⟩, kpA_S18, kpF_S18, qqhw20⟩ := hw20
                    have kSA_S18 : kA S S18 := kA_t (show kA S S from (kA_r S)) kpA_S18
                    have kSF_S18 : kF S S18 := kF_t (show kF S S from (kF_r S)) kpF_S18
                    have kST_S18 : kT S S18 := kT_t (show kT S S from (kT_r S)) (kT_A kpA_S18)
                    have qhw20 : rv20.toInt = 0 ∨ rv20.toInt = 4 := by simpa only [tI_2] using qqhw20
                    exact j_iret F hr hlocks hK hS S18 ⟨⟨i_size, i_taken, i_vals, i_room, i_dicts, i_deep, i_open, i_cells, i_points, i_part, i_length, i_knows, i_page, i_text, i_pats, i_fuel, i_fr, i_ink⟩, kSA_S18, kSF_S18, (show rv20.toInt = 0 ∨ rv20.toInt = 4 ∨ rv20.toInt = 6 by omega)⟩ hP hD d_Mo_sum_215
                · have fc138_2 : x24.toInt = 0 := zt_eq (show x24.toInt = _ from rfl) tI_0 c138_2
                  refine lv_aload_n hx hb d_Mo_sum_141 rfl (lv_at hl 5 rfl) ?_
                  refine lv_iconst (v := 2) hx hb d_Mo_sum_142 (by decide) ?_
                  refine lv_iload_n hx hb d_Mo_sum_143 rfl (lv_at hl 6 rfl) ?_
                  refine lv_bipush (v := 10) hx hb d_Mo_sum_144 (by decide) ?_
                  refine lv_icmp_ne (tgt := 156) hx hb d_Mo_sum_146 (by decide) (fun c146_2 => ?_) (fun c146_2 => ?_)
                  · first | have fc146_2 : p0.toInt < 10 := (by have := zt_ne (show p0.toInt = _ from rfl) tI_10 c146_2; omega) | have fc146_2 : 10 < p0.toInt := (by have := zt_ne (show p0.toInt = _ from rfl) tI_10 c146_2; omega) | skip
                    refine lv_iload_n hx hb d_Mo_sum_156 rfl (lv_at hl 6 rfl) ?_
                    refine lv_bipush (v := 11) hx hb d_Mo_sum_157 (by decide) ?_
                    refine lv_icmp_ne (tgt := 169) hx hb d_Mo_sum_159 (by decide) (fun c159_2 => ?_) (fun c159_2 => ?_)
                    · first | have fc159_2 : p0.toInt < 11 := (by have := zt_ne (show p0.toInt = _ from rfl) tI_11 c159_2; omega) | have fc159_2 : 11 < p0.toInt := (by have := zt_ne (show p0.toInt = _ from rfl) tI_11 c159_2; omega) | skip
                      refine lv_lload_n hx hb d_Mo_sum_169 rfl (lv_at hl 3 rfl) ?_
                      refine lv_lload hx hb d_Mo_sum_170 (lv_at hl 2 rfl) ?_
                      refine lv_lmul hx hb d_Mo_sum_172 ?_
                      refine lv_topl (fun x28 ex28 => ?_)
                      refine jm_ci (w := (fun u => u)) hK hP hD hS hA (va_runV (As := [.int 2, .long x28]) (rest := []) F (m_giveExact l D T h0 ar S (2 : Int32) x28 H.size ⟨i_size, i_taken, i_vals, i_room, i_dicts, i_deep, i_open, i_cells, i_points, i_part, i_length, i_knows, i_page, i_text, i_pats, i_fuel, i_fr, i_ink⟩ (show 0 ≤ (2 : Int32).toInt ∧ (2 : Int32).toInt ≤ (f_size S).toInt ∧ (f_size S).toInt - (2 : Int32).toInt ≤ 39 by have := tI_2; omega)) (j_cV (k := 2) (C := "PageScribeModel") hts k_7_217 k_1_12 k_7_214 k_7_216 k_0_112 (by decide +kernel) ⟨Nat.le_of_ble_eq_true rfl, Nat.le_of_ble_eq_true rfl⟩) (jm_pre hK hP hD) rfl rfl hl.1 rfl (lv_room (Nat.le_of_ble_eq_true rfl)) d_Mo_sum_173 ⟨Nat.le_of_ble_eq_true rfl, Nat.le_of_ble_eq_true rfl⟩) (fun rv21 S19 H locs hw21 hP hD hS => ?_)
                      have hP : va_P D classes (mW T h0 ar S19) H := hP
                      have hD : va_D A (mW T h0 ar S19) := hD
                      obtain ⟨⟨i_size, i_taken, i_vals, i_room, i_dicts, i_deep, i_open, i_cells, i_points, i_part, i_length, i_knows, i_page, i_text, i_pats, i_fuel, i_fr, i_ink⟩, kpA_S19, kpF_S19, qqhw21⟩ := hw21
                      have kSA_S19 : kA S S19 := kA_t (show kA S S from (kA_r S)) kpA_S19
                      have kSF_S19 : kF S S19 := kF_t (show kF S S from (kF_r S)) kpF_S19
                      have kST_S19 : kT S S19 := kT_t (show kT S S from (kT_r S)) (kT_A kpA_S19)
                      have qhw21 : rv21.toInt = 0 ∨ rv21.toInt = 4 := by simpa only [tI_2] using qqhw21
                      exact j_iret F hr hlocks hK hS S19 ⟨⟨i_size, i_taken, i_vals, i_room, i_dicts, i_deep, i_open, i_cells, i_points, i_part, i_length, i_knows, i_page, i_text, i_pats, i_fuel, i_fr, i_ink⟩, kSA_S19, kSF_S19, (show rv21.toInt = 0 ∨ rv21.toInt = 4 ∨ rv21.toInt = 6 by omega)⟩ hP hD d_Mo_sum_176
                    · have fc159_2 : p0.toInt = 11 := zt_eq (show p0.toInt = _ from rfl) tI_11 c159_2
                      refine lv_lload_n hx hb d_Mo_sum_162 rfl (lv_at hl 3 rfl) ?_
                      refine lv_lload hx hb d_Mo_sum_163 (lv_at hl 2 rfl) ?_
                      refine lv_lsub hx hb d_Mo_sum_165 ?_
                      refine lv_topl (fun x29 ex29 => ?_)
                      refine lv_goto (tgt := 173) hx hb d_Mo_sum_166 (by decide) ?_
                      refine jm_ci (w := (fun u => u)) hK hP hD hS hA (va_runV (As := [.int 2, .long x29]) (rest := []) F (m_giveExact l D T h0 ar S (2 : Int32) x29 H.size ⟨i_size, i_taken, i_vals, i_room, i_dicts, i_deep, i_open, i_cells, i_points, i_part, i_length, i_knows, i_page, i_text, i_pats, i_fuel, i_fr, i_ink⟩ (show 0 ≤ (2 : Int32).toInt ∧ (2 : Int32).toInt ≤ (f_size S).toInt ∧ (f_size S).toInt - (2 : Int32).toInt ≤ 39 by have := tI_2; omega)) (j_cV (k := 2) (C := "PageScribeModel") hts k_7_217 k_1_12 k_7_214 k_7_216 k_0_112 (by decide +kernel) ⟨Nat.le_of_ble_eq_true rfl, Nat.le_of_ble_eq_true rfl⟩) (jm_pre hK hP hD) rfl rfl hl.1 rfl (lv_room (Nat.le_of_ble_eq_true rfl)) d_Mo_sum_173 ⟨Nat.le_of_ble_eq_true rfl, Nat.le_of_ble_eq_true rfl⟩) (fun rv22 S20 H locs hw22 hP hD hS => ?_)
                      have hP : va_P D classes (mW T h0 ar S20) H := hP
                      have hD : va_D A (mW T h0 ar S20) := hD
                      obtain ⟨⟨i_size, i_taken, i_vals, i_room, i_dicts, i_deep, i_open, i_cells, i_points, i_part, i_length, i_knows, i_page, i_text, i_pats, i_fuel, i_fr, i_ink⟩, kpA_S20, kpF_S20, qqhw22⟩ := hw22
                      have kSA_S20 : kA S S20 := kA_t (show kA S S from (kA_r S)) kpA_S20
                      have kSF_S20 : kF S S20 := kF_t (show kF S S from (kF_r S)) kpF_S20
                      have kST_S20 : kT S S20 := kT_t (show kT S S from (kT_r S)) (kT_A kpA_S20)
                      have qhw22 : rv22.toInt = 0 ∨ rv22.toInt = 4 := by simpa only [tI_2] using qqhw22
                      exact j_iret F hr hlocks hK hS S20 ⟨⟨i_size, i_taken, i_vals, i_room, i_dicts, i_deep, i_open, i_cells, i_points, i_part, i_length, i_knows, i_page, i_text, i_pats, i_fuel, i_fr, i_ink⟩, kSA_S20, kSF_S20, (show rv22.toInt = 0 ∨ rv22.toInt = 4 ∨ rv22.toInt = 6 by omega)⟩ hP hD d_Mo_sum_176
                  · have fc146_2 : p0.toInt = 10 := zt_eq (show p0.toInt = _ from rfl) tI_10 c146_2
                    refine lv_lload_n hx hb d_Mo_sum_149 rfl (lv_at hl 3 rfl) ?_
                    refine lv_lload hx hb d_Mo_sum_150 (lv_at hl 2 rfl) ?_
                    refine lv_ladd hx hb d_Mo_sum_152 ?_
                    refine lv_topl (fun x30 ex30 => ?_)
                    refine lv_goto (tgt := 173) hx hb d_Mo_sum_153 (by decide) ?_
                    refine jm_ci (w := (fun u => u)) hK hP hD hS hA (va_runV (As := [.int 2, .long x30]) (rest := []) F (m_giveExact l D T h0 ar S (2 : Int32) x30 H.size ⟨i_size, i_taken, i_vals, i_room, i_dicts, i_deep, i_open, i_cells, i_points, i_part, i_length, i_knows, i_page, i_text, i_pats, i_fuel, i_fr, i_ink⟩ (show 0 ≤ (2 : Int32).toInt ∧ (2 : Int32).toInt ≤ (f_size S).toInt ∧ (f_size S).toInt - (2 : Int32).toInt ≤ 39 by have := tI_2; omega)) (j_cV (k := 2) (C := "PageScribeModel") hts k_7_217 k_1_12 k_7_214 k_7_216 k_0_112 (by decide +kernel) ⟨Nat.le_of_ble_eq_true rfl, Nat.le_of_ble_eq_true rfl⟩) (jm_pre hK hP hD) rfl rfl hl.1 rfl (lv_room (Nat.le_of_ble_eq_true rfl)) d_Mo_sum_173 ⟨Nat.le_of_ble_eq_true rfl, Nat.le_of_ble_eq_true rfl⟩) (fun rv23 S21 H locs hw23 hP hD hS => ?_)
                    have hP : va_P D classes (mW T h0 ar S21) H := hP
                    have hD : va_D A (mW T h0 ar S21) := hD
                    obtain ⟨⟨i_size, i_taken, i_vals, i_room, i_dicts, i_deep, i_open, i_cells, i_points, i_part, i_length, i_knows, i_page, i_text, i_pats, i_fuel, i_fr, i_ink⟩, kpA_S21, kpF_S21, qqhw23⟩ := hw23
                    have kSA_S21 : kA S S21 := kA_t (show kA S S from (kA_r S)) kpA_S21
                    have kSF_S21 : kF S S21 := kF_t (show kF S S from (kF_r S)) kpF_S21
                    have kST_S21 : kT S S21 := kT_t (show kT S S from (kT_r S)) (kT_A kpA_S21)
                    have qhw23 : rv23.toInt = 0 ∨ rv23.toInt = 4 := by simpa only [tI_2] using qqhw23
                    exact j_iret F hr hlocks hK hS S21 ⟨⟨i_size, i_taken, i_vals, i_room, i_dicts, i_deep, i_open, i_cells, i_points, i_part, i_length, i_knows, i_page, i_text, i_pats, i_fuel, i_fr, i_ink⟩, kSA_S21, kSF_S21, (show rv23.toInt = 0 ∨ rv23.toInt = 4 ∨ rv23.toInt = 6 by omega)⟩ hP hD d_Mo_sum_176
            · have fc108_2 : p0.toInt = 15 := zt_eq (show p0.toInt = _ from rfl) tI_15 c108_2
              refine lv_aload_n hx hb d_Mo_sum_111 rfl (lv_at hl 5 rfl) ?_
              refine lv_iconst (v := 2) hx hb d_Mo_sum_112 (by decide) ?_
              refine lv_lload_n hx hb d_Mo_sum_113 rfl (lv_at hl 3 rfl) ?_
              refine lv_lload hx hb d_Mo_sum_114 (lv_at hl 2 rfl) ?_
              refine lv_lrem hx hb d_Mo_sum_116 (zu_n0 rfl (by omega)) ?_
              refine lv_topl (fun x31 ex31 => ?_)
              try have fx31 := zu_rem (show x3.toInt = _ from rfl) (show x4.toInt = _ from rfl) (show 1 ≤ x4.toInt by omega)
              try rw [← ex31] at fx31
              refine jm_ci (w := (fun u => u)) hK hP hD hS hA (va_runV (As := [.int 2, .long x31]) (rest := []) F (m_giveExact l D T h0 ar S (2 : Int32) x31 H.size ⟨i_size, i_taken, i_vals, i_room, i_dicts, i_deep, i_open, i_cells, i_points, i_part, i_length, i_knows, i_page, i_text, i_pats, i_fuel, i_fr, i_ink⟩ (show 0 ≤ (2 : Int32).toInt ∧ (2 : Int32).toInt ≤ (f_size S).toInt ∧ (f_size S).toInt - (2 : Int32).toInt ≤ 39 by have := tI_2; omega)) (j_cV (k := 2) (C := "PageScribeModel") hts k_7_217 k_1_12 k_7_214 k_7_216 k_0_112 (by decide +kernel) ⟨Nat.le_of_ble_eq_true rfl, Nat.le_of_ble_eq_true rfl⟩) (jm_pre hK hP hD) rfl rfl hl.1 rfl (lv_room (Nat.le_of_ble_eq_true rfl)) d_Mo_sum_117 ⟨Nat.le_of_ble_eq_true rfl, Nat.le_of_ble_eq_true rfl⟩) (fun rv24 S22 H locs hw24 hP hD hS => ?_)
              have hP : va_P D classes (mW T h0 ar S22) H := hP
              have hD : va_D A (mW T h0 ar S22) := hD
              obtain ⟨⟨i_size, i_taken, i_vals, i_room, i_dicts, i_deep, i_open, i_cells, i_points, i_part, i_length, i_knows, i_page, i_text, i_pats, i_fuel, i_fr, i_ink⟩, kpA_S22, kpF_S22, qqhw24⟩ := hw24
              have kSA_S22 : kA S S22 := kA_t (show kA S S from (kA_r S)) kpA_S22
              have kSF_S22 : kF S S22 := kF_t (show kF S S from (kF_r S)) kpF_S22
              have kST_S22 : kT S S22 := kT_t (show kT S S from (kT_r S)) (kT_A kpA_S22)
              have qhw24 : rv24.toInt = 0 ∨ rv24.toInt = 4 := by simpa only [tI_2] using qqhw24
              exact j_iret F hr hlocks hK hS S22 ⟨⟨i_size, i_taken, i_vals, i_room, i_dicts, i_deep, i_open, i_cells, i_points, i_part, i_length, i_knows, i_page, i_text, i_pats, i_fuel, i_fr, i_ink⟩, kSA_S22, kSF_S22, (show rv24.toInt = 0 ∨ rv24.toInt = 4 ∨ rv24.toInt = 6 by omega)⟩ hP hD d_Mo_sum_120
          · have fc92_2 : p0.toInt = 14 := zt_eq (show p0.toInt = _ from rfl) tI_14 c92_2
            refine lv_aload_n hx hb d_Mo_sum_95 rfl (lv_at hl 5 rfl) ?_
            refine lv_iconst (v := 2) hx hb d_Mo_sum_96 (by decide) ?_
            refine lv_lload_n hx hb d_Mo_sum_97 rfl (lv_at hl 3 rfl) ?_
            refine lv_lload hx hb d_Mo_sum_98 (lv_at hl 2 rfl) ?_
            refine lv_ldiv hx hb d_Mo_sum_100 (zu_n0 rfl (by omega)) ?_
            refine lv_topl (fun x32 ex32 => ?_)
            refine jm_ci (w := (fun u => u)) hK hP hD hS hA (va_runV (As := [.int 2, .long x32]) (rest := []) F (m_giveExact l D T h0 ar S (2 : Int32) x32 H.size ⟨i_size, i_taken, i_vals, i_room, i_dicts, i_deep, i_open, i_cells, i_points, i_part, i_length, i_knows, i_page, i_text, i_pats, i_fuel, i_fr, i_ink⟩ (show 0 ≤ (2 : Int32).toInt ∧ (2 : Int32).toInt ≤ (f_size S).toInt ∧ (f_size S).toInt - (2 : Int32).toInt ≤ 39 by have := tI_2; omega)) (j_cV (k := 2) (C := "PageScribeModel") hts k_7_217 k_1_12 k_7_214 k_7_216 k_0_112 (by decide +kernel) ⟨Nat.le_of_ble_eq_true rfl, Nat.le_of_ble_eq_true rfl⟩) (jm_pre hK hP hD) rfl rfl hl.1 rfl (lv_room (Nat.le_of_ble_eq_true rfl)) d_Mo_sum_101 ⟨Nat.le_of_ble_eq_true rfl, Nat.le_of_ble_eq_true rfl⟩) (fun rv25 S23 H locs hw25 hP hD hS => ?_)
            have hP : va_P D classes (mW T h0 ar S23) H := hP
            have hD : va_D A (mW T h0 ar S23) := hD
            obtain ⟨⟨i_size, i_taken, i_vals, i_room, i_dicts, i_deep, i_open, i_cells, i_points, i_part, i_length, i_knows, i_page, i_text, i_pats, i_fuel, i_fr, i_ink⟩, kpA_S23, kpF_S23, qqhw25⟩ := hw25
            have kSA_S23 : kA S S23 := kA_t (show kA S S from (kA_r S)) kpA_S23
            have kSF_S23 : kF S S23 := kF_t (show kF S S from (kF_r S)) kpF_S23
            have kST_S23 : kT S S23 := kT_t (show kT S S from (kT_r S)) (kT_A kpA_S23)
            have qhw25 : rv25.toInt = 0 ∨ rv25.toInt = 4 := by simpa only [tI_2] using qqhw25
            exact j_iret F hr hlocks hK hS S23 ⟨⟨i_size, i_taken, i_vals, i_room, i_dicts, i_deep, i_open, i_cells, i_points, i_part, i_length, i_knows, i_page, i_text, i_pats, i_fuel, i_fr, i_ink⟩, kSA_S23, kSF_S23, (show rv25.toInt = 0 ∨ rv25.toInt = 4 ∨ rv25.toInt = 6 by omega)⟩ hP hD d_Mo_sum_104
        · have fc75_2 : p0.toInt = 13 := zt_eq (show p0.toInt = _ from rfl) tI_13 c75_2
          refine lv_aload_n hx hb d_Mo_sum_78 rfl (lv_at hl 5 rfl) ?_
          refine lv_iconst (v := 2) hx hb d_Mo_sum_79 (by decide) ?_
          refine lv_dload hx hb d_Mo_sum_80 (lv_at hl 1 rfl) ?_
          refine lv_dload hx hb d_Mo_sum_82 (lv_at hl 0 rfl) ?_
          have n84 := (zd_div (show dF rv1 by omega) (show dF rv2 by omega) (by omega))
          refine lv_ddiv hx hb d_Mo_sum_84 (vf_N n84) ?_
          refine lv_topd (fun x33 ex33 => ?_)
          rw [show FP.ddiv rv1 rv2 = x33 from ex33.symm] at n84
          refine jm_ci (w := (fun u => u)) hK hP hD hS hA (va_runV (As := [.int 2, .double x33]) (rest := []) F (m_giveReal l D T h0 ar S (2 : Int32) x33 H.size ⟨i_size, i_taken, i_vals, i_room, i_dicts, i_deep, i_open, i_cells, i_points, i_part, i_length, i_knows, i_page, i_text, i_pats, i_fuel, i_fr, i_ink⟩ (show 0 ≤ (2 : Int32).toInt ∧ (2 : Int32).toInt ≤ (f_size S).toInt ∧ (f_size S).toInt - (2 : Int32).toInt ≤ 39 by have := tI_2; omega) (show dN x33 by have := tI_2; omega)) (j_cV (k := 2) (C := "PageScribeModel") hts k_7_211 k_1_12 k_7_208 k_7_210 k_0_111 (by decide +kernel) ⟨Nat.le_of_ble_eq_true rfl, Nat.le_of_ble_eq_true rfl⟩) (jm_pre hK hP hD) rfl rfl hl.1 rfl (lv_room (Nat.le_of_ble_eq_true rfl)) d_Mo_sum_85 ⟨Nat.le_of_ble_eq_true rfl, Nat.le_of_ble_eq_true rfl⟩) (fun rv26 S24 H locs hw26 hP hD hS => ?_)
          have hP : va_P D classes (mW T h0 ar S24) H := hP
          have hD : va_D A (mW T h0 ar S24) := hD
          obtain ⟨⟨i_size, i_taken, i_vals, i_room, i_dicts, i_deep, i_open, i_cells, i_points, i_part, i_length, i_knows, i_page, i_text, i_pats, i_fuel, i_fr, i_ink⟩, kpA_S24, kpF_S24, qqhw26⟩ := hw26
          have kSA_S24 : kA S S24 := kA_t (show kA S S from (kA_r S)) kpA_S24
          have kSF_S24 : kF S S24 := kF_t (show kF S S from (kF_r S)) kpF_S24
          have kST_S24 : kT S S24 := kT_t (show kT S S from (kT_r S)) (kT_A kpA_S24)
          have qhw26 : rv26.toInt = 0 ∨ rv26.toInt = 4 := by simpa only [tI_2] using qqhw26
          exact j_iret F hr hlocks hK hS S24 ⟨⟨i_size, i_taken, i_vals, i_room, i_dicts, i_deep, i_open, i_cells, i_points, i_part, i_length, i_knows, i_page, i_text, i_pats, i_fuel, i_fr, i_ink⟩, kSA_S24, kSF_S24, (show rv26.toInt = 0 ∨ rv26.toInt = 4 ∨ rv26.toInt = 6 by omega)⟩ hP hD d_Mo_sum_88
      · have fc66_1 : x19.toInt = 0 := zt_eq (show x19.toInt = _ from rfl) tI_0 c66_1
        have vc66_1 : x4.toInt = 0 := by have := zr_cmp ex19 (show x4.toInt = _ from rfl) tJ_0; have := zt_eq (show x19.toInt = _ from rfl) tI_0 c66_1; omega
        refine lv_bipush (v := 6) hx hb d_Mo_sum_69 (by decide) ?_
        exact j_iret F hr hlocks hK hS S ⟨⟨i_size, i_taken, i_vals, i_room, i_dicts, i_deep, i_open, i_cells, i_points, i_part, i_length, i_knows, i_page, i_text, i_pats, i_fuel, i_fr, i_ink⟩, (kA_r S), (kF_r S), (show (6 : Int32).toInt = 0 ∨ (6 : Int32).toInt = 4 ∨ (6 : Int32).toInt = 6 by have := tI_6; omega)⟩ hP hD d_Mo_sum_71
    · have fc49_1 : p0.toInt = 13 := zt_eq (show p0.toInt = _ from rfl) tI_13 c49_1
      refine lv_dload hx hb d_Mo_sum_52 (lv_at hl 0 rfl) ?_
      refine lv_dconst0 hx hb d_Mo_sum_54 ?_
      have := tD_0
      refine lv_dcmp hx hb d_Mo_sum_55 ?_
      refine lv_topi (fun x34 ex34 => ?_)
      refine lv_if_ne (tgt := 72) hx hb d_Mo_sum_56 (by decide) (fun c56_1 => ?_) (fun c56_1 => ?_)
      · first | have fc56_1 : x34.toInt < 0 := (by have := zt_ne (show x34.toInt = _ from rfl) tI_0 c56_1; omega) | have fc56_1 : 0 < x34.toInt := (by have := zt_ne (show x34.toInt = _ from rfl) tI_0 c56_1; omega) | skip
        have vc56_1 : ¬ dk rv2 = dk 0 := by have := zr_dcmp (a := rv2) (b := 0) ex34 (show dN rv2 by omega) (show dN 0 by omega); have := zt_ne (show x34.toInt = _ from rfl) tI_0 c56_1; omega
        refine lv_iload_n hx hb d_Mo_sum_72 rfl (lv_at hl 6 rfl) ?_
        refine lv_bipush (v := 13) hx hb d_Mo_sum_73 (by decide) ?_
        refine lv_icmp_ne (tgt := 89) hx hb d_Mo_sum_75 (by decide) (fun c75_3 => ?_) (fun c75_3 => ?_)
        · first | have fc75_3 : p0.toInt < 13 := (by have := zt_ne (show p0.toInt = _ from rfl) tI_13 c75_3; omega) | have fc75_3 : 13 < p0.toInt := (by have := zt_ne (show p0.toInt = _ from rfl) tI_13 c75_3; omega) | skip
          refine lv_iload_n hx hb d_Mo_sum_89 rfl (lv_at hl 6 rfl) ?_
          refine lv_bipush (v := 14) hx hb d_Mo_sum_90 (by decide) ?_
          refine lv_icmp_ne (tgt := 105) hx hb d_Mo_sum_92 (by decide) (fun c92_3 => ?_) (fun c92_3 => ?_)
          · first | have fc92_3 : p0.toInt < 14 := (by have := zt_ne (show p0.toInt = _ from rfl) tI_14 c92_3; omega) | have fc92_3 : 14 < p0.toInt := (by have := zt_ne (show p0.toInt = _ from rfl) tI_14 c92_3; omega) | skip
            refine lv_iload_n hx hb d_Mo_sum_105 rfl (lv_at hl 6 rfl) ?_
            refine lv_bipush (v := 15) hx hb d_Mo_sum_106 (by decide) ?_
            refine lv_icmp_ne (tgt := 121) hx hb d_Mo_sum_108 (by decide) (fun c108_3 => ?_) (fun c108_3 => ?_)
            · first | have fc108_3 : p0.toInt < 15 := (by have := zt_ne (show p0.toInt = _ from rfl) tI_15 c108_3; omega) | have fc108_3 : 15 < p0.toInt := (by have := zt_ne (show p0.toInt = _ from rfl) tI_15 c108_3; omega) | skip
              refine lv_aload_n hx hb d_Mo_sum_121 rfl (lv_at hl 5 rfl) ?_
              refine va_get (D := D) (ci := 11) (v := .ref (ar 0)) (C := "PageScribeModel") (T := F_Mo) (N := 45) hx hb hts i_Mo hown hK hP 0 mW_0 cl_11 1 (by decide) (hts _ k_6_161) (fun _ h9 => h9) (mg_kinds _ _) d_Mo_sum_122 ?_
              refine lv_iload_n hx hb d_Mo_sum_125 rfl (lv_at hl 4 rfl) ?_
              refine va_iald hx hb hK hP 1 0 (ma_kinds _ _ _ _) rfl (zt_in fx1 (by omega) (by omega)) d_Mo_sum_126 ?_
              refine lv_topi (fun x35 ex35 => ?_)
              have gx35 : x35 = (a_kinds S) ((f_size S).toInt - 1).toNat := ex35.trans (congrArg _ (zt_ix fx1))
              have fx35 : x35.toInt = ((a_kinds S) ((f_size S).toInt - 1).toNat).toInt := by rw [gx35]
              have kx35 : vOk ((a_kinds S) ((f_size S).toInt - 1).toNat) ((a_codes S) ((f_size S).toInt - 1).toNat) ((a_reals S) ((f_size S).toInt - 1).toNat) := i_vals (((f_size S).toInt - 1).toNat) (by omega)
              have rx35 := vk_rng kx35
              refine lv_if_ne (tgt := 177) hx hb d_Mo_sum_127 (by decide) (fun c127_3 => ?_) (fun c127_3 => ?_)
              · first | have fc127_3 : x35.toInt < 0 := (by have := zt_ne (show x35.toInt = _ from rfl) tI_0 c127_3; omega) | have fc127_3 : 0 < x35.toInt := (by have := zt_ne (show x35.toInt = _ from rfl) tI_0 c127_3; omega) | skip
                refine lv_aload_n hx hb d_Mo_sum_177 rfl (lv_at hl 5 rfl) ?_
                refine lv_iconst (v := 2) hx hb d_Mo_sum_178 (by decide) ?_
                refine lv_iload_n hx hb d_Mo_sum_179 rfl (lv_at hl 6 rfl) ?_
                refine lv_bipush (v := 10) hx hb d_Mo_sum_180 (by decide) ?_
                refine lv_icmp_ne (tgt := 193) hx hb d_Mo_sum_182 (by decide) (fun c182_5 => ?_) (fun c182_5 => ?_)
                · first | have fc182_5 : p0.toInt < 10 := (by have := zt_ne (show p0.toInt = _ from rfl) tI_10 c182_5; omega) | have fc182_5 : 10 < p0.toInt := (by have := zt_ne (show p0.toInt = _ from rfl) tI_10 c182_5; omega) | skip
                  refine lv_iload_n hx hb d_Mo_sum_193 rfl (lv_at hl 6 rfl) ?_
                  refine lv_bipush (v := 11) hx hb d_Mo_sum_194 (by decide) ?_
                  refine lv_icmp_ne (tgt := 207) hx hb d_Mo_sum_196 (by decide) (fun c196_5 => ?_) (fun c196_5 => ?_)
                  · first | have fc196_5 : p0.toInt < 11 := (by have := zt_ne (show p0.toInt = _ from rfl) tI_11 c196_5; omega) | have fc196_5 : 11 < p0.toInt := (by have := zt_ne (show p0.toInt = _ from rfl) tI_11 c196_5; omega) | skip
                    refine lv_dload hx hb d_Mo_sum_207 (lv_at hl 1 rfl) ?_
                    refine lv_dload hx hb d_Mo_sum_209 (lv_at hl 0 rfl) ?_
                    have n211 := (zd_mul (show dF rv1 by omega) (show dF rv2 by omega))
                    refine lv_dmul hx hb d_Mo_sum_211 (vf_N n211) ?_
                    refine lv_topd (fun x36 ex36 => ?_)
                    rw [show FP.dmul rv1 rv2 = x36 from ex36.symm] at n211
                    refine jm_ci (w := (fun u => u)) hK hP hD hS hA (va_runV (As := [.int 2, .double x36]) (rest := []) F (m_giveReal l D T h0 ar S (2 : Int32) x36 H.size ⟨i_size, i_taken, i_vals, i_room, i_dicts, i_deep, i_open, i_cells, i_points, i_part, i_length, i_knows, i_page, i_text, i_pats, i_fuel, i_fr, i_ink⟩ (show 0 ≤ (2 : Int32).toInt ∧ (2 : Int32).toInt ≤ (f_size S).toInt ∧ (f_size S).toInt - (2 : Int32).toInt ≤ 39 by have := tI_2; omega) (show dN x36 by have := tI_2; omega)) (j_cV (k := 2) (C := "PageScribeModel") hts k_7_211 k_1_12 k_7_208 k_7_210 k_0_111 (by decide +kernel) ⟨Nat.le_of_ble_eq_true rfl, Nat.le_of_ble_eq_true rfl⟩) (jm_pre hK hP hD) rfl rfl hl.1 rfl (lv_room (Nat.le_of_ble_eq_true rfl)) d_Mo_sum_212 ⟨Nat.le_of_ble_eq_true rfl, Nat.le_of_ble_eq_true rfl⟩) (fun rv27 S25 H locs hw27 hP hD hS => ?_)
                    have hP : va_P D classes (mW T h0 ar S25) H := hP
                    have hD : va_D A (mW T h0 ar S25) := hD
                    obtain ⟨⟨i_size, i_taken, i_vals, i_room, i_dicts, i_deep, i_open, i_cells, i_points, i_part, i_length, i_knows, i_page, i_text, i_pats, i_fuel, i_fr, i_ink⟩, kpA_S25, kpF_S25, qqhw27⟩ := hw27
                    have kSA_S25 : kA S S25 := kA_t (show kA S S from (kA_r S)) kpA_S25
                    have kSF_S25 : kF S S25 := kF_t (show kF S S from (kF_r S)) kpF_S25
                    have kST_S25 : kT S S25 := kT_t (show kT S S from (kT_r S)) (kT_A kpA_S25)
                    have qhw27 : rv27.toInt = 0 ∨ rv27.toInt = 4 := by simpa only [tI_2] using qqhw27
                    exact j_iret F hr hlocks hK hS S25 ⟨⟨i_size, i_taken, i_vals, i_room, i_dicts, i_deep, i_open, i_cells, i_points, i_part, i_length, i_knows, i_page, i_text, i_pats, i_fuel, i_fr, i_ink⟩, kSA_S25, kSF_S25, (show rv27.toInt = 0 ∨ rv27.toInt = 4 ∨ rv27.toInt = 6 by omega)⟩ hP hD d_Mo_sum_215
                  · have fc196_5 : p0.toInt = 11 := zt_eq (show p0.toInt = _ from rfl) tI_11 c196_5
                    refine lv_dload hx hb d_Mo_sum_199 (lv_at hl 1 rfl) ?_
                    refine lv_dload hx hb d_Mo_sum_201 (lv_at hl 0 rfl) ?_
                    have n203 := (zd_sub (show dF rv1 by omega) (show dF rv2 by omega))
                    try have o203 := zd_subB (show dB rv1 by omega) (show dB rv2 by omega)
                    refine lv_dsub hx hb d_Mo_sum_203 (vf_N n203) ?_
                    refine lv_topd (fun x37 ex37 => ?_)
                    rw [show FP.dsub rv1 rv2 = x37 from ex37.symm] at n203
                    try rw [show FP.dsub rv1 rv2 = x37 from ex37.symm] at o203
                    refine lv_goto (tgt := 212) hx hb d_Mo_sum_204 (by decide) ?_
                    refine jm_ci (w := (fun u => u)) hK hP hD hS hA (va_runV (As := [.int 2, .double x37]) (rest := []) F (m_giveReal l D T h0 ar S (2 : Int32) x37 H.size ⟨i_size, i_taken, i_vals, i_room, i_dicts, i_deep, i_open, i_cells, i_points, i_part, i_length, i_knows, i_page, i_text, i_pats, i_fuel, i_fr, i_ink⟩ (show 0 ≤ (2 : Int32).toInt ∧ (2 : Int32).toInt ≤ (f_size S).toInt ∧ (f_size S).toInt - (2 : Int32).toInt ≤ 39 by have := tI_2; omega) (show dN x37 by have := tI_2; omega)) (j_cV (k := 2) (C := "PageScribeModel") hts k_7_211 k_1_12 k_7_208 k_7_210 k_0_111 (by decide +kernel) ⟨Nat.le_of_ble_eq_true rfl, Nat.le_of_ble_eq_true rfl⟩) (jm_pre hK hP hD) rfl rfl hl.1 rfl (lv_room (Nat.le_of_ble_eq_true rfl)) d_Mo_sum_212 ⟨Nat.le_of_ble_eq_true rfl, Nat.le_of_ble_eq_true rfl⟩) (fun rv28 S26 H locs hw28 hP hD hS => ?_)
                    have hP : va_P D classes (mW T h0 ar S26) H := hP
                    have hD : va_D A (mW T h0 ar S26) := hD
                    obtain ⟨⟨i_size, i_taken, i_vals, i_room, i_dicts, i_deep, i_open, i_cells, i_points, i_part, i_length, i_knows, i_page, i_text, i_pats, i_fuel, i_fr, i_ink⟩, kpA_S26, kpF_S26, qqhw28⟩ := hw28
                    have kSA_S26 : kA S S26 := kA_t (show kA S S from (kA_r S)) kpA_S26
                    have kSF_S26 : kF S S26 := kF_t (show kF S S from (kF_r S)) kpF_S26
                    have kST_S26 : kT S S26 := kT_t (show kT S S from (kT_r S)) (kT_A kpA_S26)
                    have qhw28 : rv28.toInt = 0 ∨ rv28.toInt = 4 := by simpa only [tI_2] using qqhw28
                    exact j_iret F hr hlocks hK hS S26 ⟨⟨i_size, i_taken, i_vals, i_room, i_dicts, i_deep, i_open, i_cells, i_points, i_part, i_length, i_knows, i_page, i_text, i_pats, i_fuel, i_fr, i_ink⟩, kSA_S26, kSF_S26, (show rv28.toInt = 0 ∨ rv28.toInt = 4 ∨ rv28.toInt = 6 by omega)⟩ hP hD d_Mo_sum_215
                · have fc182_5 : p0.toInt = 10 := zt_eq (show p0.toInt = _ from rfl) tI_10 c182_5
                  refine lv_dload hx hb d_Mo_sum_185 (lv_at hl 1 rfl) ?_
                  refine lv_dload hx hb d_Mo_sum_187 (lv_at hl 0 rfl) ?_
                  have n189 := (zd_add (show dF rv1 by omega) (show dF rv2 by omega))
                  try have o189 := zd_addB (show dB rv1 by omega) (show dB rv2 by omega)
                  refine lv_dadd hx hb d_Mo_sum_189 (vf_N n189) ?_
                  refine lv_topd (fun x38 ex38 => ?_)
                  rw [show FP.dadd rv1 rv2 = x38 from ex38.symm] at n189
                  try rw [show FP.dadd rv1 rv2 = x38 from ex38.symm] at o189
                  refine lv_goto (tgt := 212) hx hb d_Mo_sum_190 (by decide) ?_
                  refine jm_ci (w := (fun u => u)) hK hP hD hS hA (va_runV (As := [.int 2, .double x38]) (rest := []) F (m_giveReal l D T h0 ar S (2 : Int32) x38 H.size ⟨i_size, i_taken, i_vals, i_room, i_dicts, i_deep, i_open, i_cells, i_points, i_part, i_length, i_knows, i_page, i_text, i_pats, i_fuel, i_fr, i_ink⟩ (show 0 ≤ (2 : Int32).toInt ∧ (2 : Int32).toInt ≤ (f_size S).toInt ∧ (f_size S).toInt - (2 : Int32).toInt ≤ 39 by have := tI_2; omega) (show dN x38 by have := tI_2; omega)) (j_cV (k := 2) (C := "PageScribeModel") hts k_7_211 k_1_12 k_7_208 k_7_210 k_0_111 (by decide +kernel) ⟨Nat.le_of_ble_eq_true rfl, Nat.le_of_ble_eq_true rfl⟩) (jm_pre hK hP hD) rfl rfl hl.1 rfl (lv_room (Nat.le_of_ble_eq_true rfl)) d_Mo_sum_212 ⟨Nat.le_of_ble_eq_true rfl, Nat.le_of_ble_eq_true rfl⟩) (fun rv29 S27 H locs hw29 hP hD hS => ?_)
                  have hP : va_P D classes (mW T h0 ar S27) H := hP
                  have hD : va_D A (mW T h0 ar S27) := hD
                  obtain ⟨⟨i_size, i_taken, i_vals, i_room, i_dicts, i_deep, i_open, i_cells, i_points, i_part, i_length, i_knows, i_page, i_text, i_pats, i_fuel, i_fr, i_ink⟩, kpA_S27, kpF_S27, qqhw29⟩ := hw29
                  have kSA_S27 : kA S S27 := kA_t (show kA S S from (kA_r S)) kpA_S27
                  have kSF_S27 : kF S S27 := kF_t (show kF S S from (kF_r S)) kpF_S27
                  have kST_S27 : kT S S27 := kT_t (show kT S S from (kT_r S)) (kT_A kpA_S27)
                  have qhw29 : rv29.toInt = 0 ∨ rv29.toInt = 4 := by simpa only [tI_2] using qqhw29
                  exact j_iret F hr hlocks hK hS S27 ⟨⟨i_size, i_taken, i_vals, i_room, i_dicts, i_deep, i_open, i_cells, i_points, i_part, i_length, i_knows, i_page, i_text, i_pats, i_fuel, i_fr, i_ink⟩, kSA_S27, kSF_S27, (show rv29.toInt = 0 ∨ rv29.toInt = 4 ∨ rv29.toInt = 6 by omega)⟩ hP hD d_Mo_sum_215
              · have fc127_3 : x35.toInt = 0 := zt_eq (show x35.toInt = _ from rfl) tI_0 c127_3
                refine lv_aload_n hx hb d_Mo_sum_130 rfl (lv_at hl 5 rfl) ?_
                refine va_get (D := D) (ci := 11) (v := .ref (ar 0)) (C := "PageScribeModel") (T := F_Mo) (N := 45) hx hb hts i_Mo hown hK hP 0 mW_0 cl_11 1 (by decide) (hts _ k_6_161) (fun _ h9 => h9) (mg_kinds _ _) d_Mo_sum_131 ?_
                refine lv_iload_n hx hb d_Mo_sum_134 rfl (lv_at hl 4 rfl) ?_
                refine lv_iconst (v := 1) hx hb d_Mo_sum_135 (by decide) ?_
                refine lv_isub hx hb d_Mo_sum_136 ?_
                refine j_eqi (y := x2) ex2.symm ?_
                refine va_iald hx hb hK hP 1 0 (ma_kinds _ _ _ _) rfl (zt_in fx2 (by omega) (by omega)) d_Mo_sum_137 ?_
                refine lv_topi (fun x39 ex39 => ?_)
                have gx39 : x39 = (a_kinds S) ((f_size S).toInt - 2).toNat := ex39.trans (congrArg _ (zt_ix fx2))
                have fx39 : x39.toInt = ((a_kinds S) ((f_size S).toInt - 2).toNat).toInt := by rw [gx39]
                have kx39 : vOk ((a_kinds S) ((f_size S).toInt - 2).toNat) ((a_codes S) ((f_size S).toInt - 2).toNat) ((a_reals S) ((f_size S).toInt - 2).toNat) := i_vals (((f_size S).toInt - 2).toNat) (by omega)
                have rx39 := vk_rng kx39
                refine lv_if_ne (tgt := 177) hx hb d_Mo_sum_138 (by decide) (fun c138_3 => ?_) (fun c138_3 => ?_)
                · first | have fc138_3 : x39.toInt < 0 := (by have := zt_ne (show x39.toInt = _ from rfl) tI_0 c138_3; omega) | have fc138_3 : 0 < x39.toInt := (by have := zt_ne (show x39.toInt = _ from rfl) tI_0 c138_3; omega) | skip
                  refine lv_aload_n hx hb d_Mo_sum_177 rfl (lv_at hl 5 rfl) ?_
                  refine lv_iconst (v := 2) hx hb d_Mo_sum_178 (by decide) ?_
                  refine lv_iload_n hx hb d_Mo_sum_179 rfl (lv_at hl 6 rfl) ?_
                  refine lv_bipush (v := 10) hx hb d_Mo_sum_180 (by decide) ?_
                  refine lv_icmp_ne (tgt := 193) hx hb d_Mo_sum_182 (by decide) (fun c182_6 => ?_) (fun c182_6 => ?_)
                  · first | have fc182_6 : p0.toInt < 10 := (by have := zt_ne (show p0.toInt = _ from rfl) tI_10 c182_6; omega) | have fc182_6 : 10 < p0.toInt := (by have := zt_ne (show p0.toInt = _ from rfl) tI_10 c182_6; omega) | skip
                    refine lv_iload_n hx hb d_Mo_sum_193 rfl (lv_at hl 6 rfl) ?_
                    refine lv_bipush (v := 11) hx hb d_Mo_sum_194 (by decide) ?_
                    refine lv_icmp_ne (tgt := 207) hx hb d_Mo_sum_196 (by decide) (fun c196_6 => ?_) (fun c196_6 => ?_)
                    · first | have fc196_6 : p0.toInt < 11 := (by have := zt_ne (show p0.toInt = _ from rfl) tI_11 c196_6; omega) | have fc196_6 : 11 < p0.toInt := (by have := zt_ne (show p0.toInt = _ from rfl) tI_11 c196_6; omega) | skip
                      refine lv_dload hx hb d_Mo_sum_207 (lv_at hl 1 rfl) ?_
                      refine lv_dload hx hb d_Mo_sum_209 (lv_at hl 0 rfl) ?_
                      have n211 := (zd_mul (show dF rv1 by omega) (show dF rv2 by omega))
                      refine lv_dmul hx hb d_Mo_sum_211 (vf_N n211) ?_
                      refine lv_topd (fun x40 ex40 => ?_)
                      rw [show FP.dmul rv1 rv2 = x40 from ex40.symm] at n211
                      refine jm_ci (w := (fun u => u)) hK hP hD hS hA (va_runV (As := [.int 2, .double x40]) (rest := []) F (m_giveReal l D T h0 ar S (2 : Int32) x40 H.size ⟨i_size, i_taken, i_vals, i_room, i_dicts, i_deep, i_open, i_cells, i_points, i_part, i_length, i_knows, i_page, i_text, i_pats, i_fuel, i_fr, i_ink⟩ (show 0 ≤ (2 : Int32).toInt ∧ (2 : Int32).toInt ≤ (f_size S).toInt ∧ (f_size S).toInt - (2 : Int32).toInt ≤ 39 by have := tI_2; omega) (show dN x40 by have := tI_2; omega)) (j_cV (k := 2) (C := "PageScribeModel") hts k_7_211 k_1_12 k_7_208 k_7_210 k_0_111 (by decide +kernel) ⟨Nat.le_of_ble_eq_true rfl, Nat.le_of_ble_eq_true rfl⟩) (jm_pre hK hP hD) rfl rfl hl.1 rfl (lv_room (Nat.le_of_ble_eq_true rfl)) d_Mo_sum_212 ⟨Nat.le_of_ble_eq_true rfl, Nat.le_of_ble_eq_true rfl⟩) (fun rv30 S28 H locs hw30 hP hD hS => ?_)
                      have hP : va_P D classes (mW T h0 ar S28) H := hP
                      have hD : va_D A (mW T h0 ar S28) := hD
                      obtain ⟨⟨i_size, i_taken, i_vals, i_room, i_dicts, i_deep, i_open, i_cells, i_points, i_part, i_length, i_knows, i_page, i_text, i_pats, i_fuel, i_fr, i_ink⟩, kpA_S28, kpF_S28, qqhw30⟩ := hw30
                      have kSA_S28 : kA S S28 := kA_t (show kA S S from (kA_r S)) kpA_S28
                      have kSF_S28 : kF S S28 := kF_t (show kF S S from (kF_r S)) kpF_S28
                      have kST_S28 : kT S S28 := kT_t (show kT S S from (kT_r S)) (kT_A kpA_S28)
                      have qhw30 : rv30.toInt = 0 ∨ rv30.toInt = 4 := by simpa only [tI_2] using qqhw30
                      exact j_iret F hr hlocks hK hS S28 ⟨⟨i_size, i_taken, i_vals, i_room, i_dicts, i_deep, i_open, i_cells, i_points, i_part, i_length, i_knows, i_page, i_text, i_pats, i_fuel, i_fr, i_ink⟩, kSA_S28, kSF_S28, (show rv30.toInt = 0 ∨ rv30.toInt = 4 ∨ rv30.toInt = 6 by omega)⟩ hP hD d_Mo_sum_215
                    · have fc196_6 : p0.toInt = 11 := zt_eq (show p0.toInt = _ from rfl) tI_11 c196_6
                      refine lv_dload hx hb d_Mo_sum_199 (lv_at hl 1 rfl) ?_
                      refine lv_dload hx hb d_Mo_sum_201 (lv_at hl 0 rfl) ?_
                      have n203 := (zd_sub (show dF rv1 by omega) (show dF rv2 by omega))
                      try have o203 := zd_subB (show dB rv1 by omega) (show dB rv2 by omega)
                      refine lv_dsub hx hb d_Mo_sum_203 (vf_N n203) ?_
                      refine lv_topd (fun x41 ex41 => ?_)
                      rw [show FP.dsub rv1 rv2 = x41 from ex41.symm] at n203
                      try rw [show FP.dsub rv1 rv2 = x41 from ex41.symm] at o203
                      refine lv_goto (tgt := 212) hx hb d_Mo_sum_204 (by decide) ?_
                      refine jm_ci (w := (fun u => u)) hK hP hD hS hA (va_runV (As := [.int 2, .double x41]) (rest := []) F (m_giveReal l D T h0 ar S (2 : Int32) x41 H.size ⟨i_size, i_taken, i_vals, i_room, i_dicts, i_deep, i_open, i_cells, i_points, i_part, i_length, i_knows, i_page, i_text, i_pats, i_fuel, i_fr, i_ink⟩ (show 0 ≤ (2 : Int32).toInt ∧ (2 : Int32).toInt ≤ (f_size S).toInt ∧ (f_size S).toInt - (2 : Int32).toInt ≤ 39 by have := tI_2; omega) (show dN x41 by have := tI_2; omega)) (j_cV (k := 2) (C := "PageScribeModel") hts k_7_211 k_1_12 k_7_208 k_7_210 k_0_111 (by decide +kernel) ⟨Nat.le_of_ble_eq_true rfl, Nat.le_of_ble_eq_true rfl⟩) (jm_pre hK hP hD) rfl rfl hl.1 rfl (lv_room (Nat.le_of_ble_eq_true rfl)) d_Mo_sum_212 ⟨Nat.le_of_ble_eq_true rfl, Nat.le_of_ble_eq_true rfl⟩) (fun rv31 S29 H locs hw31 hP hD hS => ?_)
                      have hP : va_P D classes (mW T h0 ar S29) H := hP
                      have hD : va_D A (mW T h0 ar S29) := hD
                      obtain ⟨⟨i_size, i_taken, i_vals, i_room, i_dicts, i_deep, i_open, i_cells, i_points, i_part, i_length, i_knows, i_page, i_text, i_pats, i_fuel, i_fr, i_ink⟩, kpA_S29, kpF_S29, qqhw31⟩ := hw31
                      have kSA_S29 : kA S S29 := kA_t (show kA S S from (kA_r S)) kpA_S29
                      have kSF_S29 : kF S S29 := kF_t (show kF S S from (kF_r S)) kpF_S29
                      have kST_S29 : kT S S29 := kT_t (show kT S S from (kT_r S)) (kT_A kpA_S29)
                      have qhw31 : rv31.toInt = 0 ∨ rv31.toInt = 4 := by simpa only [tI_2] using qqhw31
                      exact j_iret F hr hlocks hK hS S29 ⟨⟨i_size, i_taken, i_vals, i_room, i_dicts, i_deep, i_open, i_cells, i_points, i_part, i_length, i_knows, i_page, i_text, i_pats, i_fuel, i_fr, i_ink⟩, kSA_S29, kSF_S29, (show rv31.toInt = 0 ∨ rv31.toInt = 4 ∨ rv31.toInt = 6 by omega)⟩ hP hD d_Mo_sum_215
                  · have fc182_6 : p0.toInt = 10 := zt_eq (show p0.toInt = _ from rfl) tI_10 c182_6
                    refine lv_dload hx hb d_Mo_sum_185 (lv_at hl 1 rfl) ?_
                    refine lv_dload hx hb d_Mo_sum_187 (lv_at hl 0 rfl) ?_
                    have n189 := (zd_add (show dF rv1 by omega) (show dF rv2 by omega))
                    try have o189 := zd_addB (show dB rv1 by omega) (show dB rv2 by omega)
                    refine lv_dadd hx hb d_Mo_sum_189 (vf_N n189) ?_
                    refine lv_topd (fun x42 ex42 => ?_)
                    rw [show FP.dadd rv1 rv2 = x42 from ex42.symm] at n189
                    try rw [show FP.dadd rv1 rv2 = x42 from ex42.symm] at o189
                    refine lv_goto (tgt := 212) hx hb d_Mo_sum_190 (by decide) ?_
                    refine jm_ci (w := (fun u => u)) hK hP hD hS hA (va_runV (As := [.int 2, .double x42]) (rest := []) F (m_giveReal l D T h0 ar S (2 : Int32) x42 H.size ⟨i_size, i_taken, i_vals, i_room, i_dicts, i_deep, i_open, i_cells, i_points, i_part, i_length, i_knows, i_page, i_text, i_pats, i_fuel, i_fr, i_ink⟩ (show 0 ≤ (2 : Int32).toInt ∧ (2 : Int32).toInt ≤ (f_size S).toInt ∧ (f_size S).toInt - (2 : Int32).toInt ≤ 39 by have := tI_2; omega) (show dN x42 by have := tI_2; omega)) (j_cV (k := 2) (C := "PageScribeModel") hts k_7_211 k_1_12 k_7_208 k_7_210 k_0_111 (by decide +kernel) ⟨Nat.le_of_ble_eq_true rfl, Nat.le_of_ble_eq_true rfl⟩) (jm_pre hK hP hD) rfl rfl hl.1 rfl (lv_room (Nat.le_of_ble_eq_true rfl)) d_Mo_sum_212 ⟨Nat.le_of_ble_eq_true rfl, Nat.le_of_ble_eq_true rfl⟩) (fun rv32 S30 H locs hw32 hP hD hS => ?_)
                    have hP : va_P D classes (mW T h0 ar S30) H := hP
                    have hD : va_D A (mW T h0 ar S30) := hD
                    obtain ⟨⟨i_size, i_taken, i_vals, i_room, i_dicts, i_deep, i_open, i_cells, i_points, i_part, i_length, i_knows, i_page, i_text, i_pats, i_fuel, i_fr, i_ink⟩, kpA_S30, kpF_S30, qqhw32⟩ := hw32
                    have kSA_S30 : kA S S30 := kA_t (show kA S S from (kA_r S)) kpA_S30
                    have kSF_S30 : kF S S30 := kF_t (show kF S S from (kF_r S)) kpF_S30
                    have kST_S30 : kT S S30 := kT_t (show kT S S from (kT_r S)) (kT_A kpA_S30)
                    have qhw32 : rv32.toInt = 0 ∨ rv32.toInt = 4 := by simpa only [tI_2] using qqhw32
                    exact j_iret F hr hlocks hK hS S30 ⟨⟨i_size, i_taken, i_vals, i_room, i_dicts, i_deep, i_open, i_cells, i_points, i_part, i_length, i_knows, i_page, i_text, i_pats, i_fuel, i_fr, i_ink⟩, kSA_S30, kSF_S30, (show rv32.toInt = 0 ∨ rv32.toInt = 4 ∨ rv32.toInt = 6 by omega)⟩ hP hD d_Mo_sum_215
                · have fc138_3 : x39.toInt = 0 := zt_eq (show x39.toInt = _ from rfl) tI_0 c138_3
                  refine lv_aload_n hx hb d_Mo_sum_141 rfl (lv_at hl 5 rfl) ?_
                  refine lv_iconst (v := 2) hx hb d_Mo_sum_142 (by decide) ?_
                  refine lv_iload_n hx hb d_Mo_sum_143 rfl (lv_at hl 6 rfl) ?_
                  refine lv_bipush (v := 10) hx hb d_Mo_sum_144 (by decide) ?_
                  refine lv_icmp_ne (tgt := 156) hx hb d_Mo_sum_146 (by decide) (fun c146_3 => ?_) (fun c146_3 => ?_)
                  · first | have fc146_3 : p0.toInt < 10 := (by have := zt_ne (show p0.toInt = _ from rfl) tI_10 c146_3; omega) | have fc146_3 : 10 < p0.toInt := (by have := zt_ne (show p0.toInt = _ from rfl) tI_10 c146_3; omega) | skip
                    refine lv_iload_n hx hb d_Mo_sum_156 rfl (lv_at hl 6 rfl) ?_
                    refine lv_bipush (v := 11) hx hb d_Mo_sum_157 (by decide) ?_
                    refine lv_icmp_ne (tgt := 169) hx hb d_Mo_sum_159 (by decide) (fun c159_3 => ?_) (fun c159_3 => ?_)
                    · first | have fc159_3 : p0.toInt < 11 := (by have := zt_ne (show p0.toInt = _ from rfl) tI_11 c159_3; omega) | have fc159_3 : 11 < p0.toInt := (by have := zt_ne (show p0.toInt = _ from rfl) tI_11 c159_3; omega) | skip
                      refine lv_lload_n hx hb d_Mo_sum_169 rfl (lv_at hl 3 rfl) ?_
                      refine lv_lload hx hb d_Mo_sum_170 (lv_at hl 2 rfl) ?_
                      refine lv_lmul hx hb d_Mo_sum_172 ?_
                      refine lv_topl (fun x43 ex43 => ?_)
                      refine jm_ci (w := (fun u => u)) hK hP hD hS hA (va_runV (As := [.int 2, .long x43]) (rest := []) F (m_giveExact l D T h0 ar S (2 : Int32) x43 H.size ⟨i_size, i_taken, i_vals, i_room, i_dicts, i_deep, i_open, i_cells, i_points, i_part, i_length, i_knows, i_page, i_text, i_pats, i_fuel, i_fr, i_ink⟩ (show 0 ≤ (2 : Int32).toInt ∧ (2 : Int32).toInt ≤ (f_size S).toInt ∧ (f_size S).toInt - (2 : Int32).toInt ≤ 39 by have := tI_2; omega)) (j_cV (k := 2) (C := "PageScribeModel") hts k_7_217 k_1_12 k_7_214 k_7_216 k_0_112 (by decide +kernel) ⟨Nat.le_of_ble_eq_true rfl, Nat.le_of_ble_eq_true rfl⟩) (jm_pre hK hP hD) rfl rfl hl.1 rfl (lv_room (Nat.le_of_ble_eq_true rfl)) d_Mo_sum_173 ⟨Nat.le_of_ble_eq_true rfl, Nat.le_of_ble_eq_true rfl⟩) (fun rv33 S31 H locs hw33 hP hD hS => ?_)
                      have hP : va_P D classes (mW T h0 ar S31) H := hP
                      have hD : va_D A (mW T h0 ar S31) := hD
                      obtain ⟨⟨i_size, i_taken, i_vals, i_room, i_dicts, i_deep, i_open, i_cells, i_points, i_part, i_length, i_knows, i_page, i_text, i_pats, i_fuel, i_fr, i_ink⟩, kpA_S31, kpF_S31, qqhw33⟩ := hw33
                      have kSA_S31 : kA S S31 := kA_t (show kA S S from (kA_r S)) kpA_S31
                      have kSF_S31 : kF S S31 := kF_t (show kF S S from (kF_r S)) kpF_S31
                      have kST_S31 : kT S S31 := kT_t (show kT S S from (kT_r S)) (kT_A kpA_S31)
                      have qhw33 : rv33.toInt = 0 ∨ rv33.toInt = 4 := by simpa only [tI_2] using qqhw33
                      exact j_iret F hr hlocks hK hS S31 ⟨⟨i_size, i_taken, i_vals, i_room, i_dicts, i_deep, i_open, i_cells, i_points, i_part, i_length, i_knows, i_page, i_text, i_pats, i_fuel, i_fr, i_ink⟩, kSA_S31, kSF_S31, (show rv33.toInt = 0 ∨ rv33.toInt = 4 ∨ rv33.toInt = 6 by omega)⟩ hP hD d_Mo_sum_176
                    · have fc159_3 : p0.toInt = 11 := zt_eq (show p0.toInt = _ from rfl) tI_11 c159_3
                      refine lv_lload_n hx hb d_Mo_sum_162 rfl (lv_at hl 3 rfl) ?_
                      refine lv_lload hx hb d_Mo_sum_163 (lv_at hl 2 rfl) ?_
                      refine lv_lsub hx hb d_Mo_sum_165 ?_
                      refine lv_topl (fun x44 ex44 => ?_)
                      refine lv_goto (tgt := 173) hx hb d_Mo_sum_166 (by decide) ?_
                      refine jm_ci (w := (fun u => u)) hK hP hD hS hA (va_runV (As := [.int 2, .long x44]) (rest := []) F (m_giveExact l D T h0 ar S (2 : Int32) x44 H.size ⟨i_size, i_taken, i_vals, i_room, i_dicts, i_deep, i_open, i_cells, i_points, i_part, i_length, i_knows, i_page, i_text, i_pats, i_fuel, i_fr, i_ink⟩ (show 0 ≤ (2 : Int32).toInt ∧ (2 : Int32).toInt ≤ (f_size S).toInt ∧ (f_size S).toInt - (2 : Int32).toInt ≤ 39 by have := tI_2; omega)) (j_cV (k := 2) (C := "PageScribeModel") hts k_7_217 k_1_12 k_7_214 k_7_216 k_0_112 (by decide +kernel) ⟨Nat.le_of_ble_eq_true rfl, Nat.le_of_ble_eq_true rfl⟩) (jm_pre hK hP hD) rfl rfl hl.1 rfl (lv_room (Nat.le_of_ble_eq_true rfl)) d_Mo_sum_173 ⟨Nat.le_of_ble_eq_true rfl, Nat.le_of_ble_eq_true rfl⟩) (fun rv34 S32 H locs hw34 hP hD hS => ?_)
                      have hP : va_P D classes (mW T h0 ar S32) H := hP
                      have hD : va_D A (mW T h0 ar S32) := hD
                      obtain ⟨⟨i_size, i_taken, i_vals, i_room, i_dicts, i_deep, i_open, i_cells, i_points, i_part, i_length, i_knows, i_page, i_text, i_pats, i_fuel, i_fr, i_ink⟩, kpA_S32, kpF_S32, qqhw34⟩ := hw34
                      have kSA_S32 : kA S S32 := kA_t (show kA S S from (kA_r S)) kpA_S32
                      have kSF_S32 : kF S S32 := kF_t (show kF S S from (kF_r S)) kpF_S32
                      have kST_S32 : kT S S32 := kT_t (show kT S S from (kT_r S)) (kT_A kpA_S32)
                      have qhw34 : rv34.toInt = 0 ∨ rv34.toInt = 4 := by simpa only [tI_2] using qqhw34
                      exact j_iret F hr hlocks hK hS S32 ⟨⟨i_size, i_taken, i_vals, i_room, i_dicts, i_deep, i_open, i_cells, i_points, i_part, i_length, i_knows, i_page, i_text, i_pats, i_fuel, i_fr, i_ink⟩, kSA_S32, kSF_S32, (show rv34.toInt = 0 ∨ rv34.toInt = 4 ∨ rv34.toInt = 6 by omega)⟩ hP hD d_Mo_sum_176
                  · have fc146_3 : p0.toInt = 10 := zt_eq (show p0.toInt = _ from rfl) tI_10 c146_3
                    refine lv_lload_n hx hb d_Mo_sum_149 rfl (lv_at hl 3 rfl) ?_
                    refine lv_lload hx hb d_Mo_sum_150 (lv_at hl 2 rfl) ?_
                    refine lv_ladd hx hb d_Mo_sum_152 ?_
                    refine lv_topl (fun x45 ex45 => ?_)
                    refine lv_goto (tgt := 173) hx hb d_Mo_sum_153 (by decide) ?_
                    refine jm_ci (w := (fun u => u)) hK hP hD hS hA (va_runV (As := [.int 2, .long x45]) (rest := []) F (m_giveExact l D T h0 ar S (2 : Int32) x45 H.size ⟨i_size, i_taken, i_vals, i_room, i_dicts, i_deep, i_open, i_cells, i_points, i_part, i_length, i_knows, i_page, i_text, i_pats, i_fuel, i_fr, i_ink⟩ (show 0 ≤ (2 : Int32).toInt ∧ (2 : Int32).toInt ≤ (f_size S).toInt ∧ (f_size S).toInt - (2 : Int32).toInt ≤ 39 by have := tI_2; omega)) (j_cV (k := 2) (C := "PageScribeModel") hts k_7_217 k_1_12 k_7_214 k_7_216 k_0_112 (by decide +kernel) ⟨Nat.le_of_ble_eq_true rfl, Nat.le_of_ble_eq_true rfl⟩) (jm_pre hK hP hD) rfl rfl hl.1 rfl (lv_room (Nat.le_of_ble_eq_true rfl)) d_Mo_sum_173 ⟨Nat.le_of_ble_eq_true rfl, Nat.le_of_ble_eq_true rfl⟩) (fun rv35 S33 H locs hw35 hP hD hS => ?_)
                    have hP : va_P D classes (mW T h0 ar S33) H := hP
                    have hD : va_D A (mW T h0 ar S33) := hD
                    obtain ⟨⟨i_size, i_taken, i_vals, i_room, i_dicts, i_deep, i_open, i_cells, i_points, i_part, i_length, i_knows, i_page, i_text, i_pats, i_fuel, i_fr, i_ink⟩, kpA_S33, kpF_S33, qqhw35⟩ := hw35
                    have kSA_S33 : kA S S33 := kA_t (show kA S S from (kA_r S)) kpA_S33
                    have kSF_S33 : kF S S33 := kF_t (show kF S S from (kF_r S)) kpF_S33
                    have kST_S33 : kT S S33 := kT_t (show kT S S from (kT_r S)) (kT_A kpA_S33)
                    have qhw35 : rv35.toInt = 0 ∨ rv35.toInt = 4 := by simpa only [tI_2] using qqhw35
                    exact j_iret F hr hlocks hK hS S33 ⟨⟨i_size, i_taken, i_vals, i_room, i_dicts, i_deep, i_open, i_cells, i_points, i_part, i_length, i_knows, i_page, i_text, i_pats, i_fuel, i_fr, i_ink⟩, kSA_S33, kSF_S33, (show rv35.toInt = 0 ∨ rv35.toInt = 4 ∨ rv35.toInt = 6 by omega)⟩ hP hD d_Mo_sum_176
            · have fc108_3 : p0.toInt = 15 := zt_eq (show p0.toInt = _ from rfl) tI_15 c108_3
              refine lv_aload_n hx hb d_Mo_sum_111 rfl (lv_at hl 5 rfl) ?_
              refine lv_iconst (v := 2) hx hb d_Mo_sum_112 (by decide) ?_
              refine lv_lload_n hx hb d_Mo_sum_113 rfl (lv_at hl 3 rfl) ?_
              refine lv_lload hx hb d_Mo_sum_114 (lv_at hl 2 rfl) ?_
              refine lv_lrem hx hb d_Mo_sum_116 (zu_n0 rfl (by omega)) ?_
              refine lv_topl (fun x46 ex46 => ?_)
              try have fx46 := zu_rem (show x3.toInt = _ from rfl) (show x4.toInt = _ from rfl) (show 1 ≤ x4.toInt by omega)
              try rw [← ex46] at fx46
              refine jm_ci (w := (fun u => u)) hK hP hD hS hA (va_runV (As := [.int 2, .long x46]) (rest := []) F (m_giveExact l D T h0 ar S (2 : Int32) x46 H.size ⟨i_size, i_taken, i_vals, i_room, i_dicts, i_deep, i_open, i_cells, i_points, i_part, i_length, i_knows, i_page, i_text, i_pats, i_fuel, i_fr, i_ink⟩ (show 0 ≤ (2 : Int32).toInt ∧ (2 : Int32).toInt ≤ (f_size S).toInt ∧ (f_size S).toInt - (2 : Int32).toInt ≤ 39 by have := tI_2; omega)) (j_cV (k := 2) (C := "PageScribeModel") hts k_7_217 k_1_12 k_7_214 k_7_216 k_0_112 (by decide +kernel) ⟨Nat.le_of_ble_eq_true rfl, Nat.le_of_ble_eq_true rfl⟩) (jm_pre hK hP hD) rfl rfl hl.1 rfl (lv_room (Nat.le_of_ble_eq_true rfl)) d_Mo_sum_117 ⟨Nat.le_of_ble_eq_true rfl, Nat.le_of_ble_eq_true rfl⟩) (fun rv36 S34 H locs hw36 hP hD hS => ?_)
              have hP : va_P D classes (mW T h0 ar S34) H := hP
              have hD : va_D A (mW T h0 ar S34) := hD
              obtain ⟨⟨i_size, i_taken, i_vals, i_room, i_dicts, i_deep, i_open, i_cells, i_points, i_part, i_length, i_knows, i_page, i_text, i_pats, i_fuel, i_fr, i_ink⟩, kpA_S34, kpF_S34, qqhw36⟩ := hw36
              have kSA_S34 : kA S S34 := kA_t (show kA S S from (kA_r S)) kpA_S34
              have kSF_S34 : kF S S34 := kF_t (show kF S S from (kF_r S)) kpF_S34
              have kST_S34 : kT S S34 := kT_t (show kT S S from (kT_r S)) (kT_A kpA_S34)
              have qhw36 : rv36.toInt = 0 ∨ rv36.toInt = 4 := by simpa only [tI_2] using qqhw36
              exact j_iret F hr hlocks hK hS S34 ⟨⟨i_size, i_taken, i_vals, i_room, i_dicts, i_deep, i_open, i_cells, i_points, i_part, i_length, i_knows, i_page, i_text, i_pats, i_fuel, i_fr, i_ink⟩, kSA_S34, kSF_S34, (show rv36.toInt = 0 ∨ rv36.toInt = 4 ∨ rv36.toInt = 6 by omega)⟩ hP hD d_Mo_sum_120
          · have fc92_3 : p0.toInt = 14 := zt_eq (show p0.toInt = _ from rfl) tI_14 c92_3
            refine lv_aload_n hx hb d_Mo_sum_95 rfl (lv_at hl 5 rfl) ?_
            refine lv_iconst (v := 2) hx hb d_Mo_sum_96 (by decide) ?_
            refine lv_lload_n hx hb d_Mo_sum_97 rfl (lv_at hl 3 rfl) ?_
            refine lv_lload hx hb d_Mo_sum_98 (lv_at hl 2 rfl) ?_
            refine lv_ldiv hx hb d_Mo_sum_100 (zu_n0 rfl (by omega)) ?_
            refine lv_topl (fun x47 ex47 => ?_)
            refine jm_ci (w := (fun u => u)) hK hP hD hS hA (va_runV (As := [.int 2, .long x47]) (rest := []) F (m_giveExact l D T h0 ar S (2 : Int32) x47 H.size ⟨i_size, i_taken, i_vals, i_room, i_dicts, i_deep, i_open, i_cells, i_points, i_part, i_length, i_knows, i_page, i_text, i_pats, i_fuel, i_fr, i_ink⟩ (show 0 ≤ (2 : Int32).toInt ∧ (2 : Int32).toInt ≤ (f_size S).toInt ∧ (f_size S).toInt - (2 : Int32).toInt ≤ 39 by have := tI_2; omega)) (j_cV (k := 2) (C := "PageScribeModel") hts k_7_217 k_1_12 k_7_214 k_7_216 k_0_112 (by decide +kernel) ⟨Nat.le_of_ble_eq_true rfl, Nat.le_of_ble_eq_true rfl⟩) (jm_pre hK hP hD) rfl rfl hl.1 rfl (lv_room (Nat.le_of_ble_eq_true rfl)) d_Mo_sum_101 ⟨Nat.le_of_ble_eq_true rfl, Nat.le_of_ble_eq_true rfl⟩) (fun rv37 S35 H locs hw37 hP hD hS => ?_)
            have hP : va_P D classes (mW T h0 ar S35) H := hP
            have hD : va_D A (mW T h0 ar S35) := hD
            obtain ⟨⟨i_size, i_taken, i_vals, i_room, i_dicts, i_deep, i_open, i_cells, i_points, i_part, i_length, i_knows, i_page, i_text, i_pats, i_fuel, i_fr, i_ink⟩, kpA_S35, kpF_S35, qqhw37⟩ := hw37
            have kSA_S35 : kA S S35 := kA_t (show kA S S from (kA_r S)) kpA_S35
            have kSF_S35 : kF S S35 := kF_t (show kF S S from (kF_r S)) kpF_S35
            have kST_S35 : kT S S35 := kT_t (show kT S S from (kT_r S)) (kT_A kpA_S35)
            have qhw37 : rv37.toInt = 0 ∨ rv37.toInt = 4 := by simpa only [tI_2] using qqhw37
            exact j_iret F hr hlocks hK hS S35 ⟨⟨i_size, i_taken, i_vals, i_room, i_dicts, i_deep, i_open, i_cells, i_points, i_part, i_length, i_knows, i_page, i_text, i_pats, i_fuel, i_fr, i_ink⟩, kSA_S35, kSF_S35, (show rv37.toInt = 0 ∨ rv37.toInt = 4 ∨ rv37.toInt = 6 by omega)⟩ hP hD d_Mo_sum_104
        · have fc75_3 : p0.toInt = 13 := zt_eq (show p0.toInt = _ from rfl) tI_13 c75_3
          refine lv_aload_n hx hb d_Mo_sum_78 rfl (lv_at hl 5 rfl) ?_
          refine lv_iconst (v := 2) hx hb d_Mo_sum_79 (by decide) ?_
          refine lv_dload hx hb d_Mo_sum_80 (lv_at hl 1 rfl) ?_
          refine lv_dload hx hb d_Mo_sum_82 (lv_at hl 0 rfl) ?_
          have n84 := (zd_div (show dF rv1 by omega) (show dF rv2 by omega) (by omega))
          refine lv_ddiv hx hb d_Mo_sum_84 (vf_N n84) ?_
          refine lv_topd (fun x48 ex48 => ?_)
          rw [show FP.ddiv rv1 rv2 = x48 from ex48.symm] at n84
          refine jm_ci (w := (fun u => u)) hK hP hD hS hA (va_runV (As := [.int 2, .double x48]) (rest := []) F (m_giveReal l D T h0 ar S (2 : Int32) x48 H.size ⟨i_size, i_taken, i_vals, i_room, i_dicts, i_deep, i_open, i_cells, i_points, i_part, i_length, i_knows, i_page, i_text, i_pats, i_fuel, i_fr, i_ink⟩ (show 0 ≤ (2 : Int32).toInt ∧ (2 : Int32).toInt ≤ (f_size S).toInt ∧ (f_size S).toInt - (2 : Int32).toInt ≤ 39 by have := tI_2; omega) (show dN x48 by have := tI_2; omega)) (j_cV (k := 2) (C := "PageScribeModel") hts k_7_211 k_1_12 k_7_208 k_7_210 k_0_111 (by decide +kernel) ⟨Nat.le_of_ble_eq_true rfl, Nat.le_of_ble_eq_true rfl⟩) (jm_pre hK hP hD) rfl rfl hl.1 rfl (lv_room (Nat.le_of_ble_eq_true rfl)) d_Mo_sum_85 ⟨Nat.le_of_ble_eq_true rfl, Nat.le_of_ble_eq_true rfl⟩) (fun rv38 S36 H locs hw38 hP hD hS => ?_)
          have hP : va_P D classes (mW T h0 ar S36) H := hP
          have hD : va_D A (mW T h0 ar S36) := hD
          obtain ⟨⟨i_size, i_taken, i_vals, i_room, i_dicts, i_deep, i_open, i_cells, i_points, i_part, i_length, i_knows, i_page, i_text, i_pats, i_fuel, i_fr, i_ink⟩, kpA_S36, kpF_S36, qqhw38⟩ := hw38
          have kSA_S36 : kA S S36 := kA_t (show kA S S from (kA_r S)) kpA_S36
          have kSF_S36 : kF S S36 := kF_t (show kF S S from (kF_r S)) kpF_S36
          have kST_S36 : kT S S36 := kT_t (show kT S S from (kT_r S)) (kT_A kpA_S36)
          have qhw38 : rv38.toInt = 0 ∨ rv38.toInt = 4 := by simpa only [tI_2] using qqhw38
          exact j_iret F hr hlocks hK hS S36 ⟨⟨i_size, i_taken, i_vals, i_room, i_dicts, i_deep, i_open, i_cells, i_points, i_part, i_length, i_knows, i_page, i_text, i_pats, i_fuel, i_fr, i_ink⟩, kSA_S36, kSF_S36, (show rv38.toInt = 0 ∨ rv38.toInt = 4 ∨ rv38.toInt = 6 by omega)⟩ hP hD d_Mo_sum_88
      · have fc56_1 : x34.toInt = 0 := zt_eq (show x34.toInt = _ from rfl) tI_0 c56_1
        have vc56_1 : dk rv2 = dk 0 := by have := zr_dcmp (a := rv2) (b := 0) ex34 (show dN rv2 by omega) (show dN 0 by omega); have := zt_eq (show x34.toInt = _ from rfl) tI_0 c56_1; omega
        refine lv_goto (tgt := 69) hx hb d_Mo_sum_59 (by decide) ?_
        refine lv_bipush (v := 6) hx hb d_Mo_sum_69 (by decide) ?_
        exact j_iret F hr hlocks hK hS S ⟨⟨i_size, i_taken, i_vals, i_room, i_dicts, i_deep, i_open, i_cells, i_points, i_part, i_length, i_knows, i_page, i_text, i_pats, i_fuel, i_fr, i_ink⟩, (kA_r S), (kF_r S), (show (6 : Int32).toInt = 0 ∨ (6 : Int32).toInt = 4 ∨ (6 : Int32).toInt = 6 by have := tI_6; omega)⟩ hP hD d_Mo_sum_71
theorem d_Mo_single_0 : decode prog_15_method_49_code 0 = .ok (.aload_n 0, 1) := by decide +kernel
theorem d_Mo_single_1 : decode prog_15_method_49_code 1 = .ok (.getfield 247, 3) := by decide +kernel
theorem d_Mo_single_4 : decode prog_15_method_49_code 4 = .ok (.iconst 1, 1) := by decide +kernel
theorem d_Mo_single_5 : decode prog_15_method_49_code 5 = .ok (.isub, 1) := by decide +kernel
theorem d_Mo_single_6 : decode prog_15_method_49_code 6 = .ok (.istore_n 2, 1) := by decide +kernel
theorem d_Mo_single_7 : decode prog_15_method_49_code 7 = .ok (.aload_n 0, 1) := by decide +kernel
theorem d_Mo_single_8 : decode prog_15_method_49_code 8 = .ok (.iload_n 2, 1) := by decide +kernel
theorem d_Mo_single_9 : decode prog_15_method_49_code 9 = .ok (.invokevirtual 473, 3) := by decide +kernel
theorem d_Mo_single_12 : decode prog_15_method_49_code 12 = .ok (.dstore_n 3, 1) := by decide +kernel
theorem d_Mo_single_13 : decode prog_15_method_49_code 13 = .ok (.iload_n 1, 1) := by decide +kernel
theorem d_Mo_single_14 : decode prog_15_method_49_code 14 = .ok (.bipush 16, 2) := by decide +kernel
theorem d_Mo_single_16 : decode prog_15_method_49_code 16 = .ok (.if_icmp .ne 36, 3) := by decide +kernel
theorem tI_16 : (16 : Int32).toInt = 16 := by decide +kernel
theorem d_Mo_single_52 : decode prog_15_method_49_code 52 = .ok (.iload_n 1, 1) := by decide +kernel
theorem d_Mo_single_53 : decode prog_15_method_49_code 53 = .ok (.bipush 20, 2) := by decide +kernel
theorem d_Mo_single_55 : decode prog_15_method_49_code 55 = .ok (.if_icmp .ne 10, 3) := by decide +kernel
theorem tI_20 : (20 : Int32).toInt = 20 := by decide +kernel
theorem d_Mo_single_65 : decode prog_15_method_49_code 65 = .ok (.aload_n 0, 1) := by decide +kernel
theorem d_Mo_single_66 : decode prog_15_method_49_code 66 = .ok (.getfield 7, 3) := by decide +kernel
theorem d_Mo_single_69 : decode prog_15_method_49_code 69 = .ok (.iload_n 2, 1) := by decide +kernel
theorem d_Mo_single_70 : decode prog_15_method_49_code 70 = .ok (.iaload, 1) := by decide +kernel
theorem d_Mo_single_71 : decode prog_15_method_49_code 71 = .ok (.ifCond .ne 5, 3) := by decide +kernel
theorem d_Mo_single_76 : decode prog_15_method_49_code 76 = .ok (.iload_n 1, 1) := by decide +kernel
theorem d_Mo_single_77 : decode prog_15_method_49_code 77 = .ok (.bipush 17, 2) := by decide +kernel
theorem d_Mo_single_79 : decode prog_15_method_49_code 79 = .ok (.if_icmp .ne 13, 3) := by decide +kernel
theorem tI_17 : (17 : Int32).toInt = 17 := by decide +kernel
theorem d_Mo_single_92 : decode prog_15_method_49_code 92 = .ok (.iload_n 1, 1) := by decide +kernel
theorem d_Mo_single_93 : decode prog_15_method_49_code 93 = .ok (.bipush 18, 2) := by decide +kernel
theorem d_Mo_single_95 : decode prog_15_method_49_code 95 = .ok (.if_icmp .ne 17, 3) := by decide +kernel
theorem tI_18 : (18 : Int32).toInt = 18 := by decide +kernel
theorem d_Mo_single_112 : decode prog_15_method_49_code 112 = .ok (.dload_n 3, 1) := by decide +kernel
theorem d_Mo_single_113 : decode prog_15_method_49_code 113 = .ok (.d2l, 1) := by decide +kernel
theorem d_Mo_single_114 : decode prog_15_method_49_code 114 = .ok (.lstore 5, 2) := by decide +kernel
theorem d_Mo_single_116 : decode prog_15_method_49_code 116 = .ok (.lload 5, 2) := by decide +kernel
theorem d_Mo_single_118 : decode prog_15_method_49_code 118 = .ok (.lload 5, 2) := by decide +kernel
theorem d_Mo_single_120 : decode prog_15_method_49_code 120 = .ok (.l2i, 1) := by decide +kernel
theorem d_Mo_single_121 : decode prog_15_method_49_code 121 = .ok (.i2l, 1) := by decide +kernel
theorem d_Mo_single_122 : decode prog_15_method_49_code 122 = .ok (.lcmp, 1) := by decide +kernel
theorem d_Mo_single_123 : decode prog_15_method_49_code 123 = .ok (.ifCond .ne 14, 3) := by decide +kernel
theorem d_Mo_single_137 : decode prog_15_method_49_code 137 = .ok (.iconst 4, 1) := by decide +kernel
theorem d_Mo_single_138 : decode prog_15_method_49_code 138 = .ok (.ireturn, 1) := by decide +kernel
theorem d_Mo_single_126 : decode prog_15_method_49_code 126 = .ok (.aload_n 0, 1) := by decide +kernel
theorem d_Mo_single_127 : decode prog_15_method_49_code 127 = .ok (.iconst 1, 1) := by decide +kernel
theorem d_Mo_single_128 : decode prog_15_method_49_code 128 = .ok (.iconst 0, 1) := by decide +kernel
theorem d_Mo_single_129 : decode prog_15_method_49_code 129 = .ok (.lload 5, 2) := by decide +kernel
theorem d_Mo_single_131 : decode prog_15_method_49_code 131 = .ok (.invokevirtual 262, 3) := by decide +kernel
theorem d_Mo_single_134 : decode prog_15_method_49_code 134 = .ok (.goto 4, 3) := by decide +kernel
theorem d_Mo_single_98 : decode prog_15_method_49_code 98 = .ok (.aload_n 0, 1) := by decide +kernel
theorem d_Mo_single_99 : decode prog_15_method_49_code 99 = .ok (.iconst 1, 1) := by decide +kernel
theorem d_Mo_single_100 : decode prog_15_method_49_code 100 = .ok (.dload_n 3, 1) := by decide +kernel
theorem d_Mo_single_101 : decode prog_15_method_49_code 101 = .ok (.ldc2_w 484, 3) := by decide +kernel
theorem k_7_229 : Cond.constantDouble "PageScribeModel" 484 (4602678819172646912 : UInt64) ∈ gw := gw_of (tb_7 (List.mem_of_getElem? (i := 229) (by decide +kernel))) (by decide +kernel)
theorem tD_4602678819172646912 : dk 4602678819172646912 = 4602678819172646912 := by decide +kernel
theorem d_Mo_single_104 : decode prog_15_method_49_code 104 = .ok (.dadd, 1) := by decide +kernel
theorem d_Mo_single_105 : decode prog_15_method_49_code 105 = .ok (.invokestatic 480, 3) := by decide +kernel
theorem k_7_228 : Cond.code ⟨"PageScribeModel", "below", "(D)D"⟩ prog_15_method_48_code 4 (some .double) ∈ gw := gw_of (tb_7 (List.mem_of_getElem? (i := 228) (by decide +kernel))) (by decide +kernel)
theorem k_7_226 : Cond.methodLink "PageScribeModel" 480 ⟨"PageScribeModel", "below", "(D)D"⟩ ∈ gw := gw_of (tb_7 (List.mem_of_getElem? (i := 226) (by decide +kernel))) (by decide +kernel)
theorem k_7_227 : Cond.static ⟨"PageScribeModel", "below", "(D)D"⟩ ∈ gw := gw_of (tb_7 (List.mem_of_getElem? (i := 227) (by decide +kernel))) (by decide +kernel)
theorem d_Mo_single_108 : decode prog_15_method_49_code 108 = .ok (.invokevirtual 266, 3) := by decide +kernel
theorem d_Mo_single_111 : decode prog_15_method_49_code 111 = .ok (.ireturn, 1) := by decide +kernel
theorem d_Mo_single_82 : decode prog_15_method_49_code 82 = .ok (.aload_n 0, 1) := by decide +kernel
theorem d_Mo_single_83 : decode prog_15_method_49_code 83 = .ok (.iconst 1, 1) := by decide +kernel
theorem d_Mo_single_84 : decode prog_15_method_49_code 84 = .ok (.dload_n 3, 1) := by decide +kernel
theorem d_Mo_single_85 : decode prog_15_method_49_code 85 = .ok (.invokestatic 480, 3) := by decide +kernel
theorem d_Mo_single_88 : decode prog_15_method_49_code 88 = .ok (.invokevirtual 266, 3) := by decide +kernel
theorem d_Mo_single_91 : decode prog_15_method_49_code 91 = .ok (.ireturn, 1) := by decide +kernel
theorem d_Mo_single_74 : decode prog_15_method_49_code 74 = .ok (.iconst 0, 1) := by decide +kernel
theorem d_Mo_single_75 : decode prog_15_method_49_code 75 = .ok (.ireturn, 1) := by decide +kernel
theorem d_Mo_single_58 : decode prog_15_method_49_code 58 = .ok (.aload_n 0, 1) := by decide +kernel
theorem d_Mo_single_59 : decode prog_15_method_49_code 59 = .ok (.iconst 1, 1) := by decide +kernel
theorem d_Mo_single_60 : decode prog_15_method_49_code 60 = .ok (.dload_n 3, 1) := by decide +kernel
theorem d_Mo_single_61 : decode prog_15_method_49_code 61 = .ok (.invokevirtual 266, 3) := by decide +kernel
theorem d_Mo_single_64 : decode prog_15_method_49_code 64 = .ok (.ireturn, 1) := by decide +kernel
theorem d_Mo_single_19 : decode prog_15_method_49_code 19 = .ok (.aload_n 0, 1) := by decide +kernel
theorem d_Mo_single_20 : decode prog_15_method_49_code 20 = .ok (.getfield 7, 3) := by decide +kernel
theorem d_Mo_single_23 : decode prog_15_method_49_code 23 = .ok (.iload_n 2, 1) := by decide +kernel
theorem d_Mo_single_24 : decode prog_15_method_49_code 24 = .ok (.iaload, 1) := by decide +kernel
theorem d_Mo_single_25 : decode prog_15_method_49_code 25 = .ok (.ifCond .ne 18, 3) := by decide +kernel
theorem d_Mo_single_43 : decode prog_15_method_49_code 43 = .ok (.aload_n 0, 1) := by decide +kernel
theorem d_Mo_single_44 : decode prog_15_method_49_code 44 = .ok (.iconst 1, 1) := by decide +kernel
theorem d_Mo_single_45 : decode prog_15_method_49_code 45 = .ok (.dconst 0, 1) := by decide +kernel
theorem d_Mo_single_46 : decode prog_15_method_49_code 46 = .ok (.dload_n 3, 1) := by decide +kernel
theorem d_Mo_single_47 : decode prog_15_method_49_code 47 = .ok (.dsub, 1) := by decide +kernel
theorem d_Mo_single_48 : decode prog_15_method_49_code 48 = .ok (.invokevirtual 266, 3) := by decide +kernel
theorem d_Mo_single_51 : decode prog_15_method_49_code 51 = .ok (.ireturn, 1) := by decide +kernel
theorem d_Mo_single_28 : decode prog_15_method_49_code 28 = .ok (.aload_n 0, 1) := by decide +kernel
theorem d_Mo_single_29 : decode prog_15_method_49_code 29 = .ok (.iconst 1, 1) := by decide +kernel
theorem d_Mo_single_30 : decode prog_15_method_49_code 30 = .ok (.aload_n 0, 1) := by decide +kernel
theorem d_Mo_single_31 : decode prog_15_method_49_code 31 = .ok (.getfield 13, 3) := by decide +kernel
theorem d_Mo_single_34 : decode prog_15_method_49_code 34 = .ok (.iload_n 2, 1) := by decide +kernel
theorem d_Mo_single_35 : decode prog_15_method_49_code 35 = .ok (.laload, 1) := by decide +kernel
theorem d_Mo_single_36 : decode prog_15_method_49_code 36 = .ok (.lneg, 1) := by decide +kernel
theorem d_Mo_single_37 : decode prog_15_method_49_code 37 = .ok (.invokevirtual 477, 3) := by decide +kernel
theorem d_Mo_single_40 : decode prog_15_method_49_code 40 = .ok (.goto 11, 3) := by decide +kernel
set_option maxHeartbeats 4000000 in
set_option maxRecDepth 100000 in
theorem m_single (l : Launch) (D : va_G) (T : Nat → ClassId) (h0 : Nat) (ar : Nat → Nat) (S : MS) (p0 : Int32) (sz : Nat) (hI : MI S) (h1 : 16 ≤ p0.toInt ∧ p0.toInt ≤ 20) (h3 : 1 ≤ (f_size S).toInt) : Met l ⟨"PageScribeModel", "single", "(I)I"⟩ (wy ⟨"PageScribeModel", "single", "(I)I"⟩ prog_15_method_49_code 7 (some .int)) ({ frames := 3, cells := 0, slots := 0, locals := 210 }) (va_Pc [.ref h0, .int p0] (Pw D T (mW T h0 ar S) sz E0)) (va_Qi (fun (r : Int32) (u : MS) => MI u ∧ kA S u ∧ kF S u ∧ (r.toInt = 0 ∨ r.toInt = 4)) (fun u t => Bw D T (va_A (mW T h0 ar S) sz) (mW T h0 ar u) t) (va_A (mW T h0 ar S) sz)) 0 0 (va_A (mW T h0 ar S) sz) := by
  refine j_met (y := ⟨"PageScribeModel", "single", "(I)I"⟩) (b := prog_15_method_49_code) (n := 7) (ret := (some .int)) (av := [.ref h0, .int p0]) (Qc := fun A => va_Qi (fun (r : Int32) (u : MS) => MI u ∧ kA S u ∧ kF S u ∧ (r.toInt = 0 ∨ r.toInt = 4)) (fun u t => Bw D T A (mW T h0 ar u) t) A) (by decide +kernel) (Nat.le_of_ble_eq_true rfl) (fun p e s m args below meth c A ls F hr hlocks hnm hK hP hD hS hA hN hE hl => ?_)
  obtain ⟨hx, hb, hml, hown, hts⟩ := id F
  have hl : lv_has ls 7 [(0, .ref h0), (1, .int p0)] := hl
  obtain ⟨i_size, i_taken, i_vals, i_room, i_dicts, i_deep, i_open, i_cells, i_points, i_part, i_length, i_knows, i_page, i_text, i_pats, i_fuel, i_fr, i_ink⟩ := id hI
  refine lv_aload_n hx hb d_Mo_single_0 rfl (lv_at hl 0 rfl) ?_
  refine va_get (D := D) (ci := 11) (v := .int (f_size S)) (C := "PageScribeModel") (T := F_Mo) (N := 45) hx hb hts i_Mo hown hK hP 0 mW_0 cl_11 4 (by decide) (hts _ k_6_164) (fun _ h9 => h9) (mg_size _ _) d_Mo_single_1 ?_
  refine lv_iconst (v := 1) hx hb d_Mo_single_4 (by decide) ?_
  refine lv_isub hx hb d_Mo_single_5 ?_
  refine lv_topi (fun x1 ex1 => ?_)
  have fx1 : x1.toInt = ((f_size S).toInt - 1) := by rw [ex1]; exact (zt_sub (show (f_size S).toInt = _ from rfl) tI_1 (by omega) (by omega)).trans (by omega)
  refine lv_istore_n (lv' := [(2, .int x1), (0, .ref h0), (1, .int p0)]) hx hb d_Mo_single_6 rfl hl (by decide) rfl (fun ls hl => ?_)
  refine lv_aload_n hx hb d_Mo_single_7 rfl (lv_at hl 1 rfl) ?_
  refine lv_iload_n hx hb d_Mo_single_8 rfl (lv_at hl 0 rfl) ?_
  have kv1 : vOk ((a_kinds S) (((f_size S).toInt - 1).toNat)) ((a_codes S) (((f_size S).toInt - 1).toNat)) ((a_reals S) (((f_size S).toInt - 1).toNat)) := i_vals (((f_size S).toInt - 1).toNat) (by omega)
  have rkv1 := vk_rng kv1
  refine jm_cd (w := (fun _ => S)) hK hP hD hS hA (va_runV (As := [.int x1]) (rest := []) F (m_numberAt l D T h0 ar S x1 s.heap.size ⟨i_size, i_taken, i_vals, i_room, i_dicts, i_deep, i_open, i_cells, i_points, i_part, i_length, i_knows, i_page, i_text, i_pats, i_fuel, i_fr, i_ink⟩ (show 0 ≤ x1.toInt ∧ x1.toInt < 1300 by first | omega | (simp only [fx1]; omega))) (j_cV (k := 1) (C := "PageScribeModel") hts k_7_207 k_1_12 k_7_204 k_7_206 k_0_110 (by decide +kernel) ⟨Nat.le_of_ble_eq_true rfl, Nat.le_of_ble_eq_true rfl⟩) (jm_pre hK hP hD) rfl rfl hl.1 rfl (lv_room (Nat.le_of_ble_eq_true rfl)) d_Mo_single_9 ⟨Nat.le_of_ble_eq_true rfl, Nat.le_of_ble_eq_true rfl⟩) (fun rv1 u1 H locs hw1 hP hD hS => ?_)
  have hP : va_P D classes (mW T h0 ar S) H := hP
  have hD : va_D A (mW T h0 ar S) := hD
  have qhw1 : dB rv1 := by simpa only [fx1] using hw1
  refine lv_dstore_n (lv' := [(3, .double rv1), (2, .int x1), (0, .ref h0), (1, .int p0)]) hx hb d_Mo_single_12 rfl hl (by decide) rfl (fun ls hl => ?_)
  refine lv_iload_n hx hb d_Mo_single_13 rfl (lv_at hl 3 rfl) ?_
  refine lv_bipush (v := 16) hx hb d_Mo_single_14 (by decide) ?_
  refine lv_icmp_ne (tgt := 52) hx hb d_Mo_single_16 (by decide) (fun c16_1 => ?_) (fun c16_1 => ?_)
  · first | have fc16_1 : p0.toInt < 16 := (by have := zt_ne (show p0.toInt = _ from rfl) tI_16 c16_1; omega) | have fc16_1 : 16 < p0.toInt := (by have := zt_ne (show p0.toInt = _ from rfl) tI_16 c16_1; omega) | skip
    refine lv_iload_n hx hb d_Mo_single_52 rfl (lv_at hl 3 rfl) ?_
    refine lv_bipush (v := 20) hx hb d_Mo_single_53 (by decide) ?_
    refine lv_icmp_ne (tgt := 65) hx hb d_Mo_single_55 (by decide) (fun c55_1 => ?_) (fun c55_1 => ?_)
    · first | have fc55_1 : p0.toInt < 20 := (by have := zt_ne (show p0.toInt = _ from rfl) tI_20 c55_1; omega) | have fc55_1 : 20 < p0.toInt := (by have := zt_ne (show p0.toInt = _ from rfl) tI_20 c55_1; omega) | skip
      refine lv_aload_n hx hb d_Mo_single_65 rfl (lv_at hl 2 rfl) ?_
      refine va_get (D := D) (ci := 11) (v := .ref (ar 0)) (C := "PageScribeModel") (T := F_Mo) (N := 45) hx hb hts i_Mo hown hK hP 0 mW_0 cl_11 1 (by decide) (hts _ k_6_161) (fun _ h9 => h9) (mg_kinds _ _) d_Mo_single_66 ?_
      refine lv_iload_n hx hb d_Mo_single_69 rfl (lv_at hl 1 rfl) ?_
      refine va_iald hx hb hK hP 1 0 (ma_kinds _ _ _ _) rfl (zt_in fx1 (by omega) (by omega)) d_Mo_single_70 ?_
      refine lv_topi (fun x2 ex2 => ?_)
      have gx2 : x2 = (a_kinds S) ((f_size S).toInt - 1).toNat := ex2.trans (congrArg _ (zt_ix fx1))
      have fx2 : x2.toInt = ((a_kinds S) ((f_size S).toInt - 1).toNat).toInt := by rw [gx2]
      have kx2 : vOk ((a_kinds S) ((f_size S).toInt - 1).toNat) ((a_codes S) ((f_size S).toInt - 1).toNat) ((a_reals S) ((f_size S).toInt - 1).toNat) := i_vals (((f_size S).toInt - 1).toNat) (by omega)
      have rx2 := vk_rng kx2
      refine lv_if_ne (tgt := 76) hx hb d_Mo_single_71 (by decide) (fun c71_1 => ?_) (fun c71_1 => ?_)
      · first | have fc71_1 : x2.toInt < 0 := (by have := zt_ne (show x2.toInt = _ from rfl) tI_0 c71_1; omega) | have fc71_1 : 0 < x2.toInt := (by have := zt_ne (show x2.toInt = _ from rfl) tI_0 c71_1; omega) | skip
        refine lv_iload_n hx hb d_Mo_single_76 rfl (lv_at hl 3 rfl) ?_
        refine lv_bipush (v := 17) hx hb d_Mo_single_77 (by decide) ?_
        refine lv_icmp_ne (tgt := 92) hx hb d_Mo_single_79 (by decide) (fun c79_1 => ?_) (fun c79_1 => ?_)
        · first | have fc79_1 : p0.toInt < 17 := (by have := zt_ne (show p0.toInt = _ from rfl) tI_17 c79_1; omega) | have fc79_1 : 17 < p0.toInt := (by have := zt_ne (show p0.toInt = _ from rfl) tI_17 c79_1; omega) | skip
          refine lv_iload_n hx hb d_Mo_single_92 rfl (lv_at hl 3 rfl) ?_
          refine lv_bipush (v := 18) hx hb d_Mo_single_93 (by decide) ?_
          refine lv_icmp_ne (tgt := 112) hx hb d_Mo_single_95 (by decide) (fun c95_1 => ?_) (fun c95_1 => ?_)
          · first | have fc95_1 : p0.toInt < 18 := (by have := zt_ne (show p0.toInt = _ from rfl) tI_18 c95_1; omega) | have fc95_1 : 18 < p0.toInt := (by have := zt_ne (show p0.toInt = _ from rfl) tI_18 c95_1; omega) | skip
            refine lv_dload_n hx hb d_Mo_single_112 rfl (lv_at hl 0 rfl) ?_
            refine lv_d2l hx hb d_Mo_single_113 ?_
            refine lv_topl (fun x3 ex3 => ?_)
            refine lv_lstore (lv' := [(5, .long x3), (3, .double rv1), (2, .int x1), (0, .ref h0), (1, .int p0)]) hx hb d_Mo_single_114 hl (by decide) rfl (fun ls hl => ?_)
            refine lv_lload hx hb d_Mo_single_116 (lv_at hl 0 rfl) ?_
            refine lv_lload hx hb d_Mo_single_118 (lv_at hl 0 rfl) ?_
            refine lv_l2i (v := (x3).toInt32) hx hb d_Mo_single_120 rfl ?_
            refine lv_topi (fun x4 ex4 => ?_)
            have wx4 := zt_rng x4
            refine lv_i2l (v := (x4).toInt64) hx hb d_Mo_single_121 rfl ?_
            refine lv_topl (fun x5 ex5 => ?_)
            have fx5 : x5.toInt = x4.toInt := by rw [ex5]; exact zu_i2l (show x4.toInt = _ from rfl)
            refine W.lcmp hx hb d_Mo_single_122 ?_
            refine lv_topi (fun x6 ex6 => ?_)
            refine lv_if_ne (tgt := 137) hx hb d_Mo_single_123 (by decide) (fun c123_1 => ?_) (fun c123_1 => ?_)
            · first | have fc123_1 : x6.toInt < 0 := (by have := zt_ne (show x6.toInt = _ from rfl) tI_0 c123_1; omega) | have fc123_1 : 0 < x6.toInt := (by have := zt_ne (show x6.toInt = _ from rfl) tI_0 c123_1; omega) | skip
              have vc123_1 : ¬ x3.toInt = x4.toInt := by have := zr_cmp ex6 (show x3.toInt = _ from rfl) fx5; have := zt_ne (show x6.toInt = _ from rfl) tI_0 c123_1; omega
              refine lv_iconst (v := 4) hx hb d_Mo_single_137 (by decide) ?_
              exact j_iret F hr hlocks hK hS S ⟨⟨i_size, i_taken, i_vals, i_room, i_dicts, i_deep, i_open, i_cells, i_points, i_part, i_length, i_knows, i_page, i_text, i_pats, i_fuel, i_fr, i_ink⟩, (kA_r S), (kF_r S), (show (4 : Int32).toInt = 0 ∨ (4 : Int32).toInt = 4 by have := tI_4; omega)⟩ hP hD d_Mo_single_138
            · have fc123_1 : x6.toInt = 0 := zt_eq (show x6.toInt = _ from rfl) tI_0 c123_1
              have vc123_1 : x3.toInt = x4.toInt := by have := zr_cmp ex6 (show x3.toInt = _ from rfl) fx5; have := zt_eq (show x6.toInt = _ from rfl) tI_0 c123_1; omega
              refine lv_aload_n hx hb d_Mo_single_126 rfl (lv_at hl 3 rfl) ?_
              refine lv_iconst (v := 1) hx hb d_Mo_single_127 (by decide) ?_
              refine lv_iconst (v := 0) hx hb d_Mo_single_128 (by decide) ?_
              refine lv_lload hx hb d_Mo_single_129 (lv_at hl 0 rfl) ?_
              refine jm_ci (w := (fun u => u)) hK hP hD hS hA (va_runV (As := [.int 1, .int 0, .long x3]) (rest := []) F (m_give l D T h0 ar S (1 : Int32) (0 : Int32) x3 H.size ⟨i_size, i_taken, i_vals, i_room, i_dicts, i_deep, i_open, i_cells, i_points, i_part, i_length, i_knows, i_page, i_text, i_pats, i_fuel, i_fr, i_ink⟩ (show 0 ≤ (1 : Int32).toInt ∧ (1 : Int32).toInt ≤ (f_size S).toInt ∧ (f_size S).toInt - (1 : Int32).toInt ≤ 39 by have := tI_1; have := tI_0; omega) (vO_int (by omega))) (j_cV (k := 3) (C := "PageScribeModel") hts k_7_221 k_1_12 k_7_218 k_7_220 k_0_113 (by decide +kernel) ⟨Nat.le_of_ble_eq_true rfl, Nat.le_of_ble_eq_true rfl⟩) (jm_pre hK hP hD) rfl rfl hl.1 rfl (lv_room (Nat.le_of_ble_eq_true rfl)) d_Mo_single_131 ⟨Nat.le_of_ble_eq_true rfl, Nat.le_of_ble_eq_true rfl⟩) (fun rv2 S1 H locs hw2 hP hD hS => ?_)
              have hP : va_P D classes (mW T h0 ar S1) H := hP
              have hD : va_D A (mW T h0 ar S1) := hD
              obtain ⟨⟨i_size, i_taken, i_vals, i_room, i_dicts, i_deep, i_open, i_cells, i_points, i_part, i_length, i_knows, i_page, i_text, i_pats, i_fuel, i_fr, i_ink⟩, kpA_S1, kpF_S1, qqhw2⟩ := hw2
              have kSA_S1 : kA S S1 := kA_t (show kA S S from (kA_r S)) kpA_S1
              have kSF_S1 : kF S S1 := kF_t (show kF S S from (kF_r S)) kpF_S1
              have kST_S1 : kT S S1 := kT_t (show kT S S from (kT_r S)) (kT_A kpA_S1)
              have qhw2 : rv2.toInt = 0 ∧ (f_taken S1).toInt = (f_taken S).toInt := by simpa only [tI_0, tI_1] using qqhw2
              refine lv_goto (tgt := 138) hx hb d_Mo_single_134 (by decide) ?_
              exact j_iret F hr hlocks hK hS S1 ⟨⟨i_size, i_taken, i_vals, i_room, i_dicts, i_deep, i_open, i_cells, i_points, i_part, i_length, i_knows, i_page, i_text, i_pats, i_fuel, i_fr, i_ink⟩, kSA_S1, kSF_S1, (show rv2.toInt = 0 ∨ rv2.toInt = 4 by omega)⟩ hP hD d_Mo_single_138
          · have fc95_1 : p0.toInt = 18 := zt_eq (show p0.toInt = _ from rfl) tI_18 c95_1
            refine lv_aload_n hx hb d_Mo_single_98 rfl (lv_at hl 2 rfl) ?_
            refine lv_iconst (v := 1) hx hb d_Mo_single_99 (by decide) ?_
            refine lv_dload_n hx hb d_Mo_single_100 rfl (lv_at hl 0 rfl) ?_
            refine lv_ldc2d (v := 4602678819172646912) hx hb hown (hts _ k_7_229) d_Mo_single_101 ?_
            have := tD_4602678819172646912
            have n104 := (zd_add (show dF rv1 by omega) (show dF 4602678819172646912 by omega))
            try have o104 := zd_addB (show dB rv1 by omega) (show dB 4602678819172646912 by omega)
            refine lv_dadd hx hb d_Mo_single_104 (vf_N n104) ?_
            refine lv_topd (fun x7 ex7 => ?_)
            rw [show FP.dadd rv1 4602678819172646912 = x7 from ex7.symm] at n104
            try rw [show FP.dadd rv1 4602678819172646912 = x7 from ex7.symm] at o104
            refine j_cd (wc := []) (wr := (mW T h0 ar S)) hK hP hD hS hA [] isc rfl isc_all isc_nd (fun _ _ => List.not_mem_nil) (va_runS (As := [.double x7]) (rest := [.int 1, .ref h0]) F (m_below l D T x7 H.size (show dF x7 by omega)) (j_cS (k := 1) hts k_7_228 k_1_12 k_7_226 k_7_227 (by decide +kernel) ⟨Nat.le_of_ble_eq_true rfl, Nat.le_of_ble_eq_true rfl⟩) (j_preS hK hP hD [] rfl (by decide) (fun _ _ _ _ h => h) (fun _ _ _ => trivial)) rfl rfl hl.1 rfl (lv_room (Nat.le_of_ble_eq_true rfl)) d_Mo_single_105 ⟨Nat.le_of_ble_eq_true rfl, Nat.le_of_ble_eq_true rfl⟩) (fun rv3 u2 H locs hw3 hP hD hS => ?_)
            have hP : va_P D classes (mW T h0 ar S) H := hP
            have hD : va_D A (mW T h0 ar S) := hD
            have qhw3 : dB rv3 := hw3
            refine jm_ci (w := (fun u => u)) hK hP hD hS hA (va_runV (As := [.int 1, .double rv3]) (rest := []) F (m_giveReal l D T h0 ar S (1 : Int32) rv3 H.size ⟨i_size, i_taken, i_vals, i_room, i_dicts, i_deep, i_open, i_cells, i_points, i_part, i_length, i_knows, i_page, i_text, i_pats, i_fuel, i_fr, i_ink⟩ (show 0 ≤ (1 : Int32).toInt ∧ (1 : Int32).toInt ≤ (f_size S).toInt ∧ (f_size S).toInt - (1 : Int32).toInt ≤ 39 by have := tI_1; omega) (show dN rv3 by have := tI_1; omega)) (j_cV (k := 2) (C := "PageScribeModel") hts k_7_211 k_1_12 k_7_208 k_7_210 k_0_111 (by decide +kernel) ⟨Nat.le_of_ble_eq_true rfl, Nat.le_of_ble_eq_true rfl⟩) (jm_pre hK hP hD) rfl rfl hl.1 rfl (lv_room (Nat.le_of_ble_eq_true rfl)) d_Mo_single_108 ⟨Nat.le_of_ble_eq_true rfl, Nat.le_of_ble_eq_true rfl⟩) (fun rv4 S2 H locs hw4 hP hD hS => ?_)
            have hP : va_P D classes (mW T h0 ar S2) H := hP
            have hD : va_D A (mW T h0 ar S2) := hD
            obtain ⟨⟨i_size, i_taken, i_vals, i_room, i_dicts, i_deep, i_open, i_cells, i_points, i_part, i_length, i_knows, i_page, i_text, i_pats, i_fuel, i_fr, i_ink⟩, kpA_S2, kpF_S2, qqhw4⟩ := hw4
            have kSA_S2 : kA S S2 := kA_t (show kA S S from (kA_r S)) kpA_S2
            have kSF_S2 : kF S S2 := kF_t (show kF S S from (kF_r S)) kpF_S2
            have kST_S2 : kT S S2 := kT_t (show kT S S from (kT_r S)) (kT_A kpA_S2)
            have qhw4 : rv4.toInt = 0 ∨ rv4.toInt = 4 := by simpa only [tI_1] using qqhw4
            exact j_iret F hr hlocks hK hS S2 ⟨⟨i_size, i_taken, i_vals, i_room, i_dicts, i_deep, i_open, i_cells, i_points, i_part, i_length, i_knows, i_page, i_text, i_pats, i_fuel, i_fr, i_ink⟩, kSA_S2, kSF_S2, (show rv4.toInt = 0 ∨ rv4.toInt = 4 by omega)⟩ hP hD d_Mo_single_111
        · have fc79_1 : p0.toInt = 17 := zt_eq (show p0.toInt = _ from rfl) tI_17 c79_1
          refine lv_aload_n hx hb d_Mo_single_82 rfl (lv_at hl 2 rfl) ?_
          refine lv_iconst (v := 1) hx hb d_Mo_single_83 (by decide) ?_
          refine lv_dload_n hx hb d_Mo_single_84 rfl (lv_at hl 0 rfl) ?_
          refine j_cd (wc := []) (wr := (mW T h0 ar S)) hK hP hD hS hA [] isc rfl isc_all isc_nd (fun _ _ => List.not_mem_nil) (va_runS (As := [.double rv1]) (rest := [.int 1, .ref h0]) F (m_below l D T rv1 H.size (show dF rv1 by omega)) (j_cS (k := 1) hts k_7_228 k_1_12 k_7_226 k_7_227 (by decide +kernel) ⟨Nat.le_of_ble_eq_true rfl, Nat.le_of_ble_eq_true rfl⟩) (j_preS hK hP hD [] rfl (by decide) (fun _ _ _ _ h => h) (fun _ _ _ => trivial)) rfl rfl hl.1 rfl (lv_room (Nat.le_of_ble_eq_true rfl)) d_Mo_single_85 ⟨Nat.le_of_ble_eq_true rfl, Nat.le_of_ble_eq_true rfl⟩) (fun rv5 u3 H locs hw5 hP hD hS => ?_)
          have hP : va_P D classes (mW T h0 ar S) H := hP
          have hD : va_D A (mW T h0 ar S) := hD
          have qhw5 : dB rv5 := hw5
          refine jm_ci (w := (fun u => u)) hK hP hD hS hA (va_runV (As := [.int 1, .double rv5]) (rest := []) F (m_giveReal l D T h0 ar S (1 : Int32) rv5 H.size ⟨i_size, i_taken, i_vals, i_room, i_dicts, i_deep, i_open, i_cells, i_points, i_part, i_length, i_knows, i_page, i_text, i_pats, i_fuel, i_fr, i_ink⟩ (show 0 ≤ (1 : Int32).toInt ∧ (1 : Int32).toInt ≤ (f_size S).toInt ∧ (f_size S).toInt - (1 : Int32).toInt ≤ 39 by have := tI_1; omega) (show dN rv5 by have := tI_1; omega)) (j_cV (k := 2) (C := "PageScribeModel") hts k_7_211 k_1_12 k_7_208 k_7_210 k_0_111 (by decide +kernel) ⟨Nat.le_of_ble_eq_true rfl, Nat.le_of_ble_eq_true rfl⟩) (jm_pre hK hP hD) rfl rfl hl.1 rfl (lv_room (Nat.le_of_ble_eq_true rfl)) d_Mo_single_88 ⟨Nat.le_of_ble_eq_true rfl, Nat.le_of_ble_eq_true rfl⟩) (fun rv6 S3 H locs hw6 hP hD hS => ?_)
          have hP : va_P D classes (mW T h0 ar S3) H := hP
          have hD : va_D A (mW T h0 ar S3) := hD
          obtain ⟨⟨i_size, i_taken, i_vals, i_room, i_dicts, i_deep, i_open, i_cells, i_points, i_part, i_length, i_knows, i_page, i_text, i_pats, i_fuel, i_fr, i_ink⟩, kpA_S3, kpF_S3, qqhw6⟩ := hw6
          have kSA_S3 : kA S S3 := kA_t (show kA S S from (kA_r S)) kpA_S3
          have kSF_S3 : kF S S3 := kF_t (show kF S S from (kF_r S)) kpF_S3
          have kST_S3 : kT S S3 := kT_t (show kT S S from (kT_r S)) (kT_A kpA_S3)
          have qhw6 : rv6.toInt = 0 ∨ rv6.toInt = 4 := by simpa only [tI_1] using qqhw6
          exact j_iret F hr hlocks hK hS S3 ⟨⟨i_size, i_taken, i_vals, i_room, i_dicts, i_deep, i_open, i_cells, i_points, i_part, i_length, i_knows, i_page, i_text, i_pats, i_fuel, i_fr, i_ink⟩, kSA_S3, kSF_S3, (show rv6.toInt = 0 ∨ rv6.toInt = 4 by omega)⟩ hP hD d_Mo_single_91
      · have fc71_1 : x2.toInt = 0 := zt_eq (show x2.toInt = _ from rfl) tI_0 c71_1
        refine lv_iconst (v := 0) hx hb d_Mo_single_74 (by decide) ?_
        exact j_iret F hr hlocks hK hS S ⟨⟨i_size, i_taken, i_vals, i_room, i_dicts, i_deep, i_open, i_cells, i_points, i_part, i_length, i_knows, i_page, i_text, i_pats, i_fuel, i_fr, i_ink⟩, (kA_r S), (kF_r S), (show (0 : Int32).toInt = 0 ∨ (0 : Int32).toInt = 4 by have := tI_0; omega)⟩ hP hD d_Mo_single_75
    · have fc55_1 : p0.toInt = 20 := zt_eq (show p0.toInt = _ from rfl) tI_20 c55_1
      refine lv_aload_n hx hb d_Mo_single_58 rfl (lv_at hl 2 rfl) ?_
      refine lv_iconst (v := 1) hx hb d_Mo_single_59 (by decide) ?_
      refine lv_dload_n hx hb d_Mo_single_60 rfl (lv_at hl 0 rfl) ?_
      refine jm_ci (w := (fun u => u)) hK hP hD hS hA (va_runV (As := [.int 1, .double rv1]) (rest := []) F (m_giveReal l D T h0 ar S (1 : Int32) rv1 H.size ⟨i_size, i_taken, i_vals, i_room, i_dicts, i_deep, i_open, i_cells, i_points, i_part, i_length, i_knows, i_page, i_text, i_pats, i_fuel, i_fr, i_ink⟩ (show 0 ≤ (1 : Int32).toInt ∧ (1 : Int32).toInt ≤ (f_size S).toInt ∧ (f_size S).toInt - (1 : Int32).toInt ≤ 39 by have := tI_1; omega) (show dN rv1 by have := tI_1; omega)) (j_cV (k := 2) (C := "PageScribeModel") hts k_7_211 k_1_12 k_7_208 k_7_210 k_0_111 (by decide +kernel) ⟨Nat.le_of_ble_eq_true rfl, Nat.le_of_ble_eq_true rfl⟩) (jm_pre hK hP hD) rfl rfl hl.1 rfl (lv_room (Nat.le_of_ble_eq_true rfl)) d_Mo_single_61 ⟨Nat.le_of_ble_eq_true rfl, Nat.le_of_ble_eq_true rfl⟩) (fun rv7 S4 H locs hw7 hP hD hS => ?_)
      have hP : va_P D classes (mW T h0 ar S4) H := hP
      have hD : va_D A (mW T h0 ar S4) := hD
      obtain ⟨⟨i_size, i_taken, i_vals, i_room, i_dicts, i_deep, i_open, i_cells, i_points, i_part, i_length, i_knows, i_page, i_text, i_pats, i_fuel, i_fr, i_ink⟩, kpA_S4, kpF_S4, qqhw7⟩ := hw7
      have kSA_S4 : kA S S4 := kA_t (show kA S S from (kA_r S)) kpA_S4
      have kSF_S4 : kF S S4 := kF_t (show kF S S from (kF_r S)) kpF_S4
      have kST_S4 : kT S S4 := kT_t (show kT S S from (kT_r S)) (kT_A kpA_S4)
      have qhw7 : rv7.toInt = 0 ∨ rv7.toInt = 4 := by simpa only [tI_1] using qqhw7
      exact j_iret F hr hlocks hK hS S4 ⟨⟨i_size, i_taken, i_vals, i_room, i_dicts, i_deep, i_open, i_cells, i_points, i_part, i_length, i_knows, i_page, i_text, i_pats, i_fuel, i_fr, i_ink⟩, kSA_S4, kSF_S4, (show rv7.toInt = 0 ∨ rv7.toInt = 4 by omega)⟩ hP hD d_Mo_single_64
  · have fc16_1 : p0.toInt = 16 := zt_eq (show p0.toInt = _ from rfl) tI_16 c16_1
    refine lv_aload_n hx hb d_Mo_single_19 rfl (lv_at hl 2 rfl) ?_
    refine va_get (D := D) (ci := 11) (v := .ref (ar 0)) (C := "PageScribeModel") (T := F_Mo) (N := 45) hx hb hts i_Mo hown hK hP 0 mW_0 cl_11 1 (by decide) (hts _ k_6_161) (fun _ h9 => h9) (mg_kinds _ _) d_Mo_single_20 ?_
    refine lv_iload_n hx hb d_Mo_single_23 rfl (lv_at hl 1 rfl) ?_
    refine va_iald hx hb hK hP 1 0 (ma_kinds _ _ _ _) rfl (zt_in fx1 (by omega) (by omega)) d_Mo_single_24 ?_
    refine lv_topi (fun x8 ex8 => ?_)
    have gx8 : x8 = (a_kinds S) ((f_size S).toInt - 1).toNat := ex8.trans (congrArg _ (zt_ix fx1))
    have fx8 : x8.toInt = ((a_kinds S) ((f_size S).toInt - 1).toNat).toInt := by rw [gx8]
    have kx8 : vOk ((a_kinds S) ((f_size S).toInt - 1).toNat) ((a_codes S) ((f_size S).toInt - 1).toNat) ((a_reals S) ((f_size S).toInt - 1).toNat) := i_vals (((f_size S).toInt - 1).toNat) (by omega)
    have rx8 := vk_rng kx8
    refine lv_if_ne (tgt := 43) hx hb d_Mo_single_25 (by decide) (fun c25_1 => ?_) (fun c25_1 => ?_)
    · first | have fc25_1 : x8.toInt < 0 := (by have := zt_ne (show x8.toInt = _ from rfl) tI_0 c25_1; omega) | have fc25_1 : 0 < x8.toInt := (by have := zt_ne (show x8.toInt = _ from rfl) tI_0 c25_1; omega) | skip
      refine lv_aload_n hx hb d_Mo_single_43 rfl (lv_at hl 2 rfl) ?_
      refine lv_iconst (v := 1) hx hb d_Mo_single_44 (by decide) ?_
      refine lv_dconst0 hx hb d_Mo_single_45 ?_
      have := tD_0
      refine lv_dload_n hx hb d_Mo_single_46 rfl (lv_at hl 0 rfl) ?_
      have n47 := (zd_sub (show dF 0 by omega) (show dF rv1 by omega))
      try have o47 := zd_subB (show dB 0 by omega) (show dB rv1 by omega)
      refine lv_dsub hx hb d_Mo_single_47 (vf_N n47) ?_
      refine lv_topd (fun x9 ex9 => ?_)
      rw [show FP.dsub 0 rv1 = x9 from ex9.symm] at n47
      try rw [show FP.dsub 0 rv1 = x9 from ex9.symm] at o47
      refine jm_ci (w := (fun u => u)) hK hP hD hS hA (va_runV (As := [.int 1, .double x9]) (rest := []) F (m_giveReal l D T h0 ar S (1 : Int32) x9 H.size ⟨i_size, i_taken, i_vals, i_room, i_dicts, i_deep, i_open, i_cells, i_points, i_part, i_length, i_knows, i_page, i_text, i_pats, i_fuel, i_fr, i_ink⟩ (show 0 ≤ (1 : Int32).toInt ∧ (1 : Int32).toInt ≤ (f_size S).toInt ∧ (f_size S).toInt - (1 : Int32).toInt ≤ 39 by have := tI_1; omega) (show dN x9 by have := tI_1; omega)) (j_cV (k := 2) (C := "PageScribeModel") hts k_7_211 k_1_12 k_7_208 k_7_210 k_0_111 (by decide +kernel) ⟨Nat.le_of_ble_eq_true rfl, Nat.le_of_ble_eq_true rfl⟩) (jm_pre hK hP hD) rfl rfl hl.1 rfl (lv_room (Nat.le_of_ble_eq_true rfl)) d_Mo_single_48 ⟨Nat.le_of_ble_eq_true rfl, Nat.le_of_ble_eq_true rfl⟩) (fun rv8 S5 H locs hw8 hP hD hS => ?_)
      have hP : va_P D classes (mW T h0 ar S5) H := hP
      have hD : va_D A (mW T h0 ar S5) := hD
      obtain ⟨⟨i_size, i_taken, i_vals, i_room, i_dicts, i_deep, i_open, i_cells, i_points, i_part, i_length, i_knows, i_page, i_text, i_pats, i_fuel, i_fr, i_ink⟩, kpA_S5, kpF_S5, qqhw8⟩ := hw8
      have kSA_S5 : kA S S5 := kA_t (show kA S S from (kA_r S)) kpA_S5
      have kSF_S5 : kF S S5 := kF_t (show kF S S from (kF_r S)) kpF_S5
      have kST_S5 : kT S S5 := kT_t (show kT S S from (kT_r S)) (kT_A kpA_S5)
      have qhw8 : rv8.toInt = 0 ∨ rv8.toInt = 4 := by simpa only [tI_1] using qqhw8
      exact j_iret F hr hlocks hK hS S5 ⟨⟨i_size, i_taken, i_vals, i_room, i_dicts, i_deep, i_open, i_cells, i_points, i_part, i_length, i_knows, i_page, i_text, i_pats, i_fuel, i_fr, i_ink⟩, kSA_S5, kSF_S5, (show rv8.toInt = 0 ∨ rv8.toInt = 4 by omega)⟩ hP hD d_Mo_single_51
    · have fc25_1 : x8.toInt = 0 := zt_eq (show x8.toInt = _ from rfl) tI_0 c25_1
      refine lv_aload_n hx hb d_Mo_single_28 rfl (lv_at hl 2 rfl) ?_
      refine lv_iconst (v := 1) hx hb d_Mo_single_29 (by decide) ?_
      refine lv_aload_n hx hb d_Mo_single_30 rfl (lv_at hl 2 rfl) ?_
      refine va_get (D := D) (ci := 11) (v := .ref (ar 1)) (C := "PageScribeModel") (T := F_Mo) (N := 45) hx hb hts i_Mo hown hK hP 0 mW_0 cl_11 2 (by decide) (hts _ k_6_162) (fun _ h9 => h9) (mg_codes _ _) d_Mo_single_31 ?_
      refine lv_iload_n hx hb d_Mo_single_34 rfl (lv_at hl 1 rfl) ?_
      refine va_lald hx hb hK hP 2 1 (ma_codes _ _ _ _) rfl (zt_in fx1 (by omega) (by omega)) d_Mo_single_35 ?_
      refine lv_topl (fun x10 ex10 => ?_)
      have gx10 : x10 = (a_codes S) ((f_size S).toInt - 1).toNat := ex10.trans (congrArg _ (zt_ix fx1))
      have fx10 : x10.toInt = ((a_codes S) ((f_size S).toInt - 1).toNat).toInt := by rw [gx10]
      have kx10 : vOk ((a_kinds S) ((f_size S).toInt - 1).toNat) ((a_codes S) ((f_size S).toInt - 1).toNat) ((a_reals S) ((f_size S).toInt - 1).toNat) := i_vals (((f_size S).toInt - 1).toNat) (by omega)
      refine lv_lneg hx hb d_Mo_single_36 ?_
      refine lv_topl (fun x11 ex11 => ?_)
      refine jm_ci (w := (fun u => u)) hK hP hD hS hA (va_runV (As := [.int 1, .long x11]) (rest := []) F (m_giveExact l D T h0 ar S (1 : Int32) x11 H.size ⟨i_size, i_taken, i_vals, i_room, i_dicts, i_deep, i_open, i_cells, i_points, i_part, i_length, i_knows, i_page, i_text, i_pats, i_fuel, i_fr, i_ink⟩ (show 0 ≤ (1 : Int32).toInt ∧ (1 : Int32).toInt ≤ (f_size S).toInt ∧ (f_size S).toInt - (1 : Int32).toInt ≤ 39 by have := tI_1; omega)) (j_cV (k := 2) (C := "PageScribeModel") hts k_7_217 k_1_12 k_7_214 k_7_216 k_0_112 (by decide +kernel) ⟨Nat.le_of_ble_eq_true rfl, Nat.le_of_ble_eq_true rfl⟩) (jm_pre hK hP hD) rfl rfl hl.1 rfl (lv_room (Nat.le_of_ble_eq_true rfl)) d_Mo_single_37 ⟨Nat.le_of_ble_eq_true rfl, Nat.le_of_ble_eq_true rfl⟩) (fun rv9 S6 H locs hw9 hP hD hS => ?_)
      have hP : va_P D classes (mW T h0 ar S6) H := hP
      have hD : va_D A (mW T h0 ar S6) := hD
      obtain ⟨⟨i_size, i_taken, i_vals, i_room, i_dicts, i_deep, i_open, i_cells, i_points, i_part, i_length, i_knows, i_page, i_text, i_pats, i_fuel, i_fr, i_ink⟩, kpA_S6, kpF_S6, qqhw9⟩ := hw9
      have kSA_S6 : kA S S6 := kA_t (show kA S S from (kA_r S)) kpA_S6
      have kSF_S6 : kF S S6 := kF_t (show kF S S from (kF_r S)) kpF_S6
      have kST_S6 : kT S S6 := kT_t (show kT S S from (kT_r S)) (kT_A kpA_S6)
      have qhw9 : rv9.toInt = 0 ∨ rv9.toInt = 4 := by simpa only [tI_1] using qqhw9
      refine lv_goto (tgt := 51) hx hb d_Mo_single_40 (by decide) ?_
      exact j_iret F hr hlocks hK hS S6 ⟨⟨i_size, i_taken, i_vals, i_room, i_dicts, i_deep, i_open, i_cells, i_points, i_part, i_length, i_knows, i_page, i_text, i_pats, i_fuel, i_fr, i_ink⟩, kSA_S6, kSF_S6, (show rv9.toInt = 0 ∨ rv9.toInt = 4 by omega)⟩ hP hD d_Mo_single_51
