def dicP (op : Int) (S : MS) : Prop := ((op = 43 ∨ op = 47) → 1 ≤ (f_size S).toInt) ∧ (op = 44 → 1 ≤ (f_size S).toInt ∧ ((a_kinds S) ((f_size S).toInt - 1).toNat).toInt % 8 = 6) ∧ (op = 46 → 2 ≤ (f_size S).toInt) ∧ (op = 48 → 2 ≤ (f_size S).toInt ∧ ((a_kinds S) ((f_size S).toInt - 2).toNat).toInt % 8 = 6)
theorem d_Mo_dictOperator_0 : decode prog_15_method_62_code 0 = .ok (.aload_n 0, 1) := by decide +kernel
theorem d_Mo_dictOperator_1 : decode prog_15_method_62_code 1 = .ok (.getfield 247, 3) := by decide +kernel
theorem d_Mo_dictOperator_4 : decode prog_15_method_62_code 4 = .ok (.iconst 1, 1) := by decide +kernel
theorem d_Mo_dictOperator_5 : decode prog_15_method_62_code 5 = .ok (.isub, 1) := by decide +kernel
theorem d_Mo_dictOperator_6 : decode prog_15_method_62_code 6 = .ok (.istore_n 2, 1) := by decide +kernel
theorem d_Mo_dictOperator_7 : decode prog_15_method_62_code 7 = .ok (.iload_n 1, 1) := by decide +kernel
theorem d_Mo_dictOperator_8 : decode prog_15_method_62_code 8 = .ok (.tableswitch 210 43 48 #[40, 51, 101, 124, 149, 175], 40) := by decide +kernel
theorem d_Mo_dictOperator_48 : decode prog_15_method_62_code 48 = .ok (.aload_n 0, 1) := by decide +kernel
theorem d_Mo_dictOperator_49 : decode prog_15_method_62_code 49 = .ok (.aload_n 0, 1) := by decide +kernel
theorem d_Mo_dictOperator_50 : decode prog_15_method_62_code 50 = .ok (.getfield 13, 3) := by decide +kernel
theorem d_Mo_dictOperator_53 : decode prog_15_method_62_code 53 = .ok (.iload_n 2, 1) := by decide +kernel
theorem d_Mo_dictOperator_54 : decode prog_15_method_62_code 54 = .ok (.laload, 1) := by decide +kernel
theorem d_Mo_dictOperator_55 : decode prog_15_method_62_code 55 = .ok (.invokevirtual 519, 3) := by decide +kernel
theorem k_8_47 : Cond.code ⟨"PageScribeModel", "newDict", "(J)I"⟩ prog_15_method_63_code 4 (some .int) ∈ gw := gw_of (tb_8 (List.mem_of_getElem? (i := 47) (by decide +kernel))) (by decide +kernel)
theorem k_8_44 : Cond.methodLink "PageScribeModel" 519 ⟨"PageScribeModel", "newDict", "(J)I"⟩ ∈ gw := gw_of (tb_8 (List.mem_of_getElem? (i := 44) (by decide +kernel))) (by decide +kernel)
theorem k_8_46 : Cond.instanceMethod ⟨"PageScribeModel", "newDict", "(J)I"⟩ ∈ gw := gw_of (tb_8 (List.mem_of_getElem? (i := 46) (by decide +kernel))) (by decide +kernel)
theorem k_0_126 : Cond.selects "PageScribeModel" ⟨"PageScribeModel", "newDict", "(J)I"⟩ ⟨"PageScribeModel", "newDict", "(J)I"⟩ ∈ gw := gw_of (tb_0 (List.mem_of_getElem? (i := 126) (by decide +kernel))) (by decide +kernel)
theorem d_Mo_dictOperator_58 : decode prog_15_method_62_code 58 = .ok (.ireturn, 1) := by decide +kernel
theorem d_Mo_dictOperator_59 : decode prog_15_method_62_code 59 = .ok (.aload_n 0, 1) := by decide +kernel
theorem d_Mo_dictOperator_60 : decode prog_15_method_62_code 60 = .ok (.getfield 33, 3) := by decide +kernel
theorem d_Mo_dictOperator_63 : decode prog_15_method_62_code 63 = .ok (.bipush 6, 2) := by decide +kernel
theorem d_Mo_dictOperator_65 : decode prog_15_method_62_code 65 = .ok (.if_icmp .ne 6, 3) := by decide +kernel
theorem d_Mo_dictOperator_71 : decode prog_15_method_62_code 71 = .ok (.aload_n 0, 1) := by decide +kernel
theorem d_Mo_dictOperator_72 : decode prog_15_method_62_code 72 = .ok (.getfield 30, 3) := by decide +kernel
theorem d_Mo_dictOperator_75 : decode prog_15_method_62_code 75 = .ok (.aload_n 0, 1) := by decide +kernel
theorem d_Mo_dictOperator_76 : decode prog_15_method_62_code 76 = .ok (.getfield 33, 3) := by decide +kernel
theorem d_Mo_dictOperator_79 : decode prog_15_method_62_code 79 = .ok (.aload_n 0, 1) := by decide +kernel
theorem d_Mo_dictOperator_80 : decode prog_15_method_62_code 80 = .ok (.getfield 13, 3) := by decide +kernel
theorem d_Mo_dictOperator_83 : decode prog_15_method_62_code 83 = .ok (.iload_n 2, 1) := by decide +kernel
theorem d_Mo_dictOperator_84 : decode prog_15_method_62_code 84 = .ok (.laload, 1) := by decide +kernel
theorem d_Mo_dictOperator_85 : decode prog_15_method_62_code 85 = .ok (.l2i, 1) := by decide +kernel
theorem d_Mo_dictOperator_86 : decode prog_15_method_62_code 86 = .ok (.iastore, 1) := by decide +kernel
theorem d_Mo_dictOperator_87 : decode prog_15_method_62_code 87 = .ok (.aload_n 0, 1) := by decide +kernel
theorem d_Mo_dictOperator_88 : decode prog_15_method_62_code 88 = .ok (.dup, 1) := by decide +kernel
theorem d_Mo_dictOperator_89 : decode prog_15_method_62_code 89 = .ok (.getfield 33, 3) := by decide +kernel
theorem d_Mo_dictOperator_92 : decode prog_15_method_62_code 92 = .ok (.iconst 1, 1) := by decide +kernel
theorem d_Mo_dictOperator_93 : decode prog_15_method_62_code 93 = .ok (.iadd, 1) := by decide +kernel
theorem d_Mo_dictOperator_94 : decode prog_15_method_62_code 94 = .ok (.putfield 33, 3) := by decide +kernel
theorem d_Mo_dictOperator_97 : decode prog_15_method_62_code 97 = .ok (.aload_n 0, 1) := by decide +kernel
theorem d_Mo_dictOperator_98 : decode prog_15_method_62_code 98 = .ok (.dup, 1) := by decide +kernel
theorem d_Mo_dictOperator_99 : decode prog_15_method_62_code 99 = .ok (.getfield 247, 3) := by decide +kernel
theorem d_Mo_dictOperator_102 : decode prog_15_method_62_code 102 = .ok (.iconst 1, 1) := by decide +kernel
theorem d_Mo_dictOperator_103 : decode prog_15_method_62_code 103 = .ok (.isub, 1) := by decide +kernel
theorem d_Mo_dictOperator_104 : decode prog_15_method_62_code 104 = .ok (.putfield 247, 3) := by decide +kernel
theorem d_Mo_dictOperator_107 : decode prog_15_method_62_code 107 = .ok (.iconst 0, 1) := by decide +kernel
theorem d_Mo_dictOperator_108 : decode prog_15_method_62_code 108 = .ok (.ireturn, 1) := by decide +kernel
theorem d_Mo_dictOperator_68 : decode prog_15_method_62_code 68 = .ok (.bipush 7, 2) := by decide +kernel
theorem d_Mo_dictOperator_70 : decode prog_15_method_62_code 70 = .ok (.ireturn, 1) := by decide +kernel
theorem d_Mo_dictOperator_109 : decode prog_15_method_62_code 109 = .ok (.aload_n 0, 1) := by decide +kernel
theorem d_Mo_dictOperator_110 : decode prog_15_method_62_code 110 = .ok (.getfield 33, 3) := by decide +kernel
theorem d_Mo_dictOperator_113 : decode prog_15_method_62_code 113 = .ok (.iconst 1, 1) := by decide +kernel
theorem d_Mo_dictOperator_114 : decode prog_15_method_62_code 114 = .ok (.if_icmp .ne 6, 3) := by decide +kernel
theorem d_Mo_dictOperator_120 : decode prog_15_method_62_code 120 = .ok (.aload_n 0, 1) := by decide +kernel
theorem d_Mo_dictOperator_121 : decode prog_15_method_62_code 121 = .ok (.dup, 1) := by decide +kernel
theorem d_Mo_dictOperator_122 : decode prog_15_method_62_code 122 = .ok (.getfield 33, 3) := by decide +kernel
theorem d_Mo_dictOperator_125 : decode prog_15_method_62_code 125 = .ok (.iconst 1, 1) := by decide +kernel
theorem d_Mo_dictOperator_126 : decode prog_15_method_62_code 126 = .ok (.isub, 1) := by decide +kernel
theorem d_Mo_dictOperator_127 : decode prog_15_method_62_code 127 = .ok (.putfield 33, 3) := by decide +kernel
theorem d_Mo_dictOperator_130 : decode prog_15_method_62_code 130 = .ok (.iconst 0, 1) := by decide +kernel
theorem d_Mo_dictOperator_131 : decode prog_15_method_62_code 131 = .ok (.ireturn, 1) := by decide +kernel
theorem d_Mo_dictOperator_117 : decode prog_15_method_62_code 117 = .ok (.bipush 9, 2) := by decide +kernel
theorem d_Mo_dictOperator_119 : decode prog_15_method_62_code 119 = .ok (.ireturn, 1) := by decide +kernel
theorem d_Mo_dictOperator_132 : decode prog_15_method_62_code 132 = .ok (.aload_n 0, 1) := by decide +kernel
theorem d_Mo_dictOperator_133 : decode prog_15_method_62_code 133 = .ok (.aload_n 0, 1) := by decide +kernel
theorem d_Mo_dictOperator_134 : decode prog_15_method_62_code 134 = .ok (.getfield 30, 3) := by decide +kernel
theorem d_Mo_dictOperator_137 : decode prog_15_method_62_code 137 = .ok (.aload_n 0, 1) := by decide +kernel
theorem d_Mo_dictOperator_138 : decode prog_15_method_62_code 138 = .ok (.getfield 33, 3) := by decide +kernel
theorem d_Mo_dictOperator_141 : decode prog_15_method_62_code 141 = .ok (.iconst 1, 1) := by decide +kernel
theorem d_Mo_dictOperator_142 : decode prog_15_method_62_code 142 = .ok (.isub, 1) := by decide +kernel
theorem d_Mo_dictOperator_143 : decode prog_15_method_62_code 143 = .ok (.iaload, 1) := by decide +kernel
theorem d_Mo_dictOperator_144 : decode prog_15_method_62_code 144 = .ok (.aload_n 0, 1) := by decide +kernel
theorem d_Mo_dictOperator_145 : decode prog_15_method_62_code 145 = .ok (.getfield 13, 3) := by decide +kernel
theorem d_Mo_dictOperator_148 : decode prog_15_method_62_code 148 = .ok (.iload_n 2, 1) := by decide +kernel
theorem d_Mo_dictOperator_149 : decode prog_15_method_62_code 149 = .ok (.iconst 1, 1) := by decide +kernel
theorem d_Mo_dictOperator_150 : decode prog_15_method_62_code 150 = .ok (.isub, 1) := by decide +kernel
theorem d_Mo_dictOperator_151 : decode prog_15_method_62_code 151 = .ok (.laload, 1) := by decide +kernel
theorem d_Mo_dictOperator_152 : decode prog_15_method_62_code 152 = .ok (.iconst 2, 1) := by decide +kernel
theorem d_Mo_dictOperator_153 : decode prog_15_method_62_code 153 = .ok (.invokevirtual 503, 3) := by decide +kernel
theorem d_Mo_dictOperator_156 : decode prog_15_method_62_code 156 = .ok (.ireturn, 1) := by decide +kernel
theorem d_Mo_dictOperator_157 : decode prog_15_method_62_code 157 = .ok (.aload_n 0, 1) := by decide +kernel
theorem d_Mo_dictOperator_158 : decode prog_15_method_62_code 158 = .ok (.aload_n 0, 1) := by decide +kernel
theorem d_Mo_dictOperator_159 : decode prog_15_method_62_code 159 = .ok (.getfield 13, 3) := by decide +kernel
theorem d_Mo_dictOperator_162 : decode prog_15_method_62_code 162 = .ok (.iload_n 2, 1) := by decide +kernel
theorem d_Mo_dictOperator_163 : decode prog_15_method_62_code 163 = .ok (.laload, 1) := by decide +kernel
theorem d_Mo_dictOperator_164 : decode prog_15_method_62_code 164 = .ok (.invokevirtual 372, 3) := by decide +kernel
theorem k_7_143 : Cond.code ⟨"PageScribeModel", "found", "(J)I"⟩ prog_15_method_33_code 5 (some .int) ∈ gw := gw_of (tb_7 (List.mem_of_getElem? (i := 143) (by decide +kernel))) (by decide +kernel)
theorem k_7_140 : Cond.methodLink "PageScribeModel" 372 ⟨"PageScribeModel", "found", "(J)I"⟩ ∈ gw := gw_of (tb_7 (List.mem_of_getElem? (i := 140) (by decide +kernel))) (by decide +kernel)
theorem k_7_142 : Cond.instanceMethod ⟨"PageScribeModel", "found", "(J)I"⟩ ∈ gw := gw_of (tb_7 (List.mem_of_getElem? (i := 142) (by decide +kernel))) (by decide +kernel)
theorem k_0_95 : Cond.selects "PageScribeModel" ⟨"PageScribeModel", "found", "(J)I"⟩ ⟨"PageScribeModel", "found", "(J)I"⟩ ∈ gw := gw_of (tb_0 (List.mem_of_getElem? (i := 95) (by decide +kernel))) (by decide +kernel)
theorem d_Mo_dictOperator_167 : decode prog_15_method_62_code 167 = .ok (.istore_n 3, 1) := by decide +kernel
theorem d_Mo_dictOperator_168 : decode prog_15_method_62_code 168 = .ok (.iload_n 3, 1) := by decide +kernel
theorem d_Mo_dictOperator_169 : decode prog_15_method_62_code 169 = .ok (.iconst (-1), 1) := by decide +kernel
theorem d_Mo_dictOperator_170 : decode prog_15_method_62_code 170 = .ok (.if_icmp .ne 5, 3) := by decide +kernel
theorem d_Mo_dictOperator_175 : decode prog_15_method_62_code 175 = .ok (.aload_n 0, 1) := by decide +kernel
theorem d_Mo_dictOperator_176 : decode prog_15_method_62_code 176 = .ok (.iload_n 2, 1) := by decide +kernel
theorem d_Mo_dictOperator_177 : decode prog_15_method_62_code 177 = .ok (.iload_n 3, 1) := by decide +kernel
theorem d_Mo_dictOperator_178 : decode prog_15_method_62_code 178 = .ok (.invokevirtual 254, 3) := by decide +kernel
theorem d_Mo_dictOperator_181 : decode prog_15_method_62_code 181 = .ok (.iconst 0, 1) := by decide +kernel
theorem d_Mo_dictOperator_182 : decode prog_15_method_62_code 182 = .ok (.ireturn, 1) := by decide +kernel
theorem d_Mo_dictOperator_173 : decode prog_15_method_62_code 173 = .ok (.iconst 5, 1) := by decide +kernel
theorem d_Mo_dictOperator_174 : decode prog_15_method_62_code 174 = .ok (.ireturn, 1) := by decide +kernel
theorem d_Mo_dictOperator_183 : decode prog_15_method_62_code 183 = .ok (.aload_n 0, 1) := by decide +kernel
theorem d_Mo_dictOperator_184 : decode prog_15_method_62_code 184 = .ok (.iconst 2, 1) := by decide +kernel
theorem d_Mo_dictOperator_185 : decode prog_15_method_62_code 185 = .ok (.iconst 2, 1) := by decide +kernel
theorem d_Mo_dictOperator_214 : decode prog_15_method_62_code 214 = .ok (.invokevirtual 262, 3) := by decide +kernel
theorem d_Mo_dictOperator_217 : decode prog_15_method_62_code 217 = .ok (.ireturn, 1) := by decide +kernel
theorem d_Mo_dictOperator_186 : decode prog_15_method_62_code 186 = .ok (.aload_n 0, 1) := by decide +kernel
theorem d_Mo_dictOperator_187 : decode prog_15_method_62_code 187 = .ok (.aload_n 0, 1) := by decide +kernel
theorem d_Mo_dictOperator_188 : decode prog_15_method_62_code 188 = .ok (.getfield 13, 3) := by decide +kernel
theorem d_Mo_dictOperator_191 : decode prog_15_method_62_code 191 = .ok (.iload_n 2, 1) := by decide +kernel
theorem d_Mo_dictOperator_192 : decode prog_15_method_62_code 192 = .ok (.iconst 1, 1) := by decide +kernel
theorem d_Mo_dictOperator_193 : decode prog_15_method_62_code 193 = .ok (.isub, 1) := by decide +kernel
theorem d_Mo_dictOperator_194 : decode prog_15_method_62_code 194 = .ok (.laload, 1) := by decide +kernel
theorem d_Mo_dictOperator_195 : decode prog_15_method_62_code 195 = .ok (.l2i, 1) := by decide +kernel
theorem d_Mo_dictOperator_196 : decode prog_15_method_62_code 196 = .ok (.aload_n 0, 1) := by decide +kernel
theorem d_Mo_dictOperator_197 : decode prog_15_method_62_code 197 = .ok (.getfield 13, 3) := by decide +kernel
theorem d_Mo_dictOperator_200 : decode prog_15_method_62_code 200 = .ok (.iload_n 2, 1) := by decide +kernel
theorem d_Mo_dictOperator_201 : decode prog_15_method_62_code 201 = .ok (.laload, 1) := by decide +kernel
theorem d_Mo_dictOperator_202 : decode prog_15_method_62_code 202 = .ok (.invokevirtual 362, 3) := by decide +kernel
theorem d_Mo_dictOperator_205 : decode prog_15_method_62_code 205 = .ok (.iconst (-1), 1) := by decide +kernel
theorem d_Mo_dictOperator_206 : decode prog_15_method_62_code 206 = .ok (.if_icmp .ne 7, 3) := by decide +kernel
theorem d_Mo_dictOperator_213 : decode prog_15_method_62_code 213 = .ok (.lconst 1, 1) := by decide +kernel
theorem d_Mo_dictOperator_209 : decode prog_15_method_62_code 209 = .ok (.lconst 0, 1) := by decide +kernel
theorem d_Mo_dictOperator_210 : decode prog_15_method_62_code 210 = .ok (.goto 4, 3) := by decide +kernel
theorem d_Mo_dictOperator_218 : decode prog_15_method_62_code 218 = .ok (.aload_n 0, 1) := by decide +kernel
theorem d_Mo_dictOperator_219 : decode prog_15_method_62_code 219 = .ok (.bipush 6, 2) := by decide +kernel
theorem d_Mo_dictOperator_221 : decode prog_15_method_62_code 221 = .ok (.aload_n 0, 1) := by decide +kernel
theorem d_Mo_dictOperator_222 : decode prog_15_method_62_code 222 = .ok (.getfield 30, 3) := by decide +kernel
theorem d_Mo_dictOperator_225 : decode prog_15_method_62_code 225 = .ok (.aload_n 0, 1) := by decide +kernel
theorem d_Mo_dictOperator_226 : decode prog_15_method_62_code 226 = .ok (.getfield 33, 3) := by decide +kernel
theorem d_Mo_dictOperator_229 : decode prog_15_method_62_code 229 = .ok (.iconst 1, 1) := by decide +kernel
theorem d_Mo_dictOperator_230 : decode prog_15_method_62_code 230 = .ok (.isub, 1) := by decide +kernel
theorem d_Mo_dictOperator_231 : decode prog_15_method_62_code 231 = .ok (.iaload, 1) := by decide +kernel
theorem d_Mo_dictOperator_232 : decode prog_15_method_62_code 232 = .ok (.i2l, 1) := by decide +kernel
theorem d_Mo_dictOperator_233 : decode prog_15_method_62_code 233 = .ok (.invokevirtual 388, 3) := by decide +kernel
theorem d_Mo_dictOperator_236 : decode prog_15_method_62_code 236 = .ok (.ireturn, 1) := by decide +kernel
set_option maxHeartbeats 4000000 in
set_option maxRecDepth 100000 in
theorem m_dictOperator (l : Launch) (D : va_G) (T : Nat → ClassId) (h0 : Nat) (ar : Nat → Nat) (S : MS) (p0 : Int32) (sz : Nat) (hI : MI S) (h1 : 43 ≤ p0.toInt ∧ p0.toInt ≤ 49) (h2 : dicP p0.toInt S) : Met l ⟨"PageScribeModel", "dictOperator", "(I)I"⟩ (wy ⟨"PageScribeModel", "dictOperator", "(I)I"⟩ prog_15_method_62_code 4 (some .int)) ({ frames := 3, cells := 0, slots := 0, locals := 210 }) (va_Pc [.ref h0, .int p0] (Pw D T (mW T h0 ar S) sz E0)) (va_Qi (fun (r : Int32) (u : MS) => MI u ∧ kA S u ∧ kF S u ∧ (0 ≤ r.toInt ∧ r.toInt ≤ 16)) (fun u t => Bw D T (va_A (mW T h0 ar S) sz) (mW T h0 ar u) t) (va_A (mW T h0 ar S) sz)) 0 0 (va_A (mW T h0 ar S) sz) := by
  refine j_met (y := ⟨"PageScribeModel", "dictOperator", "(I)I"⟩) (b := prog_15_method_62_code) (n := 4) (ret := (some .int)) (av := [.ref h0, .int p0]) (Qc := fun A => va_Qi (fun (r : Int32) (u : MS) => MI u ∧ kA S u ∧ kF S u ∧ (0 ≤ r.toInt ∧ r.toInt ≤ 16)) (fun u t => Bw D T A (mW T h0 ar u) t) A) (by decide +kernel) (Nat.le_of_ble_eq_true rfl) (fun p e s m args below meth c A ls F hr hlocks hnm hK hP hD hS hA hN hE hl => ?_)
  obtain ⟨hx, hb, hml, hown, hts⟩ := id F
  have hl : lv_has ls 4 [(0, .ref h0), (1, .int p0)] := hl
  obtain ⟨i_size, i_taken, i_vals, i_room, i_dicts, i_deep, i_open, i_cells, i_points, i_part, i_length, i_knows, i_page, i_text, i_pats, i_fuel, i_fr, i_ink⟩ := id hI
  refine lv_aload_n hx hb d_Mo_dictOperator_0 rfl (lv_at hl 0 rfl) ?_
  refine va_get (D := D) (ci := 11) (v := .int (f_size S)) (C := "PageScribeModel") (T := F_Mo) (N := 45) hx hb hts i_Mo hown hK hP 0 mW_0 cl_11 4 (by decide) (hts _ k_6_164) (fun _ h9 => h9) (mg_size _ _) d_Mo_dictOperator_1 ?_
  refine lv_iconst (v := 1) hx hb d_Mo_dictOperator_4 (by decide) ?_
  refine lv_isub hx hb d_Mo_dictOperator_5 ?_
  refine lv_topi (fun x1 ex1 => ?_)
  have fx1 : x1.toInt = ((f_size S).toInt - 1) := by rw [ex1]; exact (zt_sub (show (f_size S).toInt = _ from rfl) tI_1 (by omega) (by omega)).trans (by omega)
  refine lv_istore_n (lv' := [(2, .int x1), (0, .ref h0), (1, .int p0)]) hx hb d_Mo_dictOperator_6 rfl hl (by decide) rfl (fun ls hl => ?_)
  refine lv_iload_n hx hb d_Mo_dictOperator_7 rfl (lv_at hl 2 rfl) ?_
  by_cases h_43_1 : p0.toInt = 43
  · refine lv_tableIn (off := 40) (tgt := 48) hx hb d_Mo_dictOperator_8 (by omega) (by omega) (by rw [show p0.toInt = 43 from h_43_1]; decide +kernel) (by decide) ?_
    have hs := h2.1 (Or.inl h_43_1)
    refine lv_aload_n hx hb d_Mo_dictOperator_48 rfl (lv_at hl 1 rfl) ?_
    refine lv_aload_n hx hb d_Mo_dictOperator_49 rfl (lv_at hl 1 rfl) ?_
    refine va_get (D := D) (ci := 11) (v := .ref (ar 1)) (C := "PageScribeModel") (T := F_Mo) (N := 45) hx hb hts i_Mo hown hK hP 0 mW_0 cl_11 2 (by decide) (hts _ k_6_162) (fun _ h9 => h9) (mg_codes _ _) d_Mo_dictOperator_50 ?_
    refine lv_iload_n hx hb d_Mo_dictOperator_53 rfl (lv_at hl 0 rfl) ?_
    refine va_lald hx hb hK hP 2 1 (ma_codes _ _ _ _) rfl (zt_in fx1 (by omega) (by omega)) d_Mo_dictOperator_54 ?_
    refine lv_topl (fun x2 ex2 => ?_)
    have gx2 : x2 = (a_codes S) ((f_size S).toInt - 1).toNat := ex2.trans (congrArg _ (zt_ix fx1))
    have fx2 : x2.toInt = ((a_codes S) ((f_size S).toInt - 1).toNat).toInt := by rw [gx2]
    have kx2 : vOk ((a_kinds S) ((f_size S).toInt - 1).toNat) ((a_codes S) ((f_size S).toInt - 1).toNat) ((a_reals S) ((f_size S).toInt - 1).toNat) := i_vals (((f_size S).toInt - 1).toNat) (by omega)
    refine jm_ci (w := (fun u => u)) hK hP hD hS hA (va_runV (As := [.long x2]) (rest := []) F (m_newDict l D T h0 ar S x2 s.heap.size ⟨i_size, i_taken, i_vals, i_room, i_dicts, i_deep, i_open, i_cells, i_points, i_part, i_length, i_knows, i_page, i_text, i_pats, i_fuel, i_fr, i_ink⟩ (show 1 ≤ (f_size S).toInt by omega)) (j_cV (k := 1) (C := "PageScribeModel") hts k_8_47 k_1_12 k_8_44 k_8_46 k_0_126 (by decide +kernel) ⟨Nat.le_of_ble_eq_true rfl, Nat.le_of_ble_eq_true rfl⟩) (jm_pre hK hP hD) rfl rfl hl.1 rfl (lv_room (Nat.le_of_ble_eq_true rfl)) d_Mo_dictOperator_55 ⟨Nat.le_of_ble_eq_true rfl, Nat.le_of_ble_eq_true rfl⟩) (fun rv1 S1 H locs hw1 hP hD hS => ?_)
    have hP : va_P D classes (mW T h0 ar S1) H := hP
    have hD : va_D A (mW T h0 ar S1) := hD
    obtain ⟨⟨i_size, i_taken, i_vals, i_room, i_dicts, i_deep, i_open, i_cells, i_points, i_part, i_length, i_knows, i_page, i_text, i_pats, i_fuel, i_fr, i_ink⟩, kpA_S1, kpF_S1, qqhw1⟩ := hw1
    have kSA_S1 : kA S S1 := kA_t (show kA S S from (kA_r S)) kpA_S1
    have kSF_S1 : kF S S1 := kF_t (show kF S S from (kF_r S)) kpF_S1
    have kST_S1 : kT S S1 := kT_t (show kT S S from (kT_r S)) (kT_A kpA_S1)
    have qhw1 : rv1.toInt = 0 ∨ rv1.toInt = 4 ∨ rv1.toInt = 7 := qqhw1
    exact j_iret F hr hlocks hK hS S1 ⟨⟨i_size, i_taken, i_vals, i_room, i_dicts, i_deep, i_open, i_cells, i_points, i_part, i_length, i_knows, i_page, i_text, i_pats, i_fuel, i_fr, i_ink⟩, kSA_S1, kSF_S1, (show 0 ≤ rv1.toInt ∧ rv1.toInt ≤ 16 by omega)⟩ hP hD d_Mo_dictOperator_58
  by_cases h_44_1 : p0.toInt = 44
  · refine lv_tableIn (off := 51) (tgt := 59) hx hb d_Mo_dictOperator_8 (by omega) (by omega) (by rw [show p0.toInt = 44 from h_44_1]; decide +kernel) (by decide) ?_
    have hs := h2.2.1 h_44_1
    have kt := i_vals (((f_size S).toInt - 1).toNat) (by omega)
    have dd := vk_dict kt hs.2
    refine lv_aload_n hx hb d_Mo_dictOperator_59 rfl (lv_at hl 1 rfl) ?_
    refine va_get (D := D) (ci := 11) (v := .int (f_deep S)) (C := "PageScribeModel") (T := F_Mo) (N := 45) hx hb hts i_Mo hown hK hP 0 mW_0 cl_11 10 (by decide) (hts _ k_6_170) (fun _ h9 => h9) (mg_deep _ _) d_Mo_dictOperator_60 ?_
    refine lv_bipush (v := 6) hx hb d_Mo_dictOperator_63 (by decide) ?_
    refine lv_icmp_ne (tgt := 71) hx hb d_Mo_dictOperator_65 (by decide) (fun c65_1 => ?_) (fun c65_1 => ?_)
    · first | have fc65_1 : (f_deep S).toInt < 6 := (by have := zt_ne (show (f_deep S).toInt = _ from rfl) tI_6 c65_1; omega) | have fc65_1 : 6 < (f_deep S).toInt := (by have := zt_ne (show (f_deep S).toInt = _ from rfl) tI_6 c65_1; omega) | skip
      refine lv_aload_n hx hb d_Mo_dictOperator_71 rfl (lv_at hl 1 rfl) ?_
      refine va_get (D := D) (ci := 11) (v := .ref (ar 6)) (C := "PageScribeModel") (T := F_Mo) (N := 45) hx hb hts i_Mo hown hK hP 0 mW_0 cl_11 9 (by decide) (hts _ k_6_169) (fun _ h9 => h9) (mg_dicts _ _) d_Mo_dictOperator_72 ?_
      refine lv_aload_n hx hb d_Mo_dictOperator_75 rfl (lv_at hl 1 rfl) ?_
      refine va_get (D := D) (ci := 11) (v := .int (f_deep S)) (C := "PageScribeModel") (T := F_Mo) (N := 45) hx hb hts i_Mo hown hK hP 0 mW_0 cl_11 10 (by decide) (hts _ k_6_170) (fun _ h9 => h9) (mg_deep _ _) d_Mo_dictOperator_76 ?_
      refine lv_aload_n hx hb d_Mo_dictOperator_79 rfl (lv_at hl 1 rfl) ?_
      refine va_get (D := D) (ci := 11) (v := .ref (ar 1)) (C := "PageScribeModel") (T := F_Mo) (N := 45) hx hb hts i_Mo hown hK hP 0 mW_0 cl_11 2 (by decide) (hts _ k_6_162) (fun _ h9 => h9) (mg_codes _ _) d_Mo_dictOperator_80 ?_
      refine lv_iload_n hx hb d_Mo_dictOperator_83 rfl (lv_at hl 0 rfl) ?_
      refine va_lald hx hb hK hP 2 1 (ma_codes _ _ _ _) rfl (zt_in fx1 (by omega) (by omega)) d_Mo_dictOperator_84 ?_
      refine lv_topl (fun x3 ex3 => ?_)
      have gx3 : x3 = (a_codes S) ((f_size S).toInt - 1).toNat := ex3.trans (congrArg _ (zt_ix fx1))
      have fx3 : x3.toInt = ((a_codes S) ((f_size S).toInt - 1).toNat).toInt := by rw [gx3]
      have kx3 : vOk ((a_kinds S) ((f_size S).toInt - 1).toNat) ((a_codes S) ((f_size S).toInt - 1).toNat) ((a_reals S) ((f_size S).toInt - 1).toNat) := i_vals (((f_size S).toInt - 1).toNat) (by omega)
      refine lv_l2i (v := (x3).toInt32) hx hb d_Mo_dictOperator_85 rfl ?_
      refine lv_topi (fun x4 ex4 => ?_)
      have wx4 := zt_rng x4
      have fx4 : x4.toInt = x3.toInt := by rw [ex4]; exact zt_l2i (show x3.toInt = _ from rfl) (by omega) (by omega)
      refine va_iast hx hb hK hP hD hS 7 0 (ma_dicts _ _ _ _) rfl (zt_in (show (f_deep S).toInt = _ from rfl) (by omega) (by omega)) d_Mo_dictOperator_86 (fun H locs hP hD hS => ?_)
      rw [ms_dicts] at hP hD
      rw [zt_ix (show (f_deep S).toInt = _ from rfl)] at hP hD
      have hP : va_P D classes (mW T h0 ar ((S.1, ((a_room S), (upd (a_dicts S) ((f_deep S).toInt.toNat) x4), (f_deep S), (f_saves S), (f_open S), (a_numbers S), (a_cells S), (f_frames S)), S.2.2.1, S.2.2.2.1, S.2.2.2.2.1, S.2.2.2.2.2) : MS)) H := hP
      have hD : va_D A (mW T h0 ar ((S.1, ((a_room S), (upd (a_dicts S) ((f_deep S).toInt.toNat) x4), (f_deep S), (f_saves S), (f_open S), (a_numbers S), (a_cells S), (f_frames S)), S.2.2.1, S.2.2.2.1, S.2.2.2.2.1, S.2.2.2.2.2) : MS)) := hD
      refine lv_aload_n hx hb d_Mo_dictOperator_87 rfl (lv_at hl 1 rfl) ?_
      refine lv_dup hx hb d_Mo_dictOperator_88 rfl ?_
      refine va_get (D := D) (ci := 11) (v := .int (f_deep S)) (C := "PageScribeModel") (T := F_Mo) (N := 45) hx hb hts i_Mo hown hK hP 0 mW_0 cl_11 10 (by decide) (hts _ k_6_170) (fun _ h9 => h9) (mg_deep _ _) d_Mo_dictOperator_89 ?_
      refine lv_iconst (v := 1) hx hb d_Mo_dictOperator_92 (by decide) ?_
      refine lv_iadd hx hb d_Mo_dictOperator_93 ?_
      refine lv_topi (fun x5 ex5 => ?_)
      have fx5 : x5.toInt = ((f_deep S).toInt + 1) := by rw [ex5]; exact (zt_add (show (f_deep S).toInt = _ from rfl) tI_1 (by omega) (by omega)).trans (by omega)
      refine va_put (D := D) (ci := 11) (v := .int x5) (ty := .int) (C := "PageScribeModel") (T := F_Mo) (N := 45) hx hb hts i_Mo t_Mo t_Mo_ok n_Mo hown hK hP hD hS 0 mW_0 cl_11 10 (by decide) (hts _ k_6_170) (fun _ h9 => h9) rfl (by decide +kernel) rfl rfl (Nat.le_of_ble_eq_true rfl) d_Mo_dictOperator_94 (fun H locs hP hD hS => ?_)
      rw [mp_deep] at hP hD
      have hP : va_P D classes (mW T h0 ar ((S.1, ((a_room S), (upd (a_dicts S) ((f_deep S).toInt.toNat) x4), x5, (f_saves S), (f_open S), (a_numbers S), (a_cells S), (f_frames S)), S.2.2.1, S.2.2.2.1, S.2.2.2.2.1, S.2.2.2.2.2) : MS)) H := hP
      have hD : va_D A (mW T h0 ar ((S.1, ((a_room S), (upd (a_dicts S) ((f_deep S).toInt.toNat) x4), x5, (f_saves S), (f_open S), (a_numbers S), (a_cells S), (f_frames S)), S.2.2.1, S.2.2.2.1, S.2.2.2.2.1, S.2.2.2.2.2) : MS)) := hD
      refine lv_aload_n hx hb d_Mo_dictOperator_97 rfl (lv_at hl 1 rfl) ?_
      refine lv_dup hx hb d_Mo_dictOperator_98 rfl ?_
      refine va_get (D := D) (ci := 11) (v := .int (f_size S)) (C := "PageScribeModel") (T := F_Mo) (N := 45) hx hb hts i_Mo hown hK hP 0 mW_0 cl_11 4 (by decide) (hts _ k_6_164) (fun _ h9 => h9) (mg_size _ _) d_Mo_dictOperator_99 ?_
      refine lv_iconst (v := 1) hx hb d_Mo_dictOperator_102 (by decide) ?_
      refine lv_isub hx hb d_Mo_dictOperator_103 ?_
      refine j_eqi (y := x1) ex1.symm ?_
      refine va_put (D := D) (ci := 11) (v := .int x1) (ty := .int) (C := "PageScribeModel") (T := F_Mo) (N := 45) hx hb hts i_Mo t_Mo t_Mo_ok n_Mo hown hK hP hD hS 0 mW_0 cl_11 4 (by decide) (hts _ k_6_164) (fun _ h9 => h9) rfl (by decide +kernel) rfl rfl (Nat.le_of_ble_eq_true rfl) d_Mo_dictOperator_104 (fun H locs hP hD hS => ?_)
      rw [mp_size] at hP hD
      have hP : va_P D classes (mW T h0 ar ((((f_thrown S), (a_kinds S), (a_codes S), (a_reals S), x1, (f_taken S), (a_words S), (a_many S)), ((a_room S), (upd (a_dicts S) ((f_deep S).toInt.toNat) x4), x5, (f_saves S), (f_open S), (a_numbers S), (a_cells S), (f_frames S)), S.2.2.1, S.2.2.2.1, S.2.2.2.2.1, S.2.2.2.2.2) : MS)) H := hP
      have hD : va_D A (mW T h0 ar ((((f_thrown S), (a_kinds S), (a_codes S), (a_reals S), x1, (f_taken S), (a_words S), (a_many S)), ((a_room S), (upd (a_dicts S) ((f_deep S).toInt.toNat) x4), x5, (f_saves S), (f_open S), (a_numbers S), (a_cells S), (f_frames S)), S.2.2.1, S.2.2.2.1, S.2.2.2.2.1, S.2.2.2.2.2) : MS)) := hD
      refine lv_iconst (v := 0) hx hb d_Mo_dictOperator_107 (by decide) ?_
      exact j_iret F hr hlocks hK hS ((((f_thrown S), (a_kinds S), (a_codes S), (a_reals S), x1, (f_taken S), (a_words S), (a_many S)), ((a_room S), (upd (a_dicts S) ((f_deep S).toInt.toNat) x4), x5, (f_saves S), (f_open S), (a_numbers S), (a_cells S), (f_frames S)), S.2.2.1, S.2.2.2.1, S.2.2.2.2.1, S.2.2.2.2.2) : MS) ⟨⟨(show 0 ≤ x1.toInt ∧ x1.toInt ≤ 40 by omega), i_taken, i_vals, i_room, (ar_up (lo := 0) (hi := 6) (N := 6) i_dicts (by omega)), (show 1 ≤ x5.toInt ∧ x5.toInt ≤ 6 by omega), i_open, i_cells, i_points, i_part, i_length, i_knows, i_page, i_text, i_pats, i_fuel, i_fr, i_ink⟩, (kA_r S), (kF_r S), (show 0 ≤ (0 : Int32).toInt ∧ (0 : Int32).toInt ≤ 16 by have := tI_0; omega)⟩ hP hD d_Mo_dictOperator_108
    · have fc65_1 : (f_deep S).toInt = 6 := zt_eq (show (f_deep S).toInt = _ from rfl) tI_6 c65_1
      refine lv_bipush (v := 7) hx hb d_Mo_dictOperator_68 (by decide) ?_
      exact j_iret F hr hlocks hK hS S ⟨⟨i_size, i_taken, i_vals, i_room, i_dicts, i_deep, i_open, i_cells, i_points, i_part, i_length, i_knows, i_page, i_text, i_pats, i_fuel, i_fr, i_ink⟩, (kA_r S), (kF_r S), (show 0 ≤ (7 : Int32).toInt ∧ (7 : Int32).toInt ≤ 16 by have := tI_7; omega)⟩ hP hD d_Mo_dictOperator_70
  by_cases h_45_1 : p0.toInt = 45
  · refine lv_tableIn (off := 101) (tgt := 109) hx hb d_Mo_dictOperator_8 (by omega) (by omega) (by rw [show p0.toInt = 45 from h_45_1]; decide +kernel) (by decide) ?_
    refine lv_aload_n hx hb d_Mo_dictOperator_109 rfl (lv_at hl 1 rfl) ?_
    refine va_get (D := D) (ci := 11) (v := .int (f_deep S)) (C := "PageScribeModel") (T := F_Mo) (N := 45) hx hb hts i_Mo hown hK hP 0 mW_0 cl_11 10 (by decide) (hts _ k_6_170) (fun _ h9 => h9) (mg_deep _ _) d_Mo_dictOperator_110 ?_
    refine lv_iconst (v := 1) hx hb d_Mo_dictOperator_113 (by decide) ?_
    refine lv_icmp_ne (tgt := 120) hx hb d_Mo_dictOperator_114 (by decide) (fun c114_1 => ?_) (fun c114_1 => ?_)
    · first | have fc114_1 : (f_deep S).toInt < 1 := (by have := zt_ne (show (f_deep S).toInt = _ from rfl) tI_1 c114_1; omega) | have fc114_1 : 1 < (f_deep S).toInt := (by have := zt_ne (show (f_deep S).toInt = _ from rfl) tI_1 c114_1; omega) | skip
      refine lv_aload_n hx hb d_Mo_dictOperator_120 rfl (lv_at hl 1 rfl) ?_
      refine lv_dup hx hb d_Mo_dictOperator_121 rfl ?_
      refine va_get (D := D) (ci := 11) (v := .int (f_deep S)) (C := "PageScribeModel") (T := F_Mo) (N := 45) hx hb hts i_Mo hown hK hP 0 mW_0 cl_11 10 (by decide) (hts _ k_6_170) (fun _ h9 => h9) (mg_deep _ _) d_Mo_dictOperator_122 ?_
      refine lv_iconst (v := 1) hx hb d_Mo_dictOperator_125 (by decide) ?_
      refine lv_isub hx hb d_Mo_dictOperator_126 ?_
      refine lv_topi (fun x6 ex6 => ?_)
      have fx6 : x6.toInt = ((f_deep S).toInt - 1) := by rw [ex6]; exact (zt_sub (show (f_deep S).toInt = _ from rfl) tI_1 (by omega) (by omega)).trans (by omega)
      refine va_put (D := D) (ci := 11) (v := .int x6) (ty := .int) (C := "PageScribeModel") (T := F_Mo) (N := 45) hx hb hts i_Mo t_Mo t_Mo_ok n_Mo hown hK hP hD hS 0 mW_0 cl_11 10 (by decide) (hts _ k_6_170) (fun _ h9 => h9) rfl (by decide +kernel) rfl rfl (Nat.le_of_ble_eq_true rfl) d_Mo_dictOperator_127 (fun H locs hP hD hS => ?_)
      rw [mp_deep] at hP hD
      have hP : va_P D classes (mW T h0 ar ((S.1, ((a_room S), (a_dicts S), x6, (f_saves S), (f_open S), (a_numbers S), (a_cells S), (f_frames S)), S.2.2.1, S.2.2.2.1, S.2.2.2.2.1, S.2.2.2.2.2) : MS)) H := hP
      have hD : va_D A (mW T h0 ar ((S.1, ((a_room S), (a_dicts S), x6, (f_saves S), (f_open S), (a_numbers S), (a_cells S), (f_frames S)), S.2.2.1, S.2.2.2.1, S.2.2.2.2.1, S.2.2.2.2.2) : MS)) := hD
      refine lv_iconst (v := 0) hx hb d_Mo_dictOperator_130 (by decide) ?_
      exact j_iret F hr hlocks hK hS ((S.1, ((a_room S), (a_dicts S), x6, (f_saves S), (f_open S), (a_numbers S), (a_cells S), (f_frames S)), S.2.2.1, S.2.2.2.1, S.2.2.2.2.1, S.2.2.2.2.2) : MS) ⟨⟨i_size, i_taken, i_vals, i_room, i_dicts, (show 1 ≤ x6.toInt ∧ x6.toInt ≤ 6 by omega), i_open, i_cells, i_points, i_part, i_length, i_knows, i_page, i_text, i_pats, i_fuel, i_fr, i_ink⟩, (kA_r S), (kF_r S), (show 0 ≤ (0 : Int32).toInt ∧ (0 : Int32).toInt ≤ 16 by have := tI_0; omega)⟩ hP hD d_Mo_dictOperator_131
    · have fc114_1 : (f_deep S).toInt = 1 := zt_eq (show (f_deep S).toInt = _ from rfl) tI_1 c114_1
      refine lv_bipush (v := 9) hx hb d_Mo_dictOperator_117 (by decide) ?_
      exact j_iret F hr hlocks hK hS S ⟨⟨i_size, i_taken, i_vals, i_room, i_dicts, i_deep, i_open, i_cells, i_points, i_part, i_length, i_knows, i_page, i_text, i_pats, i_fuel, i_fr, i_ink⟩, (kA_r S), (kF_r S), (show 0 ≤ (9 : Int32).toInt ∧ (9 : Int32).toInt ≤ 16 by have := tI_9; omega)⟩ hP hD d_Mo_dictOperator_119
  by_cases h_46_1 : p0.toInt = 46
  · refine lv_tableIn (off := 124) (tgt := 132) hx hb d_Mo_dictOperator_8 (by omega) (by omega) (by rw [show p0.toInt = 46 from h_46_1]; decide +kernel) (by decide) ?_
    have hs := h2.2.2.1 h_46_1
    refine lv_aload_n hx hb d_Mo_dictOperator_132 rfl (lv_at hl 1 rfl) ?_
    refine lv_aload_n hx hb d_Mo_dictOperator_133 rfl (lv_at hl 1 rfl) ?_
    refine va_get (D := D) (ci := 11) (v := .ref (ar 6)) (C := "PageScribeModel") (T := F_Mo) (N := 45) hx hb hts i_Mo hown hK hP 0 mW_0 cl_11 9 (by decide) (hts _ k_6_169) (fun _ h9 => h9) (mg_dicts _ _) d_Mo_dictOperator_134 ?_
    refine lv_aload_n hx hb d_Mo_dictOperator_137 rfl (lv_at hl 1 rfl) ?_
    refine va_get (D := D) (ci := 11) (v := .int (f_deep S)) (C := "PageScribeModel") (T := F_Mo) (N := 45) hx hb hts i_Mo hown hK hP 0 mW_0 cl_11 10 (by decide) (hts _ k_6_170) (fun _ h9 => h9) (mg_deep _ _) d_Mo_dictOperator_138 ?_
    refine lv_iconst (v := 1) hx hb d_Mo_dictOperator_141 (by decide) ?_
    refine lv_isub hx hb d_Mo_dictOperator_142 ?_
    refine lv_topi (fun x7 ex7 => ?_)
    have fx7 : x7.toInt = ((f_deep S).toInt - 1) := by rw [ex7]; exact (zt_sub (show (f_deep S).toInt = _ from rfl) tI_1 (by omega) (by omega)).trans (by omega)
    refine va_iald hx hb hK hP 7 0 (ma_dicts _ _ _ _) rfl (zt_in fx7 (by omega) (by omega)) d_Mo_dictOperator_143 ?_
    refine lv_topi (fun x8 ex8 => ?_)
    have gx8 : x8 = (a_dicts S) ((f_deep S).toInt - 1).toNat := ex8.trans (congrArg _ (zt_ix fx7))
    have fx8 : x8.toInt = ((a_dicts S) ((f_deep S).toInt - 1).toNat).toInt := by rw [gx8]
    have kx8 := i_dicts (((f_deep S).toInt - 1).toNat) (by omega)
    refine lv_aload_n hx hb d_Mo_dictOperator_144 rfl (lv_at hl 1 rfl) ?_
    refine va_get (D := D) (ci := 11) (v := .ref (ar 1)) (C := "PageScribeModel") (T := F_Mo) (N := 45) hx hb hts i_Mo hown hK hP 0 mW_0 cl_11 2 (by decide) (hts _ k_6_162) (fun _ h9 => h9) (mg_codes _ _) d_Mo_dictOperator_145 ?_
    refine lv_iload_n hx hb d_Mo_dictOperator_148 rfl (lv_at hl 0 rfl) ?_
    refine lv_iconst (v := 1) hx hb d_Mo_dictOperator_149 (by decide) ?_
    refine lv_isub hx hb d_Mo_dictOperator_150 ?_
    refine lv_topi (fun x9 ex9 => ?_)
    have fx9 : x9.toInt = ((f_size S).toInt - 2) := by rw [ex9]; exact (zt_sub fx1 tI_1 (by omega) (by omega)).trans (by omega)
    refine va_lald hx hb hK hP 2 1 (ma_codes _ _ _ _) rfl (zt_in fx9 (by omega) (by omega)) d_Mo_dictOperator_151 ?_
    refine lv_topl (fun x10 ex10 => ?_)
    have gx10 : x10 = (a_codes S) ((f_size S).toInt - 2).toNat := ex10.trans (congrArg _ (zt_ix fx9))
    have fx10 : x10.toInt = ((a_codes S) ((f_size S).toInt - 2).toNat).toInt := by rw [gx10]
    have kx10 : vOk ((a_kinds S) ((f_size S).toInt - 2).toNat) ((a_codes S) ((f_size S).toInt - 2).toNat) ((a_reals S) ((f_size S).toInt - 2).toNat) := i_vals (((f_size S).toInt - 2).toNat) (by omega)
    refine lv_iconst (v := 2) hx hb d_Mo_dictOperator_152 (by decide) ?_
    refine jm_ci (w := (fun u => u)) hK hP hD hS hA (va_runV (As := [.int x8, .long x10, .int 2]) (rest := []) F (m_putEntry l D T h0 ar S x8 x10 (2 : Int32) s.heap.size ⟨i_size, i_taken, i_vals, i_room, i_dicts, i_deep, i_open, i_cells, i_points, i_part, i_length, i_knows, i_page, i_text, i_pats, i_fuel, i_fr, i_ink⟩ (show 0 ≤ x8.toInt ∧ x8.toInt ≤ 6 by have := tI_2; omega) (show 2 ≤ (2 : Int32).toInt ∧ (2 : Int32).toInt ≤ 3 ∧ (2 : Int32).toInt ≤ (f_size S).toInt by have := tI_2; omega)) (j_cV (k := 3) (C := "PageScribeModel") hts k_8_27 k_1_12 k_8_24 k_8_26 k_0_121 (by decide +kernel) ⟨Nat.le_of_ble_eq_true rfl, Nat.le_of_ble_eq_true rfl⟩) (jm_pre hK hP hD) rfl rfl hl.1 rfl (lv_room (Nat.le_of_ble_eq_true rfl)) d_Mo_dictOperator_153 ⟨Nat.le_of_ble_eq_true rfl, Nat.le_of_ble_eq_true rfl⟩) (fun rv2 S2 H locs hw2 hP hD hS => ?_)
    have hP : va_P D classes (mW T h0 ar S2) H := hP
    have hD : va_D A (mW T h0 ar S2) := hD
    obtain ⟨⟨i_size, i_taken, i_vals, i_room, i_dicts, i_deep, i_open, i_cells, i_points, i_part, i_length, i_knows, i_page, i_text, i_pats, i_fuel, i_fr, i_ink⟩, kpA_S2, kpF_S2, qqhw2⟩ := hw2
    have kSA_S2 : kA S S2 := kA_t (show kA S S from (kA_r S)) kpA_S2
    have kSF_S2 : kF S S2 := kF_t (show kF S S from (kF_r S)) kpF_S2
    have kST_S2 : kT S S2 := kT_t (show kT S S from (kT_r S)) (kT_A kpA_S2)
    have qhw2 : rv2.toInt = 0 ∨ rv2.toInt = 8 := by simpa only [tI_2] using qqhw2
    exact j_iret F hr hlocks hK hS S2 ⟨⟨i_size, i_taken, i_vals, i_room, i_dicts, i_deep, i_open, i_cells, i_points, i_part, i_length, i_knows, i_page, i_text, i_pats, i_fuel, i_fr, i_ink⟩, kSA_S2, kSF_S2, (show 0 ≤ rv2.toInt ∧ rv2.toInt ≤ 16 by omega)⟩ hP hD d_Mo_dictOperator_156
  by_cases h_47_1 : p0.toInt = 47
  · refine lv_tableIn (off := 149) (tgt := 157) hx hb d_Mo_dictOperator_8 (by omega) (by omega) (by rw [show p0.toInt = 47 from h_47_1]; decide +kernel) (by decide) ?_
    have hs := h2.1 (Or.inr h_47_1)
    refine lv_aload_n hx hb d_Mo_dictOperator_157 rfl (lv_at hl 1 rfl) ?_
    refine lv_aload_n hx hb d_Mo_dictOperator_158 rfl (lv_at hl 1 rfl) ?_
    refine va_get (D := D) (ci := 11) (v := .ref (ar 1)) (C := "PageScribeModel") (T := F_Mo) (N := 45) hx hb hts i_Mo hown hK hP 0 mW_0 cl_11 2 (by decide) (hts _ k_6_162) (fun _ h9 => h9) (mg_codes _ _) d_Mo_dictOperator_159 ?_
    refine lv_iload_n hx hb d_Mo_dictOperator_162 rfl (lv_at hl 0 rfl) ?_
    refine va_lald hx hb hK hP 2 1 (ma_codes _ _ _ _) rfl (zt_in fx1 (by omega) (by omega)) d_Mo_dictOperator_163 ?_
    refine lv_topl (fun x11 ex11 => ?_)
    have gx11 : x11 = (a_codes S) ((f_size S).toInt - 1).toNat := ex11.trans (congrArg _ (zt_ix fx1))
    have fx11 : x11.toInt = ((a_codes S) ((f_size S).toInt - 1).toNat).toInt := by rw [gx11]
    have kx11 : vOk ((a_kinds S) ((f_size S).toInt - 1).toNat) ((a_codes S) ((f_size S).toInt - 1).toNat) ((a_reals S) ((f_size S).toInt - 1).toNat) := i_vals (((f_size S).toInt - 1).toNat) (by omega)
    refine jm_ci (w := (fun _ => S)) hK hP hD hS hA (va_runV (As := [.long x11]) (rest := []) F (m_found l D T h0 ar S x11 s.heap.size ⟨i_size, i_taken, i_vals, i_room, i_dicts, i_deep, i_open, i_cells, i_points, i_part, i_length, i_knows, i_page, i_text, i_pats, i_fuel, i_fr, i_ink⟩) (j_cV (k := 1) (C := "PageScribeModel") hts k_7_143 k_1_12 k_7_140 k_7_142 k_0_95 (by decide +kernel) ⟨Nat.le_of_ble_eq_true rfl, Nat.le_of_ble_eq_true rfl⟩) (jm_pre hK hP hD) rfl rfl hl.1 rfl (lv_room (Nat.le_of_ble_eq_true rfl)) d_Mo_dictOperator_164 ⟨Nat.le_of_ble_eq_true rfl, Nat.le_of_ble_eq_true rfl⟩) (fun rv3 u1 H locs hw3 hP hD hS => ?_)
    have hP : va_P D classes (mW T h0 ar S) H := hP
    have hD : va_D A (mW T h0 ar S) := hD
    have qhw3 : rv3.toInt = -1 ∨ (250 ≤ rv3.toInt ∧ rv3.toInt ≤ 329) := hw3
    refine lv_istore_n (lv' := [(3, .int rv3), (2, .int x1), (0, .ref h0), (1, .int p0)]) hx hb d_Mo_dictOperator_167 rfl hl (by decide) rfl (fun ls hl => ?_)
    refine lv_iload_n hx hb d_Mo_dictOperator_168 rfl (lv_at hl 0 rfl) ?_
    refine lv_iconst (v := (-1)) hx hb d_Mo_dictOperator_169 (by decide) ?_
    refine lv_icmp_ne (tgt := 175) hx hb d_Mo_dictOperator_170 (by decide) (fun c170_1 => ?_) (fun c170_1 => ?_)
    · first | have fc170_1 : rv3.toInt < (-1) := (by have := zt_ne (show rv3.toInt = _ from rfl) tI_m1 c170_1; omega) | have fc170_1 : (-1) < rv3.toInt := (by have := zt_ne (show rv3.toInt = _ from rfl) tI_m1 c170_1; omega) | skip
      refine lv_aload_n hx hb d_Mo_dictOperator_175 rfl (lv_at hl 2 rfl) ?_
      refine lv_iload_n hx hb d_Mo_dictOperator_176 rfl (lv_at hl 1 rfl) ?_
      refine lv_iload_n hx hb d_Mo_dictOperator_177 rfl (lv_at hl 0 rfl) ?_
      refine jm_cv (w := (fun u => u)) hK hP hD hS hA (va_runV (As := [.int x1, .int rv3]) (rest := []) F (m_move l D T h0 ar S x1 rv3 H.size (show 0 ≤ x1.toInt ∧ x1.toInt < 1300 by first | omega | (simp only [fx1]; omega)) (show 0 ≤ rv3.toInt ∧ rv3.toInt < 1300 by first | omega | (simp only [fx1]; omega))) (j_cV (k := 2) (C := "PageScribeModel") hts k_7_76 k_1_12 k_7_73 k_7_75 k_0_82 (by decide +kernel) ⟨Nat.le_of_ble_eq_true rfl, Nat.le_of_ble_eq_true rfl⟩) (jm_pre hK hP hD) rfl rfl hl.1 rfl (lv_room (Nat.le_of_ble_eq_true rfl)) d_Mo_dictOperator_178 ⟨Nat.le_of_ble_eq_true rfl, Nat.le_of_ble_eq_true rfl⟩) (fun S3 H locs hw4 hP hD hS => ?_)
      try simp only [fx1] at hw4
      obtain rfl := hw4
      have hP : va_P D classes (mW T h0 ar ((((f_thrown S), (upd (a_kinds S) (((f_size S).toInt - 1).toNat) ((a_kinds S) (rv3.toInt.toNat))), (vp_updL (a_codes S) (((f_size S).toInt - 1).toNat) ((a_codes S) (rv3.toInt.toNat))), (vf_upd (a_reals S) (((f_size S).toInt - 1).toNat) ((a_reals S) (rv3.toInt.toNat))), (f_size S), (f_taken S), (a_words S), (a_many S)), S.2.1, S.2.2.1, S.2.2.2.1, S.2.2.2.2.1, S.2.2.2.2.2) : MS)) H := hP
      have hD : va_D A (mW T h0 ar ((((f_thrown S), (upd (a_kinds S) (((f_size S).toInt - 1).toNat) ((a_kinds S) (rv3.toInt.toNat))), (vp_updL (a_codes S) (((f_size S).toInt - 1).toNat) ((a_codes S) (rv3.toInt.toNat))), (vf_upd (a_reals S) (((f_size S).toInt - 1).toNat) ((a_reals S) (rv3.toInt.toNat))), (f_size S), (f_taken S), (a_words S), (a_many S)), S.2.1, S.2.2.1, S.2.2.2.1, S.2.2.2.2.1, S.2.2.2.2.2) : MS)) := hD
      have i_vals : ∀ k, k < 1300 → vOk ((upd (a_kinds S) (((f_size S).toInt - 1).toNat) ((a_kinds S) (rv3.toInt.toNat))) k) ((vp_updL (a_codes S) (((f_size S).toInt - 1).toNat) ((a_codes S) (rv3.toInt.toNat))) k) ((vf_upd (a_reals S) (((f_size S).toInt - 1).toNat) ((a_reals S) (rv3.toInt.toNat))) k) := vOk_upd i_vals (i_vals (rv3.toInt.toNat) (by omega))
      have fa1 : ((upd (a_kinds S) (((f_size S).toInt - 1).toNat) ((a_kinds S) (rv3.toInt.toNat))) (((f_size S).toInt - 1).toNat)).toInt = ((a_kinds S) (rv3.toInt.toNat)).toInt := congrArg Int32.toInt upd_s
      have fa2 : ((vp_updL (a_codes S) (((f_size S).toInt - 1).toNat) ((a_codes S) (rv3.toInt.toNat))) (((f_size S).toInt - 1).toNat)).toInt = ((a_codes S) (rv3.toInt.toNat)).toInt := congrArg Int64.toInt updL_s
      refine lv_iconst (v := 0) hx hb d_Mo_dictOperator_181 (by decide) ?_
      exact j_iret F hr hlocks hK hS ((((f_thrown S), (upd (a_kinds S) (((f_size S).toInt - 1).toNat) ((a_kinds S) (rv3.toInt.toNat))), (vp_updL (a_codes S) (((f_size S).toInt - 1).toNat) ((a_codes S) (rv3.toInt.toNat))), (vf_upd (a_reals S) (((f_size S).toInt - 1).toNat) ((a_reals S) (rv3.toInt.toNat))), (f_size S), (f_taken S), (a_words S), (a_many S)), S.2.1, S.2.2.1, S.2.2.2.1, S.2.2.2.2.1, S.2.2.2.2.2) : MS) ⟨⟨i_size, i_taken, i_vals, i_room, i_dicts, i_deep, i_open, i_cells, i_points, i_part, i_length, i_knows, i_page, i_text, i_pats, i_fuel, i_fr, i_ink⟩, (kA_r S), (kF_r S), (show 0 ≤ (0 : Int32).toInt ∧ (0 : Int32).toInt ≤ 16 by have := tI_0; omega)⟩ hP hD d_Mo_dictOperator_182
    · have fc170_1 : rv3.toInt = (-1) := zt_eq (show rv3.toInt = _ from rfl) tI_m1 c170_1
      refine lv_iconst (v := 5) hx hb d_Mo_dictOperator_173 (by decide) ?_
      exact j_iret F hr hlocks hK hS S ⟨⟨i_size, i_taken, i_vals, i_room, i_dicts, i_deep, i_open, i_cells, i_points, i_part, i_length, i_knows, i_page, i_text, i_pats, i_fuel, i_fr, i_ink⟩, (kA_r S), (kF_r S), (show 0 ≤ (5 : Int32).toInt ∧ (5 : Int32).toInt ≤ 16 by have := tI_5; omega)⟩ hP hD d_Mo_dictOperator_174
  by_cases h_48_1 : p0.toInt = 48
  · refine lv_tableIn (off := 175) (tgt := 183) hx hb d_Mo_dictOperator_8 (by omega) (by omega) (by rw [show p0.toInt = 48 from h_48_1]; decide +kernel) (by decide) ?_
    have hs := h2.2.2.2 h_48_1
    have kq := i_vals (((f_size S).toInt - 2).toNat) (by omega)
    have dd := vk_dict kq hs.2
    refine lv_aload_n hx hb d_Mo_dictOperator_183 rfl (lv_at hl 1 rfl) ?_
    refine lv_iconst (v := 2) hx hb d_Mo_dictOperator_184 (by decide) ?_
    refine lv_iconst (v := 2) hx hb d_Mo_dictOperator_185 (by decide) ?_
    refine j_joinH (α := Int64) (fun x H locs ls => (True) ∧ va_P D classes (mW T h0 ar S) H ∧ va_D A (mW T h0 ar S) ∧ va_S A s.heap H locs ∧ lv_has ls 4 [(2, .int x1), (0, .ref h0), (1, .int p0)]) (fun x ls => F0 m 214 ls (.long x :: [.int 2, .int 2, .ref h0])) (fun x H locs ls hI9 => ?_) (fun key1 => ?_)
    · obtain ⟨j1, rfl⟩ : ∃ z, z = x := ⟨_, rfl⟩
      obtain ⟨hj1, hP, hD, hS, hl⟩ := hI9
      have hP : va_P D classes (mW T h0 ar S) H := hP
      have hD : va_D A (mW T h0 ar S) := hD
      have hl : lv_has ls 4 [(2, .int x1), (0, .ref h0), (1, .int p0)] := hl
      refine jm_ci (w := (fun u => u)) hK hP hD hS hA (va_runV (As := [.int 2, .int 2, .long j1]) (rest := []) F (m_give l D T h0 ar S (2 : Int32) (2 : Int32) j1 H.size ⟨i_size, i_taken, i_vals, i_room, i_dicts, i_deep, i_open, i_cells, i_points, i_part, i_length, i_knows, i_page, i_text, i_pats, i_fuel, i_fr, i_ink⟩ (show 0 ≤ (2 : Int32).toInt ∧ (2 : Int32).toInt ≤ (f_size S).toInt ∧ (f_size S).toInt - (2 : Int32).toInt ≤ 39 by have := tI_2; have := tI_2; omega) (vO_of 2 tI_2 (by decide))) (j_cV (k := 3) (C := "PageScribeModel") hts k_7_221 k_1_12 k_7_218 k_7_220 k_0_113 (by decide +kernel) ⟨Nat.le_of_ble_eq_true rfl, Nat.le_of_ble_eq_true rfl⟩) (jm_pre hK hP hD) rfl rfl hl.1 rfl (lv_room (Nat.le_of_ble_eq_true rfl)) d_Mo_dictOperator_214 ⟨Nat.le_of_ble_eq_true rfl, Nat.le_of_ble_eq_true rfl⟩) (fun rv5 S4 H locs hw5 hP hD hS => ?_)
      have hP : va_P D classes (mW T h0 ar S4) H := hP
      have hD : va_D A (mW T h0 ar S4) := hD
      obtain ⟨⟨i_size, i_taken, i_vals, i_room, i_dicts, i_deep, i_open, i_cells, i_points, i_part, i_length, i_knows, i_page, i_text, i_pats, i_fuel, i_fr, i_ink⟩, kpA_S4, kpF_S4, qqhw5⟩ := hw5
      have kSA_S4 : kA S S4 := kA_t (show kA S S from (kA_r S)) kpA_S4
      have kSF_S4 : kF S S4 := kF_t (show kF S S from (kF_r S)) kpF_S4
      have kST_S4 : kT S S4 := kT_t (show kT S S from (kT_r S)) (kT_A kpA_S4)
      have qhw5 : rv5.toInt = 0 ∧ (f_taken S4).toInt = (f_taken S).toInt := by simpa only [tI_2] using qqhw5
      exact j_iret F hr hlocks hK hS S4 ⟨⟨i_size, i_taken, i_vals, i_room, i_dicts, i_deep, i_open, i_cells, i_points, i_part, i_length, i_knows, i_page, i_text, i_pats, i_fuel, i_fr, i_ink⟩, kSA_S4, kSF_S4, (show 0 ≤ rv5.toInt ∧ rv5.toInt ≤ 16 by omega)⟩ hP hD d_Mo_dictOperator_217
    · refine lv_aload_n hx hb d_Mo_dictOperator_186 rfl (lv_at hl 1 rfl) ?_
      refine lv_aload_n hx hb d_Mo_dictOperator_187 rfl (lv_at hl 1 rfl) ?_
      refine va_get (D := D) (ci := 11) (v := .ref (ar 1)) (C := "PageScribeModel") (T := F_Mo) (N := 45) hx hb hts i_Mo hown hK hP 0 mW_0 cl_11 2 (by decide) (hts _ k_6_162) (fun _ h9 => h9) (mg_codes _ _) d_Mo_dictOperator_188 ?_
      refine lv_iload_n hx hb d_Mo_dictOperator_191 rfl (lv_at hl 0 rfl) ?_
      refine lv_iconst (v := 1) hx hb d_Mo_dictOperator_192 (by decide) ?_
      refine lv_isub hx hb d_Mo_dictOperator_193 ?_
      refine lv_topi (fun x12 ex12 => ?_)
      have fx12 : x12.toInt = ((f_size S).toInt - 2) := by rw [ex12]; exact (zt_sub fx1 tI_1 (by omega) (by omega)).trans (by omega)
      refine va_lald hx hb hK hP 2 1 (ma_codes _ _ _ _) rfl (zt_in fx12 (by omega) (by omega)) d_Mo_dictOperator_194 ?_
      refine lv_topl (fun x13 ex13 => ?_)
      have gx13 : x13 = (a_codes S) ((f_size S).toInt - 2).toNat := ex13.trans (congrArg _ (zt_ix fx12))
      have fx13 : x13.toInt = ((a_codes S) ((f_size S).toInt - 2).toNat).toInt := by rw [gx13]
      have kx13 : vOk ((a_kinds S) ((f_size S).toInt - 2).toNat) ((a_codes S) ((f_size S).toInt - 2).toNat) ((a_reals S) ((f_size S).toInt - 2).toNat) := i_vals (((f_size S).toInt - 2).toNat) (by omega)
      refine lv_l2i (v := (x13).toInt32) hx hb d_Mo_dictOperator_195 rfl ?_
      refine lv_topi (fun x14 ex14 => ?_)
      have wx14 := zt_rng x14
      have fx14 : x14.toInt = x13.toInt := by rw [ex14]; exact zt_l2i (show x13.toInt = _ from rfl) (by omega) (by omega)
      refine lv_aload_n hx hb d_Mo_dictOperator_196 rfl (lv_at hl 1 rfl) ?_
      refine va_get (D := D) (ci := 11) (v := .ref (ar 1)) (C := "PageScribeModel") (T := F_Mo) (N := 45) hx hb hts i_Mo hown hK hP 0 mW_0 cl_11 2 (by decide) (hts _ k_6_162) (fun _ h9 => h9) (mg_codes _ _) d_Mo_dictOperator_197 ?_
      refine lv_iload_n hx hb d_Mo_dictOperator_200 rfl (lv_at hl 0 rfl) ?_
      refine va_lald hx hb hK hP 2 1 (ma_codes _ _ _ _) rfl (zt_in fx1 (by omega) (by omega)) d_Mo_dictOperator_201 ?_
      refine lv_topl (fun x15 ex15 => ?_)
      have gx15 : x15 = (a_codes S) ((f_size S).toInt - 1).toNat := ex15.trans (congrArg _ (zt_ix fx1))
      have fx15 : x15.toInt = ((a_codes S) ((f_size S).toInt - 1).toNat).toInt := by rw [gx15]
      have kx15 : vOk ((a_kinds S) ((f_size S).toInt - 1).toNat) ((a_codes S) ((f_size S).toInt - 1).toNat) ((a_reals S) ((f_size S).toInt - 1).toNat) := i_vals (((f_size S).toInt - 1).toNat) (by omega)
      refine jm_ci (w := (fun _ => S)) hK hP hD hS hA (va_runV (As := [.int x14, .long x15]) (rest := [.int 2, .int 2, .ref h0]) F (m_entry l D T h0 ar S x14 x15 s.heap.size ⟨i_size, i_taken, i_vals, i_room, i_dicts, i_deep, i_open, i_cells, i_points, i_part, i_length, i_knows, i_page, i_text, i_pats, i_fuel, i_fr, i_ink⟩ (show 0 ≤ x14.toInt ∧ x14.toInt ≤ 6 by omega)) (j_cV (k := 2) (C := "PageScribeModel") hts k_7_147 k_1_12 k_7_144 k_7_146 k_0_96 (by decide +kernel) ⟨Nat.le_of_ble_eq_true rfl, Nat.le_of_ble_eq_true rfl⟩) (jm_pre hK hP hD) rfl rfl hl.1 rfl (lv_room (Nat.le_of_ble_eq_true rfl)) d_Mo_dictOperator_202 ⟨Nat.le_of_ble_eq_true rfl, Nat.le_of_ble_eq_true rfl⟩) (fun rv6 u2 H locs hw6 hP hD hS => ?_)
      have hP : va_P D classes (mW T h0 ar S) H := hP
      have hD : va_D A (mW T h0 ar S) := hD
      have qhw6 : rv6.toInt = -1 ∨ (250 ≤ rv6.toInt ∧ rv6.toInt ≤ 329) := hw6
      refine lv_iconst (v := (-1)) hx hb d_Mo_dictOperator_205 (by decide) ?_
      refine lv_icmp_ne (tgt := 213) hx hb d_Mo_dictOperator_206 (by decide) (fun c206_1 => ?_) (fun c206_1 => ?_)
      · first | have fc206_1 : rv6.toInt < (-1) := (by have := zt_ne (show rv6.toInt = _ from rfl) tI_m1 c206_1; omega) | have fc206_1 : (-1) < rv6.toInt := (by have := zt_ne (show rv6.toInt = _ from rfl) tI_m1 c206_1; omega) | skip
        refine lv_lconst (v := 1) hx hb d_Mo_dictOperator_213 (by decide) ?_
        exact key1 (1 : Int64) _ _ _ ⟨trivial, hP, hD, hS, lv_sub hl [0, 1, 2] rfl⟩
      · have fc206_1 : rv6.toInt = (-1) := zt_eq (show rv6.toInt = _ from rfl) tI_m1 c206_1
        refine lv_lconst (v := 0) hx hb d_Mo_dictOperator_209 (by decide) ?_
        refine lv_goto (tgt := 214) hx hb d_Mo_dictOperator_210 (by decide) ?_
        exact key1 (0 : Int64) _ _ _ ⟨trivial, hP, hD, hS, lv_sub hl [0, 1, 2] rfl⟩
  refine lv_tableOut (tgt := 218) hx hb d_Mo_dictOperator_8 (by omega) (by decide) ?_
  refine lv_aload_n hx hb d_Mo_dictOperator_218 rfl (lv_at hl 1 rfl) ?_
  refine lv_bipush (v := 6) hx hb d_Mo_dictOperator_219 (by decide) ?_
  refine lv_aload_n hx hb d_Mo_dictOperator_221 rfl (lv_at hl 1 rfl) ?_
  refine va_get (D := D) (ci := 11) (v := .ref (ar 6)) (C := "PageScribeModel") (T := F_Mo) (N := 45) hx hb hts i_Mo hown hK hP 0 mW_0 cl_11 9 (by decide) (hts _ k_6_169) (fun _ h9 => h9) (mg_dicts _ _) d_Mo_dictOperator_222 ?_
  refine lv_aload_n hx hb d_Mo_dictOperator_225 rfl (lv_at hl 1 rfl) ?_
  refine va_get (D := D) (ci := 11) (v := .int (f_deep S)) (C := "PageScribeModel") (T := F_Mo) (N := 45) hx hb hts i_Mo hown hK hP 0 mW_0 cl_11 10 (by decide) (hts _ k_6_170) (fun _ h9 => h9) (mg_deep _ _) d_Mo_dictOperator_226 ?_
  refine lv_iconst (v := 1) hx hb d_Mo_dictOperator_229 (by decide) ?_
  refine lv_isub hx hb d_Mo_dictOperator_230 ?_
  refine lv_topi (fun x16 ex16 => ?_)
  have fx16 : x16.toInt = ((f_deep S).toInt - 1) := by rw [ex16]; exact (zt_sub (show (f_deep S).toInt = _ from rfl) tI_1 (by omega) (by omega)).trans (by omega)
  refine va_iald hx hb hK hP 7 0 (ma_dicts _ _ _ _) rfl (zt_in fx16 (by omega) (by omega)) d_Mo_dictOperator_231 ?_
  refine lv_topi (fun x17 ex17 => ?_)
  have gx17 : x17 = (a_dicts S) ((f_deep S).toInt - 1).toNat := ex17.trans (congrArg _ (zt_ix fx16))
  have fx17 : x17.toInt = ((a_dicts S) ((f_deep S).toInt - 1).toNat).toInt := by rw [gx17]
  have kx17 := i_dicts (((f_deep S).toInt - 1).toNat) (by omega)
  refine lv_i2l (v := (x17).toInt64) hx hb d_Mo_dictOperator_232 rfl ?_
  refine lv_topl (fun x18 ex18 => ?_)
  have fx18 : x18.toInt = x17.toInt := by rw [ex18]; exact zu_i2l (show x17.toInt = _ from rfl)
  refine jm_ci (w := (fun u => u)) hK hP hD hS hA (va_runV (As := [.int 6, .long x18]) (rest := []) F (m_push l D T h0 ar S (6 : Int32) x18 s.heap.size ⟨i_size, i_taken, i_vals, i_room, i_dicts, i_deep, i_open, i_cells, i_points, i_part, i_length, i_knows, i_page, i_text, i_pats, i_fuel, i_fr, i_ink⟩ (vO_dict tI_6 (by omega))) (j_cV (k := 2) (C := "PageScribeModel") hts k_7_191 k_1_12 k_7_188 k_7_190 k_0_106 (by decide +kernel) ⟨Nat.le_of_ble_eq_true rfl, Nat.le_of_ble_eq_true rfl⟩) (jm_pre hK hP hD) rfl rfl hl.1 rfl (lv_room (Nat.le_of_ble_eq_true rfl)) d_Mo_dictOperator_233 ⟨Nat.le_of_ble_eq_true rfl, Nat.le_of_ble_eq_true rfl⟩) (fun rv7 S5 H locs hw7 hP hD hS => ?_)
  have hP : va_P D classes (mW T h0 ar S5) H := hP
  have hD : va_D A (mW T h0 ar S5) := hD
  obtain ⟨⟨i_size, i_taken, i_vals, i_room, i_dicts, i_deep, i_open, i_cells, i_points, i_part, i_length, i_knows, i_page, i_text, i_pats, i_fuel, i_fr, i_ink⟩, kpA_S5, kpF_S5, qqhw7⟩ := hw7
  have kSA_S5 : kA S S5 := kA_t (show kA S S from (kA_r S)) kpA_S5
  have kSF_S5 : kF S S5 := kF_t (show kF S S from (kF_r S)) kpF_S5
  have kST_S5 : kT S S5 := kT_t (show kT S S from (kT_r S)) (kT_A kpA_S5)
  have qhw7 : rv7.toInt = 0 ∨ rv7.toInt = 2 := by simpa only [fx18, tI_6] using qqhw7
  exact j_iret F hr hlocks hK hS S5 ⟨⟨i_size, i_taken, i_vals, i_room, i_dicts, i_deep, i_open, i_cells, i_points, i_part, i_length, i_knows, i_page, i_text, i_pats, i_fuel, i_fr, i_ink⟩, kSA_S5, kSF_S5, (show 0 ≤ rv7.toInt ∧ rv7.toInt ≤ 16 by omega)⟩ hP hD d_Mo_dictOperator_236
