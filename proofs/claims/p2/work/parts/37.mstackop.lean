def stkP (op : Int) (S : MS) : Prop := ((op = 0 ∨ op = 2 ∨ op = 3 ∨ op = 4) → 1 ≤ (f_size S).toInt) ∧ ((op = 1 ∨ op = 5) → 2 ≤ (f_size S).toInt)
theorem d_Mo_stackOperator_0 : decode prog_15_method_44_code 0 = .ok (.aload_n 0, 1) := by decide +kernel
theorem d_Mo_stackOperator_1 : decode prog_15_method_44_code 1 = .ok (.getfield 247, 3) := by decide +kernel
theorem d_Mo_stackOperator_4 : decode prog_15_method_44_code 4 = .ok (.iconst 1, 1) := by decide +kernel
theorem d_Mo_stackOperator_5 : decode prog_15_method_44_code 5 = .ok (.isub, 1) := by decide +kernel
theorem d_Mo_stackOperator_6 : decode prog_15_method_44_code 6 = .ok (.istore_n 2, 1) := by decide +kernel
theorem d_Mo_stackOperator_21 : decode prog_15_method_44_code 21 = .ok (.lstore_n 3, 1) := by decide +kernel
theorem d_Mo_stackOperator_22 : decode prog_15_method_44_code 22 = .ok (.iload_n 1, 1) := by decide +kernel
theorem d_Mo_stackOperator_23 : decode prog_15_method_44_code 23 = .ok (.lookupswitch 270 #[(0, 89), (1, 101), (2, 127), (3, 133), (4, 203), (5, 231), (6, 245), (7, 252), (8, 263), (70, 263)], 89) := by decide +kernel
theorem d_Mo_stackOperator_112 : decode prog_15_method_44_code 112 = .ok (.aload_n 0, 1) := by decide +kernel
theorem d_Mo_stackOperator_113 : decode prog_15_method_44_code 113 = .ok (.dup, 1) := by decide +kernel
theorem d_Mo_stackOperator_114 : decode prog_15_method_44_code 114 = .ok (.getfield 247, 3) := by decide +kernel
theorem d_Mo_stackOperator_117 : decode prog_15_method_44_code 117 = .ok (.iconst 1, 1) := by decide +kernel
theorem d_Mo_stackOperator_118 : decode prog_15_method_44_code 118 = .ok (.isub, 1) := by decide +kernel
theorem d_Mo_stackOperator_119 : decode prog_15_method_44_code 119 = .ok (.putfield 247, 3) := by decide +kernel
theorem d_Mo_stackOperator_122 : decode prog_15_method_44_code 122 = .ok (.iconst 0, 1) := by decide +kernel
theorem d_Mo_stackOperator_123 : decode prog_15_method_44_code 123 = .ok (.ireturn, 1) := by decide +kernel
theorem d_Mo_stackOperator_124 : decode prog_15_method_44_code 124 = .ok (.aload_n 0, 1) := by decide +kernel
theorem d_Mo_stackOperator_125 : decode prog_15_method_44_code 125 = .ok (.bipush 41, 2) := by decide +kernel
theorem d_Mo_stackOperator_127 : decode prog_15_method_44_code 127 = .ok (.iload_n 2, 1) := by decide +kernel
theorem d_Mo_stackOperator_128 : decode prog_15_method_44_code 128 = .ok (.invokevirtual 254, 3) := by decide +kernel
theorem tI_41 : (41 : Int32).toInt = 41 := by decide +kernel
theorem d_Mo_stackOperator_131 : decode prog_15_method_44_code 131 = .ok (.aload_n 0, 1) := by decide +kernel
theorem d_Mo_stackOperator_132 : decode prog_15_method_44_code 132 = .ok (.iload_n 2, 1) := by decide +kernel
theorem d_Mo_stackOperator_133 : decode prog_15_method_44_code 133 = .ok (.iload_n 2, 1) := by decide +kernel
theorem d_Mo_stackOperator_134 : decode prog_15_method_44_code 134 = .ok (.iconst 1, 1) := by decide +kernel
theorem d_Mo_stackOperator_135 : decode prog_15_method_44_code 135 = .ok (.isub, 1) := by decide +kernel
theorem d_Mo_stackOperator_136 : decode prog_15_method_44_code 136 = .ok (.invokevirtual 254, 3) := by decide +kernel
theorem d_Mo_stackOperator_139 : decode prog_15_method_44_code 139 = .ok (.aload_n 0, 1) := by decide +kernel
theorem d_Mo_stackOperator_140 : decode prog_15_method_44_code 140 = .ok (.iload_n 2, 1) := by decide +kernel
theorem d_Mo_stackOperator_141 : decode prog_15_method_44_code 141 = .ok (.iconst 1, 1) := by decide +kernel
theorem d_Mo_stackOperator_142 : decode prog_15_method_44_code 142 = .ok (.isub, 1) := by decide +kernel
theorem d_Mo_stackOperator_143 : decode prog_15_method_44_code 143 = .ok (.bipush 41, 2) := by decide +kernel
theorem d_Mo_stackOperator_145 : decode prog_15_method_44_code 145 = .ok (.invokevirtual 254, 3) := by decide +kernel
theorem d_Mo_stackOperator_148 : decode prog_15_method_44_code 148 = .ok (.iconst 0, 1) := by decide +kernel
theorem d_Mo_stackOperator_149 : decode prog_15_method_44_code 149 = .ok (.ireturn, 1) := by decide +kernel
theorem d_Mo_stackOperator_150 : decode prog_15_method_44_code 150 = .ok (.aload_n 0, 1) := by decide +kernel
theorem d_Mo_stackOperator_151 : decode prog_15_method_44_code 151 = .ok (.iload_n 2, 1) := by decide +kernel
theorem d_Mo_stackOperator_152 : decode prog_15_method_44_code 152 = .ok (.invokevirtual 369, 3) := by decide +kernel
theorem k_7_139 : Cond.code ⟨"PageScribeModel", "pushValue", "(I)I"⟩ prog_15_method_12_code 2 (some .int) ∈ gw := gw_of (tb_7 (List.mem_of_getElem? (i := 139) (by decide +kernel))) (by decide +kernel)
theorem k_7_136 : Cond.methodLink "PageScribeModel" 369 ⟨"PageScribeModel", "pushValue", "(I)I"⟩ ∈ gw := gw_of (tb_7 (List.mem_of_getElem? (i := 136) (by decide +kernel))) (by decide +kernel)
theorem k_7_138 : Cond.instanceMethod ⟨"PageScribeModel", "pushValue", "(I)I"⟩ ∈ gw := gw_of (tb_7 (List.mem_of_getElem? (i := 138) (by decide +kernel))) (by decide +kernel)
theorem k_0_94 : Cond.selects "PageScribeModel" ⟨"PageScribeModel", "pushValue", "(I)I"⟩ ⟨"PageScribeModel", "pushValue", "(I)I"⟩ ∈ gw := gw_of (tb_0 (List.mem_of_getElem? (i := 94) (by decide +kernel))) (by decide +kernel)
theorem d_Mo_stackOperator_155 : decode prog_15_method_44_code 155 = .ok (.ireturn, 1) := by decide +kernel
theorem d_Mo_stackOperator_156 : decode prog_15_method_44_code 156 = .ok (.lload_n 3, 1) := by decide +kernel
theorem d_Mo_stackOperator_157 : decode prog_15_method_44_code 157 = .ok (.lconst 0, 1) := by decide +kernel
theorem d_Mo_stackOperator_158 : decode prog_15_method_44_code 158 = .ok (.lcmp, 1) := by decide +kernel
theorem d_Mo_stackOperator_159 : decode prog_15_method_44_code 159 = .ok (.ifCond .lt 10, 3) := by decide +kernel
theorem d_Mo_stackOperator_169 : decode prog_15_method_44_code 169 = .ok (.iconst 4, 1) := by decide +kernel
theorem d_Mo_stackOperator_170 : decode prog_15_method_44_code 170 = .ok (.ireturn, 1) := by decide +kernel
theorem d_Mo_stackOperator_162 : decode prog_15_method_44_code 162 = .ok (.lload_n 3, 1) := by decide +kernel
theorem d_Mo_stackOperator_163 : decode prog_15_method_44_code 163 = .ok (.iload_n 2, 1) := by decide +kernel
theorem d_Mo_stackOperator_164 : decode prog_15_method_44_code 164 = .ok (.i2l, 1) := by decide +kernel
theorem d_Mo_stackOperator_165 : decode prog_15_method_44_code 165 = .ok (.lcmp, 1) := by decide +kernel
theorem d_Mo_stackOperator_166 : decode prog_15_method_44_code 166 = .ok (.ifCond .le 5, 3) := by decide +kernel
theorem d_Mo_stackOperator_171 : decode prog_15_method_44_code 171 = .ok (.iload_n 2, 1) := by decide +kernel
theorem d_Mo_stackOperator_172 : decode prog_15_method_44_code 172 = .ok (.i2l, 1) := by decide +kernel
theorem d_Mo_stackOperator_173 : decode prog_15_method_44_code 173 = .ok (.lload_n 3, 1) := by decide +kernel
theorem d_Mo_stackOperator_174 : decode prog_15_method_44_code 174 = .ok (.ladd, 1) := by decide +kernel
theorem d_Mo_stackOperator_175 : decode prog_15_method_44_code 175 = .ok (.ldc2_w 461, 3) := by decide +kernel
theorem k_7_183 : Cond.constantLong "PageScribeModel" 461 (40 : Int64) ∈ gw := gw_of (tb_7 (List.mem_of_getElem? (i := 183) (by decide +kernel))) (by decide +kernel)
theorem d_Mo_stackOperator_178 : decode prog_15_method_44_code 178 = .ok (.lcmp, 1) := by decide +kernel
theorem tJ_40 : (40 : Int64).toInt = 40 := by decide +kernel
theorem d_Mo_stackOperator_179 : decode prog_15_method_44_code 179 = .ok (.ifCond .le 5, 3) := by decide +kernel
theorem d_Mo_stackOperator_184 : decode prog_15_method_44_code 184 = .ok (.iconst 0, 1) := by decide +kernel
theorem d_Mo_stackOperator_185 : decode prog_15_method_44_code 185 = .ok (.istore 5, 2) := by decide +kernel
theorem d_Mo_stackOperator_187 : decode prog_15_method_44_code 187 = .ok (.iload 5, 2) := by decide +kernel
theorem d_Mo_stackOperator_189 : decode prog_15_method_44_code 189 = .ok (.i2l, 1) := by decide +kernel
theorem d_Mo_stackOperator_190 : decode prog_15_method_44_code 190 = .ok (.lload_n 3, 1) := by decide +kernel
theorem d_Mo_stackOperator_191 : decode prog_15_method_44_code 191 = .ok (.lcmp, 1) := by decide +kernel
theorem d_Mo_stackOperator_192 : decode prog_15_method_44_code 192 = .ok (.ifCond .ge 24, 3) := by decide +kernel
theorem d_Mo_stackOperator_216 : decode prog_15_method_44_code 216 = .ok (.aload_n 0, 1) := by decide +kernel
theorem d_Mo_stackOperator_217 : decode prog_15_method_44_code 217 = .ok (.iload_n 2, 1) := by decide +kernel
theorem d_Mo_stackOperator_218 : decode prog_15_method_44_code 218 = .ok (.lload_n 3, 1) := by decide +kernel
theorem d_Mo_stackOperator_219 : decode prog_15_method_44_code 219 = .ok (.l2i, 1) := by decide +kernel
theorem d_Mo_stackOperator_220 : decode prog_15_method_44_code 220 = .ok (.iadd, 1) := by decide +kernel
theorem d_Mo_stackOperator_221 : decode prog_15_method_44_code 221 = .ok (.putfield 247, 3) := by decide +kernel
theorem d_Mo_stackOperator_224 : decode prog_15_method_44_code 224 = .ok (.iconst 0, 1) := by decide +kernel
theorem d_Mo_stackOperator_225 : decode prog_15_method_44_code 225 = .ok (.ireturn, 1) := by decide +kernel
theorem d_Mo_stackOperator_195 : decode prog_15_method_44_code 195 = .ok (.aload_n 0, 1) := by decide +kernel
theorem d_Mo_stackOperator_196 : decode prog_15_method_44_code 196 = .ok (.iload_n 2, 1) := by decide +kernel
theorem d_Mo_stackOperator_197 : decode prog_15_method_44_code 197 = .ok (.iload 5, 2) := by decide +kernel
theorem d_Mo_stackOperator_199 : decode prog_15_method_44_code 199 = .ok (.iadd, 1) := by decide +kernel
theorem d_Mo_stackOperator_200 : decode prog_15_method_44_code 200 = .ok (.iload_n 2, 1) := by decide +kernel
theorem d_Mo_stackOperator_201 : decode prog_15_method_44_code 201 = .ok (.iload 5, 2) := by decide +kernel
theorem d_Mo_stackOperator_203 : decode prog_15_method_44_code 203 = .ok (.iadd, 1) := by decide +kernel
theorem d_Mo_stackOperator_204 : decode prog_15_method_44_code 204 = .ok (.lload_n 3, 1) := by decide +kernel
theorem d_Mo_stackOperator_205 : decode prog_15_method_44_code 205 = .ok (.l2i, 1) := by decide +kernel
theorem d_Mo_stackOperator_206 : decode prog_15_method_44_code 206 = .ok (.isub, 1) := by decide +kernel
theorem d_Mo_stackOperator_207 : decode prog_15_method_44_code 207 = .ok (.invokevirtual 254, 3) := by decide +kernel
theorem d_Mo_stackOperator_210 : decode prog_15_method_44_code 210 = .ok (.iinc 5 1, 3) := by decide +kernel
theorem d_Mo_stackOperator_213 : decode prog_15_method_44_code 213 = .ok (.goto (-26), 3) := by decide +kernel
theorem d_Mo_stackOperator_182 : decode prog_15_method_44_code 182 = .ok (.iconst 2, 1) := by decide +kernel
theorem d_Mo_stackOperator_183 : decode prog_15_method_44_code 183 = .ok (.ireturn, 1) := by decide +kernel
theorem d_Mo_stackOperator_226 : decode prog_15_method_44_code 226 = .ok (.lload_n 3, 1) := by decide +kernel
theorem d_Mo_stackOperator_227 : decode prog_15_method_44_code 227 = .ok (.lconst 0, 1) := by decide +kernel
theorem d_Mo_stackOperator_228 : decode prog_15_method_44_code 228 = .ok (.lcmp, 1) := by decide +kernel
theorem d_Mo_stackOperator_229 : decode prog_15_method_44_code 229 = .ok (.ifCond .lt 10, 3) := by decide +kernel
theorem d_Mo_stackOperator_239 : decode prog_15_method_44_code 239 = .ok (.iconst 4, 1) := by decide +kernel
theorem d_Mo_stackOperator_240 : decode prog_15_method_44_code 240 = .ok (.ireturn, 1) := by decide +kernel
theorem d_Mo_stackOperator_232 : decode prog_15_method_44_code 232 = .ok (.lload_n 3, 1) := by decide +kernel
theorem d_Mo_stackOperator_233 : decode prog_15_method_44_code 233 = .ok (.iload_n 2, 1) := by decide +kernel
theorem d_Mo_stackOperator_234 : decode prog_15_method_44_code 234 = .ok (.i2l, 1) := by decide +kernel
theorem d_Mo_stackOperator_235 : decode prog_15_method_44_code 235 = .ok (.lcmp, 1) := by decide +kernel
theorem d_Mo_stackOperator_236 : decode prog_15_method_44_code 236 = .ok (.ifCond .lt 5, 3) := by decide +kernel
theorem d_Mo_stackOperator_241 : decode prog_15_method_44_code 241 = .ok (.aload_n 0, 1) := by decide +kernel
theorem d_Mo_stackOperator_242 : decode prog_15_method_44_code 242 = .ok (.iload_n 2, 1) := by decide +kernel
theorem d_Mo_stackOperator_243 : decode prog_15_method_44_code 243 = .ok (.iload_n 2, 1) := by decide +kernel
theorem d_Mo_stackOperator_244 : decode prog_15_method_44_code 244 = .ok (.iconst 1, 1) := by decide +kernel
theorem d_Mo_stackOperator_245 : decode prog_15_method_44_code 245 = .ok (.isub, 1) := by decide +kernel
theorem d_Mo_stackOperator_246 : decode prog_15_method_44_code 246 = .ok (.lload_n 3, 1) := by decide +kernel
theorem d_Mo_stackOperator_247 : decode prog_15_method_44_code 247 = .ok (.l2i, 1) := by decide +kernel
theorem d_Mo_stackOperator_248 : decode prog_15_method_44_code 248 = .ok (.isub, 1) := by decide +kernel
theorem d_Mo_stackOperator_249 : decode prog_15_method_44_code 249 = .ok (.invokevirtual 254, 3) := by decide +kernel
theorem d_Mo_stackOperator_252 : decode prog_15_method_44_code 252 = .ok (.iconst 0, 1) := by decide +kernel
theorem d_Mo_stackOperator_253 : decode prog_15_method_44_code 253 = .ok (.ireturn, 1) := by decide +kernel
theorem d_Mo_stackOperator_254 : decode prog_15_method_44_code 254 = .ok (.aload_n 0, 1) := by decide +kernel
theorem d_Mo_stackOperator_255 : decode prog_15_method_44_code 255 = .ok (.aload_n 0, 1) := by decide +kernel
theorem d_Mo_stackOperator_256 : decode prog_15_method_44_code 256 = .ok (.getfield 13, 3) := by decide +kernel
theorem d_Mo_stackOperator_259 : decode prog_15_method_44_code 259 = .ok (.iload_n 2, 1) := by decide +kernel
theorem d_Mo_stackOperator_260 : decode prog_15_method_44_code 260 = .ok (.iconst 1, 1) := by decide +kernel
theorem d_Mo_stackOperator_261 : decode prog_15_method_44_code 261 = .ok (.isub, 1) := by decide +kernel
theorem d_Mo_stackOperator_262 : decode prog_15_method_44_code 262 = .ok (.laload, 1) := by decide +kernel
theorem d_Mo_stackOperator_263 : decode prog_15_method_44_code 263 = .ok (.lload_n 3, 1) := by decide +kernel
theorem d_Mo_stackOperator_264 : decode prog_15_method_44_code 264 = .ok (.invokevirtual 463, 3) := by decide +kernel
theorem k_7_187 : Cond.code ⟨"PageScribeModel", "roll", "(JJ)I"⟩ prog_15_method_45_code 7 (some .int) ∈ gw := gw_of (tb_7 (List.mem_of_getElem? (i := 187) (by decide +kernel))) (by decide +kernel)
theorem k_7_184 : Cond.methodLink "PageScribeModel" 463 ⟨"PageScribeModel", "roll", "(JJ)I"⟩ ∈ gw := gw_of (tb_7 (List.mem_of_getElem? (i := 184) (by decide +kernel))) (by decide +kernel)
theorem k_7_186 : Cond.instanceMethod ⟨"PageScribeModel", "roll", "(JJ)I"⟩ ∈ gw := gw_of (tb_7 (List.mem_of_getElem? (i := 186) (by decide +kernel))) (by decide +kernel)
theorem k_0_105 : Cond.selects "PageScribeModel" ⟨"PageScribeModel", "roll", "(JJ)I"⟩ ⟨"PageScribeModel", "roll", "(JJ)I"⟩ ∈ gw := gw_of (tb_0 (List.mem_of_getElem? (i := 105) (by decide +kernel))) (by decide +kernel)
theorem d_Mo_stackOperator_267 : decode prog_15_method_44_code 267 = .ok (.ireturn, 1) := by decide +kernel
theorem d_Mo_stackOperator_268 : decode prog_15_method_44_code 268 = .ok (.aload_n 0, 1) := by decide +kernel
theorem d_Mo_stackOperator_269 : decode prog_15_method_44_code 269 = .ok (.iconst 0, 1) := by decide +kernel
theorem d_Mo_stackOperator_270 : decode prog_15_method_44_code 270 = .ok (.putfield 247, 3) := by decide +kernel
theorem d_Mo_stackOperator_273 : decode prog_15_method_44_code 273 = .ok (.iconst 0, 1) := by decide +kernel
theorem d_Mo_stackOperator_274 : decode prog_15_method_44_code 274 = .ok (.ireturn, 1) := by decide +kernel
theorem d_Mo_stackOperator_275 : decode prog_15_method_44_code 275 = .ok (.aload_n 0, 1) := by decide +kernel
theorem d_Mo_stackOperator_276 : decode prog_15_method_44_code 276 = .ok (.iconst 0, 1) := by decide +kernel
theorem d_Mo_stackOperator_277 : decode prog_15_method_44_code 277 = .ok (.aload_n 0, 1) := by decide +kernel
theorem d_Mo_stackOperator_278 : decode prog_15_method_44_code 278 = .ok (.getfield 247, 3) := by decide +kernel
theorem d_Mo_stackOperator_281 : decode prog_15_method_44_code 281 = .ok (.i2l, 1) := by decide +kernel
theorem d_Mo_stackOperator_282 : decode prog_15_method_44_code 282 = .ok (.invokevirtual 388, 3) := by decide +kernel
theorem d_Mo_stackOperator_285 : decode prog_15_method_44_code 285 = .ok (.ireturn, 1) := by decide +kernel
theorem d_Mo_stackOperator_286 : decode prog_15_method_44_code 286 = .ok (.aload_n 0, 1) := by decide +kernel
theorem d_Mo_stackOperator_287 : decode prog_15_method_44_code 287 = .ok (.iconst 4, 1) := by decide +kernel
theorem d_Mo_stackOperator_288 : decode prog_15_method_44_code 288 = .ok (.lconst 0, 1) := by decide +kernel
theorem d_Mo_stackOperator_289 : decode prog_15_method_44_code 289 = .ok (.invokevirtual 388, 3) := by decide +kernel
theorem d_Mo_stackOperator_292 : decode prog_15_method_44_code 292 = .ok (.ireturn, 1) := by decide +kernel
theorem d_Mo_stackOperator_293 : decode prog_15_method_44_code 293 = .ok (.aload_n 0, 1) := by decide +kernel
theorem d_Mo_stackOperator_294 : decode prog_15_method_44_code 294 = .ok (.iload_n 1, 1) := by decide +kernel
theorem d_Mo_stackOperator_295 : decode prog_15_method_44_code 295 = .ok (.invokevirtual 467, 3) := by decide +kernel
theorem k_7_195 : Cond.code ⟨"PageScribeModel", "toMark", "(I)I"⟩ prog_15_method_46_code 4 (some .int) ∈ gw := gw_of (tb_7 (List.mem_of_getElem? (i := 195) (by decide +kernel))) (by decide +kernel)
theorem k_7_192 : Cond.methodLink "PageScribeModel" 467 ⟨"PageScribeModel", "toMark", "(I)I"⟩ ∈ gw := gw_of (tb_7 (List.mem_of_getElem? (i := 192) (by decide +kernel))) (by decide +kernel)
theorem k_7_194 : Cond.instanceMethod ⟨"PageScribeModel", "toMark", "(I)I"⟩ ∈ gw := gw_of (tb_7 (List.mem_of_getElem? (i := 194) (by decide +kernel))) (by decide +kernel)
theorem k_0_107 : Cond.selects "PageScribeModel" ⟨"PageScribeModel", "toMark", "(I)I"⟩ ⟨"PageScribeModel", "toMark", "(I)I"⟩ ∈ gw := gw_of (tb_0 (List.mem_of_getElem? (i := 107) (by decide +kernel))) (by decide +kernel)
theorem d_Mo_stackOperator_298 : decode prog_15_method_44_code 298 = .ok (.ireturn, 1) := by decide +kernel
theorem d_Mo_stackOperator_7 : decode prog_15_method_44_code 7 = .ok (.iload_n 2, 1) := by decide +kernel
theorem d_Mo_stackOperator_8 : decode prog_15_method_44_code 8 = .ok (.ifCond .ge 7, 3) := by decide +kernel
theorem d_Mo_stackOperator_15 : decode prog_15_method_44_code 15 = .ok (.aload_n 0, 1) := by decide +kernel
theorem d_Mo_stackOperator_16 : decode prog_15_method_44_code 16 = .ok (.getfield 13, 3) := by decide +kernel
theorem d_Mo_stackOperator_19 : decode prog_15_method_44_code 19 = .ok (.iload_n 2, 1) := by decide +kernel
theorem d_Mo_stackOperator_20 : decode prog_15_method_44_code 20 = .ok (.laload, 1) := by decide +kernel
theorem d_Mo_stackOperator_11 : decode prog_15_method_44_code 11 = .ok (.lconst 0, 1) := by decide +kernel
theorem d_Mo_stackOperator_12 : decode prog_15_method_44_code 12 = .ok (.goto 9, 3) := by decide +kernel
set_option maxHeartbeats 4000000 in
set_option maxRecDepth 100000 in
theorem m_stackOperator (l : Launch) (D : va_G) (T : Nat → ClassId) (h0 : Nat) (ar : Nat → Nat) (S : MS) (p0 : Int32) (sz : Nat) (hI : MI S) (h1 : (0 ≤ p0.toInt ∧ p0.toInt ≤ 9) ∨ p0.toInt = 70 ∨ p0.toInt = 71) (h2 : stkP p0.toInt S) : Met l ⟨"PageScribeModel", "stackOperator", "(I)I"⟩ (wy ⟨"PageScribeModel", "stackOperator", "(I)I"⟩ prog_15_method_44_code 6 (some .int)) ({ frames := 3, cells := 0, slots := 0, locals := 210 }) (va_Pc [.ref h0, .int p0] (Pw D T (mW T h0 ar S) sz E0)) (va_Qi (fun (r : Int32) (u : MS) => MI u ∧ kA S u ∧ kF S u ∧ (0 ≤ r.toInt ∧ r.toInt ≤ 16)) (fun u t => Bw D T (va_A (mW T h0 ar S) sz) (mW T h0 ar u) t) (va_A (mW T h0 ar S) sz)) 0 0 (va_A (mW T h0 ar S) sz) := by
  refine j_met (y := ⟨"PageScribeModel", "stackOperator", "(I)I"⟩) (b := prog_15_method_44_code) (n := 6) (ret := (some .int)) (av := [.ref h0, .int p0]) (Qc := fun A => va_Qi (fun (r : Int32) (u : MS) => MI u ∧ kA S u ∧ kF S u ∧ (0 ≤ r.toInt ∧ r.toInt ≤ 16)) (fun u t => Bw D T A (mW T h0 ar u) t) A) (by decide +kernel) (Nat.le_of_ble_eq_true rfl) (fun p e s m args below meth c A ls F hr hlocks hnm hK hP hD hS hA hN hE hl => ?_)
  obtain ⟨hx, hb, hml, hown, hts⟩ := id F
  have hl : lv_has ls 6 [(0, .ref h0), (1, .int p0)] := hl
  obtain ⟨i_size, i_taken, i_vals, i_room, i_dicts, i_deep, i_open, i_cells, i_points, i_part, i_length, i_knows, i_page, i_text, i_pats, i_fuel, i_fr, i_ink⟩ := id hI
  refine lv_aload_n hx hb d_Mo_stackOperator_0 rfl (lv_at hl 0 rfl) ?_
  refine va_get (D := D) (ci := 11) (v := .int (f_size S)) (C := "PageScribeModel") (T := F_Mo) (N := 45) hx hb hts i_Mo hown hK hP 0 mW_0 cl_11 4 (by decide) (hts _ k_6_164) (fun _ h9 => h9) (mg_size _ _) d_Mo_stackOperator_1 ?_
  refine lv_iconst (v := 1) hx hb d_Mo_stackOperator_4 (by decide) ?_
  refine lv_isub hx hb d_Mo_stackOperator_5 ?_
  refine lv_topi (fun x1 ex1 => ?_)
  have fx1 : x1.toInt = ((f_size S).toInt - 1) := by rw [ex1]; exact (zt_sub (show (f_size S).toInt = _ from rfl) tI_1 (by omega) (by omega)).trans (by omega)
  refine lv_istore_n (lv' := [(2, .int x1), (0, .ref h0), (1, .int p0)]) hx hb d_Mo_stackOperator_6 rfl hl (by decide) rfl (fun ls hl => ?_)
  refine j_joinH (α := Int64) (fun x H locs ls => (True) ∧ va_P D classes (mW T h0 ar S) H ∧ va_D A (mW T h0 ar S) ∧ va_S A s.heap H locs ∧ lv_has ls 6 [(2, .int x1), (0, .ref h0), (1, .int p0)]) (fun x ls => F0 m 21 ls (.long x :: [])) (fun x H locs ls hI9 => ?_) (fun key1 => ?_)
  · obtain ⟨j1, rfl⟩ : ∃ z, z = x := ⟨_, rfl⟩
    obtain ⟨hj1, hP, hD, hS, hl⟩ := hI9
    have hP : va_P D classes (mW T h0 ar S) H := hP
    have hD : va_D A (mW T h0 ar S) := hD
    have hl : lv_has ls 6 [(2, .int x1), (0, .ref h0), (1, .int p0)] := hl
    refine lv_lstore_n (lv' := [(3, .long j1), (2, .int x1), (0, .ref h0), (1, .int p0)]) hx hb d_Mo_stackOperator_21 rfl hl (by decide) rfl (fun ls hl => ?_)
    refine lv_iload_n hx hb d_Mo_stackOperator_22 rfl (lv_at hl 3 rfl) ?_
    by_cases h_0_1 : p0.toInt = 0
    · refine lv_lookup (off := 89) (tgt := 112) hx hb d_Mo_stackOperator_23 (by decide +kernel) (by rw [show p0.toInt = 0 from h_0_1]; decide +kernel) (by decide) ?_
      have hs := h2.1 (by omega)
      refine lv_aload_n hx hb d_Mo_stackOperator_112 rfl (lv_at hl 2 rfl) ?_
      refine lv_dup hx hb d_Mo_stackOperator_113 rfl ?_
      refine va_get (D := D) (ci := 11) (v := .int (f_size S)) (C := "PageScribeModel") (T := F_Mo) (N := 45) hx hb hts i_Mo hown hK hP 0 mW_0 cl_11 4 (by decide) (hts _ k_6_164) (fun _ h9 => h9) (mg_size _ _) d_Mo_stackOperator_114 ?_
      refine lv_iconst (v := 1) hx hb d_Mo_stackOperator_117 (by decide) ?_
      refine lv_isub hx hb d_Mo_stackOperator_118 ?_
      refine j_eqi (y := x1) ex1.symm ?_
      refine va_put (D := D) (ci := 11) (v := .int x1) (ty := .int) (C := "PageScribeModel") (T := F_Mo) (N := 45) hx hb hts i_Mo t_Mo t_Mo_ok n_Mo hown hK hP hD hS 0 mW_0 cl_11 4 (by decide) (hts _ k_6_164) (fun _ h9 => h9) rfl (by decide +kernel) rfl rfl (Nat.le_of_ble_eq_true rfl) d_Mo_stackOperator_119 (fun H locs hP hD hS => ?_)
      rw [mp_size] at hP hD
      have hP : va_P D classes (mW T h0 ar ((((f_thrown S), (a_kinds S), (a_codes S), (a_reals S), x1, (f_taken S), (a_words S), (a_many S)), S.2.1, S.2.2.1, S.2.2.2.1, S.2.2.2.2.1, S.2.2.2.2.2) : MS)) H := hP
      have hD : va_D A (mW T h0 ar ((((f_thrown S), (a_kinds S), (a_codes S), (a_reals S), x1, (f_taken S), (a_words S), (a_many S)), S.2.1, S.2.2.1, S.2.2.2.1, S.2.2.2.2.1, S.2.2.2.2.2) : MS)) := hD
      refine lv_iconst (v := 0) hx hb d_Mo_stackOperator_122 (by decide) ?_
      exact j_iret F hr hlocks hK hS ((((f_thrown S), (a_kinds S), (a_codes S), (a_reals S), x1, (f_taken S), (a_words S), (a_many S)), S.2.1, S.2.2.1, S.2.2.2.1, S.2.2.2.2.1, S.2.2.2.2.2) : MS) ⟨⟨(show 0 ≤ x1.toInt ∧ x1.toInt ≤ 40 by omega), i_taken, i_vals, i_room, i_dicts, i_deep, i_open, i_cells, i_points, i_part, i_length, i_knows, i_page, i_text, i_pats, i_fuel, i_fr, i_ink⟩, (kA_r S), (kF_r S), (show 0 ≤ (0 : Int32).toInt ∧ (0 : Int32).toInt ≤ 16 by have := tI_0; omega)⟩ hP hD d_Mo_stackOperator_123
    by_cases h_1_1 : p0.toInt = 1
    · refine lv_lookup (off := 101) (tgt := 124) hx hb d_Mo_stackOperator_23 (by decide +kernel) (by rw [show p0.toInt = 1 from h_1_1]; decide +kernel) (by decide) ?_
      have hs := h2.2 (by omega)
      refine lv_aload_n hx hb d_Mo_stackOperator_124 rfl (lv_at hl 2 rfl) ?_
      refine lv_bipush (v := 41) hx hb d_Mo_stackOperator_125 (by decide) ?_
      refine lv_iload_n hx hb d_Mo_stackOperator_127 rfl (lv_at hl 1 rfl) ?_
      refine jm_cv (w := (fun u => u)) hK hP hD hS hA (va_runV (As := [.int 41, .int x1]) (rest := []) F (m_move l D T h0 ar S (41 : Int32) x1 H.size (show 0 ≤ (41 : Int32).toInt ∧ (41 : Int32).toInt < 1300 by have := tI_41; first | omega | (simp only [fx1]; omega)) (show 0 ≤ x1.toInt ∧ x1.toInt < 1300 by have := tI_41; first | omega | (simp only [fx1]; omega))) (j_cV (k := 2) (C := "PageScribeModel") hts k_7_76 k_1_12 k_7_73 k_7_75 k_0_82 (by decide +kernel) ⟨Nat.le_of_ble_eq_true rfl, Nat.le_of_ble_eq_true rfl⟩) (jm_pre hK hP hD) rfl rfl hl.1 rfl (lv_room (Nat.le_of_ble_eq_true rfl)) d_Mo_stackOperator_128 ⟨Nat.le_of_ble_eq_true rfl, Nat.le_of_ble_eq_true rfl⟩) (fun S1 H locs hw1 hP hD hS => ?_)
      try simp only [tI_41, fx1] at hw1
      obtain rfl := hw1
      have hP : va_P D classes (mW T h0 ar ((((f_thrown S), (upd (a_kinds S) (41) ((a_kinds S) (((f_size S).toInt - 1).toNat))), (vp_updL (a_codes S) (41) ((a_codes S) (((f_size S).toInt - 1).toNat))), (vf_upd (a_reals S) (41) ((a_reals S) (((f_size S).toInt - 1).toNat))), (f_size S), (f_taken S), (a_words S), (a_many S)), S.2.1, S.2.2.1, S.2.2.2.1, S.2.2.2.2.1, S.2.2.2.2.2) : MS)) H := hP
      have hD : va_D A (mW T h0 ar ((((f_thrown S), (upd (a_kinds S) (41) ((a_kinds S) (((f_size S).toInt - 1).toNat))), (vp_updL (a_codes S) (41) ((a_codes S) (((f_size S).toInt - 1).toNat))), (vf_upd (a_reals S) (41) ((a_reals S) (((f_size S).toInt - 1).toNat))), (f_size S), (f_taken S), (a_words S), (a_many S)), S.2.1, S.2.2.1, S.2.2.2.1, S.2.2.2.2.1, S.2.2.2.2.2) : MS)) := hD
      have i_vals : ∀ k, k < 1300 → vOk ((upd (a_kinds S) (41) ((a_kinds S) (((f_size S).toInt - 1).toNat))) k) ((vp_updL (a_codes S) (41) ((a_codes S) (((f_size S).toInt - 1).toNat))) k) ((vf_upd (a_reals S) (41) ((a_reals S) (((f_size S).toInt - 1).toNat))) k) := vOk_upd i_vals (i_vals (((f_size S).toInt - 1).toNat) (by omega))
      have fa1 : ((upd (a_kinds S) (41) ((a_kinds S) (((f_size S).toInt - 1).toNat))) 41).toInt = ((a_kinds S) (((f_size S).toInt - 1).toNat)).toInt := congrArg Int32.toInt upd_s
      have fa2 : ((vp_updL (a_codes S) (41) ((a_codes S) (((f_size S).toInt - 1).toNat))) 41).toInt = ((a_codes S) (((f_size S).toInt - 1).toNat)).toInt := congrArg Int64.toInt updL_s
      refine lv_aload_n hx hb d_Mo_stackOperator_131 rfl (lv_at hl 2 rfl) ?_
      refine lv_iload_n hx hb d_Mo_stackOperator_132 rfl (lv_at hl 1 rfl) ?_
      refine lv_iload_n hx hb d_Mo_stackOperator_133 rfl (lv_at hl 1 rfl) ?_
      refine lv_iconst (v := 1) hx hb d_Mo_stackOperator_134 (by decide) ?_
      refine lv_isub hx hb d_Mo_stackOperator_135 ?_
      refine lv_topi (fun x2 ex2 => ?_)
      have fx2 : x2.toInt = ((f_size S).toInt - 2) := by rw [ex2]; exact (zt_sub fx1 tI_1 (by omega) (by omega)).trans (by omega)
      refine jm_cv (w := (fun u => u)) hK hP hD hS hA (va_runV (As := [.int x1, .int x2]) (rest := []) F (m_move l D T h0 ar ((((f_thrown S), (upd (a_kinds S) (41) ((a_kinds S) (((f_size S).toInt - 1).toNat))), (vp_updL (a_codes S) (41) ((a_codes S) (((f_size S).toInt - 1).toNat))), (vf_upd (a_reals S) (41) ((a_reals S) (((f_size S).toInt - 1).toNat))), (f_size S), (f_taken S), (a_words S), (a_many S)), S.2.1, S.2.2.1, S.2.2.2.1, S.2.2.2.2.1, S.2.2.2.2.2) : MS) x1 x2 H.size (show 0 ≤ x1.toInt ∧ x1.toInt < 1300 by first | omega | (simp only [fx1, fx2]; omega)) (show 0 ≤ x2.toInt ∧ x2.toInt < 1300 by first | omega | (simp only [fx1, fx2]; omega))) (j_cV (k := 2) (C := "PageScribeModel") hts k_7_76 k_1_12 k_7_73 k_7_75 k_0_82 (by decide +kernel) ⟨Nat.le_of_ble_eq_true rfl, Nat.le_of_ble_eq_true rfl⟩) (jm_pre hK hP hD) rfl rfl hl.1 rfl (lv_room (Nat.le_of_ble_eq_true rfl)) d_Mo_stackOperator_136 ⟨Nat.le_of_ble_eq_true rfl, Nat.le_of_ble_eq_true rfl⟩) (fun S2 H locs hw2 hP hD hS => ?_)
      try simp only [fx1, fx2] at hw2
      obtain rfl := hw2
      have hP : va_P D classes (mW T h0 ar ((((f_thrown S), (upd (upd (a_kinds S) (41) ((a_kinds S) (((f_size S).toInt - 1).toNat))) (((f_size S).toInt - 1).toNat) ((upd (a_kinds S) (41) ((a_kinds S) (((f_size S).toInt - 1).toNat))) (((f_size S).toInt - 2).toNat))), (vp_updL (vp_updL (a_codes S) (41) ((a_codes S) (((f_size S).toInt - 1).toNat))) (((f_size S).toInt - 1).toNat) ((vp_updL (a_codes S) (41) ((a_codes S) (((f_size S).toInt - 1).toNat))) (((f_size S).toInt - 2).toNat))), (vf_upd (vf_upd (a_reals S) (41) ((a_reals S) (((f_size S).toInt - 1).toNat))) (((f_size S).toInt - 1).toNat) ((vf_upd (a_reals S) (41) ((a_reals S) (((f_size S).toInt - 1).toNat))) (((f_size S).toInt - 2).toNat))), (f_size S), (f_taken S), (a_words S), (a_many S)), S.2.1, S.2.2.1, S.2.2.2.1, S.2.2.2.2.1, S.2.2.2.2.2) : MS)) H := hP
      have hD : va_D A (mW T h0 ar ((((f_thrown S), (upd (upd (a_kinds S) (41) ((a_kinds S) (((f_size S).toInt - 1).toNat))) (((f_size S).toInt - 1).toNat) ((upd (a_kinds S) (41) ((a_kinds S) (((f_size S).toInt - 1).toNat))) (((f_size S).toInt - 2).toNat))), (vp_updL (vp_updL (a_codes S) (41) ((a_codes S) (((f_size S).toInt - 1).toNat))) (((f_size S).toInt - 1).toNat) ((vp_updL (a_codes S) (41) ((a_codes S) (((f_size S).toInt - 1).toNat))) (((f_size S).toInt - 2).toNat))), (vf_upd (vf_upd (a_reals S) (41) ((a_reals S) (((f_size S).toInt - 1).toNat))) (((f_size S).toInt - 1).toNat) ((vf_upd (a_reals S) (41) ((a_reals S) (((f_size S).toInt - 1).toNat))) (((f_size S).toInt - 2).toNat))), (f_size S), (f_taken S), (a_words S), (a_many S)), S.2.1, S.2.2.1, S.2.2.2.1, S.2.2.2.2.1, S.2.2.2.2.2) : MS)) := hD
      have i_vals : ∀ k, k < 1300 → vOk ((upd (upd (a_kinds S) (41) ((a_kinds S) (((f_size S).toInt - 1).toNat))) (((f_size S).toInt - 1).toNat) ((upd (a_kinds S) (41) ((a_kinds S) (((f_size S).toInt - 1).toNat))) (((f_size S).toInt - 2).toNat))) k) ((vp_updL (vp_updL (a_codes S) (41) ((a_codes S) (((f_size S).toInt - 1).toNat))) (((f_size S).toInt - 1).toNat) ((vp_updL (a_codes S) (41) ((a_codes S) (((f_size S).toInt - 1).toNat))) (((f_size S).toInt - 2).toNat))) k) ((vf_upd (vf_upd (a_reals S) (41) ((a_reals S) (((f_size S).toInt - 1).toNat))) (((f_size S).toInt - 1).toNat) ((vf_upd (a_reals S) (41) ((a_reals S) (((f_size S).toInt - 1).toNat))) (((f_size S).toInt - 2).toNat))) k) := vOk_upd i_vals (i_vals (((f_size S).toInt - 2).toNat) (by omega))
      have fa3 : ((upd (upd (a_kinds S) (41) ((a_kinds S) (((f_size S).toInt - 1).toNat))) (((f_size S).toInt - 1).toNat) ((upd (a_kinds S) (41) ((a_kinds S) (((f_size S).toInt - 1).toNat))) (((f_size S).toInt - 2).toNat))) (((f_size S).toInt - 1).toNat)).toInt = ((upd (a_kinds S) (41) ((a_kinds S) (((f_size S).toInt - 1).toNat))) (((f_size S).toInt - 2).toNat)).toInt := congrArg Int32.toInt upd_s
      have fa4 : ((vp_updL (vp_updL (a_codes S) (41) ((a_codes S) (((f_size S).toInt - 1).toNat))) (((f_size S).toInt - 1).toNat) ((vp_updL (a_codes S) (41) ((a_codes S) (((f_size S).toInt - 1).toNat))) (((f_size S).toInt - 2).toNat))) (((f_size S).toInt - 1).toNat)).toInt = ((vp_updL (a_codes S) (41) ((a_codes S) (((f_size S).toInt - 1).toNat))) (((f_size S).toInt - 2).toNat)).toInt := congrArg Int64.toInt updL_s
      refine lv_aload_n hx hb d_Mo_stackOperator_139 rfl (lv_at hl 2 rfl) ?_
      refine lv_iload_n hx hb d_Mo_stackOperator_140 rfl (lv_at hl 1 rfl) ?_
      refine lv_iconst (v := 1) hx hb d_Mo_stackOperator_141 (by decide) ?_
      refine lv_isub hx hb d_Mo_stackOperator_142 ?_
      refine j_eqi (y := x2) ex2.symm ?_
      refine lv_bipush (v := 41) hx hb d_Mo_stackOperator_143 (by decide) ?_
      refine jm_cv (w := (fun u => u)) hK hP hD hS hA (va_runV (As := [.int x2, .int 41]) (rest := []) F (m_move l D T h0 ar ((((f_thrown S), (upd (upd (a_kinds S) (41) ((a_kinds S) (((f_size S).toInt - 1).toNat))) (((f_size S).toInt - 1).toNat) ((upd (a_kinds S) (41) ((a_kinds S) (((f_size S).toInt - 1).toNat))) (((f_size S).toInt - 2).toNat))), (vp_updL (vp_updL (a_codes S) (41) ((a_codes S) (((f_size S).toInt - 1).toNat))) (((f_size S).toInt - 1).toNat) ((vp_updL (a_codes S) (41) ((a_codes S) (((f_size S).toInt - 1).toNat))) (((f_size S).toInt - 2).toNat))), (vf_upd (vf_upd (a_reals S) (41) ((a_reals S) (((f_size S).toInt - 1).toNat))) (((f_size S).toInt - 1).toNat) ((vf_upd (a_reals S) (41) ((a_reals S) (((f_size S).toInt - 1).toNat))) (((f_size S).toInt - 2).toNat))), (f_size S), (f_taken S), (a_words S), (a_many S)), S.2.1, S.2.2.1, S.2.2.2.1, S.2.2.2.2.1, S.2.2.2.2.2) : MS) x2 (41 : Int32) H.size (show 0 ≤ x2.toInt ∧ x2.toInt < 1300 by have := tI_41; first | omega | (simp only [fx2]; omega)) (show 0 ≤ (41 : Int32).toInt ∧ (41 : Int32).toInt < 1300 by have := tI_41; first | omega | (simp only [fx2]; omega))) (j_cV (k := 2) (C := "PageScribeModel") hts k_7_76 k_1_12 k_7_73 k_7_75 k_0_82 (by decide +kernel) ⟨Nat.le_of_ble_eq_true rfl, Nat.le_of_ble_eq_true rfl⟩) (jm_pre hK hP hD) rfl rfl hl.1 rfl (lv_room (Nat.le_of_ble_eq_true rfl)) d_Mo_stackOperator_145 ⟨Nat.le_of_ble_eq_true rfl, Nat.le_of_ble_eq_true rfl⟩) (fun S3 H locs hw3 hP hD hS => ?_)
      try simp only [fx2, tI_41] at hw3
      obtain rfl := hw3
      have hP : va_P D classes (mW T h0 ar ((((f_thrown S), (upd (upd (upd (a_kinds S) (41) ((a_kinds S) (((f_size S).toInt - 1).toNat))) (((f_size S).toInt - 1).toNat) ((upd (a_kinds S) (41) ((a_kinds S) (((f_size S).toInt - 1).toNat))) (((f_size S).toInt - 2).toNat))) (((f_size S).toInt - 2).toNat) ((upd (upd (a_kinds S) (41) ((a_kinds S) (((f_size S).toInt - 1).toNat))) (((f_size S).toInt - 1).toNat) ((upd (a_kinds S) (41) ((a_kinds S) (((f_size S).toInt - 1).toNat))) (((f_size S).toInt - 2).toNat))) (41))), (vp_updL (vp_updL (vp_updL (a_codes S) (41) ((a_codes S) (((f_size S).toInt - 1).toNat))) (((f_size S).toInt - 1).toNat) ((vp_updL (a_codes S) (41) ((a_codes S) (((f_size S).toInt - 1).toNat))) (((f_size S).toInt - 2).toNat))) (((f_size S).toInt - 2).toNat) ((vp_updL (vp_updL (a_codes S) (41) ((a_codes S) (((f_size S).toInt - 1).toNat))) (((f_size S).toInt - 1).toNat) ((vp_updL (a_codes S) (41) ((a_codes S) (((f_size S).toInt - 1).toNat))) (((f_size S).toInt - 2).toNat))) (41))), (vf_upd (vf_upd (vf_upd (a_reals S) (41) ((a_reals S) (((f_size S).toInt - 1).toNat))) (((f_size S).toInt - 1).toNat) ((vf_upd (a_reals S) (41) ((a_reals S) (((f_size S).toInt - 1).toNat))) (((f_size S).toInt - 2).toNat))) (((f_size S).toInt - 2).toNat) ((vf_upd (vf_upd (a_reals S) (41) ((a_reals S) (((f_size S).toInt - 1).toNat))) (((f_size S).toInt - 1).toNat) ((vf_upd (a_reals S) (41) ((a_reals S) (((f_size S).toInt - 1).toNat))) (((f_size S).toInt - 2).toNat))) (41))), (f_size S), (f_taken S), (a_words S), (a_many S)), S.2.1, S.2.2.1, S.2.2.2.1, S.2.2.2.2.1, S.2.2.2.2.2) : MS)) H := hP
      have hD : va_D A (mW T h0 ar ((((f_thrown S), (upd (upd (upd (a_kinds S) (41) ((a_kinds S) (((f_size S).toInt - 1).toNat))) (((f_size S).toInt - 1).toNat) ((upd (a_kinds S) (41) ((a_kinds S) (((f_size S).toInt - 1).toNat))) (((f_size S).toInt - 2).toNat))) (((f_size S).toInt - 2).toNat) ((upd (upd (a_kinds S) (41) ((a_kinds S) (((f_size S).toInt - 1).toNat))) (((f_size S).toInt - 1).toNat) ((upd (a_kinds S) (41) ((a_kinds S) (((f_size S).toInt - 1).toNat))) (((f_size S).toInt - 2).toNat))) (41))), (vp_updL (vp_updL (vp_updL (a_codes S) (41) ((a_codes S) (((f_size S).toInt - 1).toNat))) (((f_size S).toInt - 1).toNat) ((vp_updL (a_codes S) (41) ((a_codes S) (((f_size S).toInt - 1).toNat))) (((f_size S).toInt - 2).toNat))) (((f_size S).toInt - 2).toNat) ((vp_updL (vp_updL (a_codes S) (41) ((a_codes S) (((f_size S).toInt - 1).toNat))) (((f_size S).toInt - 1).toNat) ((vp_updL (a_codes S) (41) ((a_codes S) (((f_size S).toInt - 1).toNat))) (((f_size S).toInt - 2).toNat))) (41))), (vf_upd (vf_upd (vf_upd (a_reals S) (41) ((a_reals S) (((f_size S).toInt - 1).toNat))) (((f_size S).toInt - 1).toNat) ((vf_upd (a_reals S) (41) ((a_reals S) (((f_size S).toInt - 1).toNat))) (((f_size S).toInt - 2).toNat))) (((f_size S).toInt - 2).toNat) ((vf_upd (vf_upd (a_reals S) (41) ((a_reals S) (((f_size S).toInt - 1).toNat))) (((f_size S).toInt - 1).toNat) ((vf_upd (a_reals S) (41) ((a_reals S) (((f_size S).toInt - 1).toNat))) (((f_size S).toInt - 2).toNat))) (41))), (f_size S), (f_taken S), (a_words S), (a_many S)), S.2.1, S.2.2.1, S.2.2.2.1, S.2.2.2.2.1, S.2.2.2.2.2) : MS)) := hD
      have i_vals : ∀ k, k < 1300 → vOk ((upd (upd (upd (a_kinds S) (41) ((a_kinds S) (((f_size S).toInt - 1).toNat))) (((f_size S).toInt - 1).toNat) ((upd (a_kinds S) (41) ((a_kinds S) (((f_size S).toInt - 1).toNat))) (((f_size S).toInt - 2).toNat))) (((f_size S).toInt - 2).toNat) ((upd (upd (a_kinds S) (41) ((a_kinds S) (((f_size S).toInt - 1).toNat))) (((f_size S).toInt - 1).toNat) ((upd (a_kinds S) (41) ((a_kinds S) (((f_size S).toInt - 1).toNat))) (((f_size S).toInt - 2).toNat))) (41))) k) ((vp_updL (vp_updL (vp_updL (a_codes S) (41) ((a_codes S) (((f_size S).toInt - 1).toNat))) (((f_size S).toInt - 1).toNat) ((vp_updL (a_codes S) (41) ((a_codes S) (((f_size S).toInt - 1).toNat))) (((f_size S).toInt - 2).toNat))) (((f_size S).toInt - 2).toNat) ((vp_updL (vp_updL (a_codes S) (41) ((a_codes S) (((f_size S).toInt - 1).toNat))) (((f_size S).toInt - 1).toNat) ((vp_updL (a_codes S) (41) ((a_codes S) (((f_size S).toInt - 1).toNat))) (((f_size S).toInt - 2).toNat))) (41))) k) ((vf_upd (vf_upd (vf_upd (a_reals S) (41) ((a_reals S) (((f_size S).toInt - 1).toNat))) (((f_size S).toInt - 1).toNat) ((vf_upd (a_reals S) (41) ((a_reals S) (((f_size S).toInt - 1).toNat))) (((f_size S).toInt - 2).toNat))) (((f_size S).toInt - 2).toNat) ((vf_upd (vf_upd (a_reals S) (41) ((a_reals S) (((f_size S).toInt - 1).toNat))) (((f_size S).toInt - 1).toNat) ((vf_upd (a_reals S) (41) ((a_reals S) (((f_size S).toInt - 1).toNat))) (((f_size S).toInt - 2).toNat))) (41))) k) := vOk_upd i_vals (i_vals 41 (by omega))
      have fa5 : ((upd (upd (upd (a_kinds S) (41) ((a_kinds S) (((f_size S).toInt - 1).toNat))) (((f_size S).toInt - 1).toNat) ((upd (a_kinds S) (41) ((a_kinds S) (((f_size S).toInt - 1).toNat))) (((f_size S).toInt - 2).toNat))) (((f_size S).toInt - 2).toNat) ((upd (upd (a_kinds S) (41) ((a_kinds S) (((f_size S).toInt - 1).toNat))) (((f_size S).toInt - 1).toNat) ((upd (a_kinds S) (41) ((a_kinds S) (((f_size S).toInt - 1).toNat))) (((f_size S).toInt - 2).toNat))) (41))) (((f_size S).toInt - 2).toNat)).toInt = ((upd (upd (a_kinds S) (41) ((a_kinds S) (((f_size S).toInt - 1).toNat))) (((f_size S).toInt - 1).toNat) ((upd (a_kinds S) (41) ((a_kinds S) (((f_size S).toInt - 1).toNat))) (((f_size S).toInt - 2).toNat))) 41).toInt := congrArg Int32.toInt upd_s
      have fa6 : ((vp_updL (vp_updL (vp_updL (a_codes S) (41) ((a_codes S) (((f_size S).toInt - 1).toNat))) (((f_size S).toInt - 1).toNat) ((vp_updL (a_codes S) (41) ((a_codes S) (((f_size S).toInt - 1).toNat))) (((f_size S).toInt - 2).toNat))) (((f_size S).toInt - 2).toNat) ((vp_updL (vp_updL (a_codes S) (41) ((a_codes S) (((f_size S).toInt - 1).toNat))) (((f_size S).toInt - 1).toNat) ((vp_updL (a_codes S) (41) ((a_codes S) (((f_size S).toInt - 1).toNat))) (((f_size S).toInt - 2).toNat))) (41))) (((f_size S).toInt - 2).toNat)).toInt = ((vp_updL (vp_updL (a_codes S) (41) ((a_codes S) (((f_size S).toInt - 1).toNat))) (((f_size S).toInt - 1).toNat) ((vp_updL (a_codes S) (41) ((a_codes S) (((f_size S).toInt - 1).toNat))) (((f_size S).toInt - 2).toNat))) 41).toInt := congrArg Int64.toInt updL_s
      refine lv_iconst (v := 0) hx hb d_Mo_stackOperator_148 (by decide) ?_
      exact j_iret F hr hlocks hK hS ((((f_thrown S), (upd (upd (upd (a_kinds S) (41) ((a_kinds S) (((f_size S).toInt - 1).toNat))) (((f_size S).toInt - 1).toNat) ((upd (a_kinds S) (41) ((a_kinds S) (((f_size S).toInt - 1).toNat))) (((f_size S).toInt - 2).toNat))) (((f_size S).toInt - 2).toNat) ((upd (upd (a_kinds S) (41) ((a_kinds S) (((f_size S).toInt - 1).toNat))) (((f_size S).toInt - 1).toNat) ((upd (a_kinds S) (41) ((a_kinds S) (((f_size S).toInt - 1).toNat))) (((f_size S).toInt - 2).toNat))) (41))), (vp_updL (vp_updL (vp_updL (a_codes S) (41) ((a_codes S) (((f_size S).toInt - 1).toNat))) (((f_size S).toInt - 1).toNat) ((vp_updL (a_codes S) (41) ((a_codes S) (((f_size S).toInt - 1).toNat))) (((f_size S).toInt - 2).toNat))) (((f_size S).toInt - 2).toNat) ((vp_updL (vp_updL (a_codes S) (41) ((a_codes S) (((f_size S).toInt - 1).toNat))) (((f_size S).toInt - 1).toNat) ((vp_updL (a_codes S) (41) ((a_codes S) (((f_size S).toInt - 1).toNat))) (((f_size S).toInt - 2).toNat))) (41))), (vf_upd (vf_upd (vf_upd (a_reals S) (41) ((a_reals S) (((f_size S).toInt - 1).toNat))) (((f_size S).toInt - 1).toNat) ((vf_upd (a_reals S) (41) ((a_reals S) (((f_size S).toInt - 1).toNat))) (((f_size S).toInt - 2).toNat))) (((f_size S).toInt - 2).toNat) ((vf_upd (vf_upd (a_reals S) (41) ((a_reals S) (((f_size S).toInt - 1).toNat))) (((f_size S).toInt - 1).toNat) ((vf_upd (a_reals S) (41) ((a_reals S) (((f_size S).toInt - 1).toNat))) (((f_size S).toInt - 2).toNat))) (41))), (f_size S), (f_taken S), (a_words S), (a_many S)), S.2.1, S.2.2.1, S.2.2.2.1, S.2.2.2.2.1, S.2.2.2.2.2) : MS) ⟨⟨i_size, i_taken, i_vals, i_room, i_dicts, i_deep, i_open, i_cells, i_points, i_part, i_length, i_knows, i_page, i_text, i_pats, i_fuel, i_fr, i_ink⟩, (kA_r S), (kF_r S), (show 0 ≤ (0 : Int32).toInt ∧ (0 : Int32).toInt ≤ 16 by have := tI_0; omega)⟩ hP hD d_Mo_stackOperator_149
    by_cases h_2_1 : p0.toInt = 2
    · refine lv_lookup (off := 127) (tgt := 150) hx hb d_Mo_stackOperator_23 (by decide +kernel) (by rw [show p0.toInt = 2 from h_2_1]; decide +kernel) (by decide) ?_
      have hs := h2.1 (by omega)
      refine lv_aload_n hx hb d_Mo_stackOperator_150 rfl (lv_at hl 2 rfl) ?_
      refine lv_iload_n hx hb d_Mo_stackOperator_151 rfl (lv_at hl 1 rfl) ?_
      refine jm_ci (w := (fun u => u)) hK hP hD hS hA (va_runV (As := [.int x1]) (rest := []) F (m_pushValue l D T h0 ar S x1 H.size ⟨i_size, i_taken, i_vals, i_room, i_dicts, i_deep, i_open, i_cells, i_points, i_part, i_length, i_knows, i_page, i_text, i_pats, i_fuel, i_fr, i_ink⟩ (show 0 ≤ x1.toInt ∧ x1.toInt < 1300 by first | omega | (simp only [fx1]; omega))) (j_cV (k := 1) (C := "PageScribeModel") hts k_7_139 k_1_12 k_7_136 k_7_138 k_0_94 (by decide +kernel) ⟨Nat.le_of_ble_eq_true rfl, Nat.le_of_ble_eq_true rfl⟩) (jm_pre hK hP hD) rfl rfl hl.1 rfl (lv_room (Nat.le_of_ble_eq_true rfl)) d_Mo_stackOperator_152 ⟨Nat.le_of_ble_eq_true rfl, Nat.le_of_ble_eq_true rfl⟩) (fun rv4 S4 H locs hw4 hP hD hS => ?_)
      have hP : va_P D classes (mW T h0 ar S4) H := hP
      have hD : va_D A (mW T h0 ar S4) := hD
      obtain ⟨⟨i_size, i_taken, i_vals, i_room, i_dicts, i_deep, i_open, i_cells, i_points, i_part, i_length, i_knows, i_page, i_text, i_pats, i_fuel, i_fr, i_ink⟩, kpA_S4, kpF_S4, qqhw4⟩ := hw4
      have kSA_S4 : kA S S4 := kA_t (show kA S S from (kA_r S)) kpA_S4
      have kSF_S4 : kF S S4 := kF_t (show kF S S from (kF_r S)) kpF_S4
      have kST_S4 : kT S S4 := kT_t (show kT S S from (kT_r S)) (kT_A kpA_S4)
      have qhw4 : rv4.toInt = 0 ∨ rv4.toInt = 2 := by simpa only [fx1] using qqhw4
      exact j_iret F hr hlocks hK hS S4 ⟨⟨i_size, i_taken, i_vals, i_room, i_dicts, i_deep, i_open, i_cells, i_points, i_part, i_length, i_knows, i_page, i_text, i_pats, i_fuel, i_fr, i_ink⟩, kSA_S4, kSF_S4, (show 0 ≤ rv4.toInt ∧ rv4.toInt ≤ 16 by omega)⟩ hP hD d_Mo_stackOperator_155
    by_cases h_3_1 : p0.toInt = 3
    · refine lv_lookup (off := 133) (tgt := 156) hx hb d_Mo_stackOperator_23 (by decide +kernel) (by rw [show p0.toInt = 3 from h_3_1]; decide +kernel) (by decide) ?_
      have hs := h2.1 (by omega)
      refine lv_lload_n hx hb d_Mo_stackOperator_156 rfl (lv_at hl 0 rfl) ?_
      refine lv_lconst (v := 0) hx hb d_Mo_stackOperator_157 (by decide) ?_
      refine W.lcmp hx hb d_Mo_stackOperator_158 ?_
      refine lv_topi (fun x3 ex3 => ?_)
      refine lv_if_lt (tgt := 169) hx hb d_Mo_stackOperator_159 (by decide) (fun c159_1 => ?_) (fun c159_1 => ?_)
      · have fc159_1 : x3.toInt < 0 := zt_lt (show x3.toInt = _ from rfl) tI_0 c159_1
        have vc159_1 : j1.toInt < 0 := by have := zr_cmp ex3 (show j1.toInt = _ from rfl) tJ_0; have := zt_lt (show x3.toInt = _ from rfl) tI_0 c159_1; omega
        refine lv_iconst (v := 4) hx hb d_Mo_stackOperator_169 (by decide) ?_
        exact j_iret F hr hlocks hK hS S ⟨⟨i_size, i_taken, i_vals, i_room, i_dicts, i_deep, i_open, i_cells, i_points, i_part, i_length, i_knows, i_page, i_text, i_pats, i_fuel, i_fr, i_ink⟩, (kA_r S), (kF_r S), (show 0 ≤ (4 : Int32).toInt ∧ (4 : Int32).toInt ≤ 16 by have := tI_4; omega)⟩ hP hD d_Mo_stackOperator_170
      · have fc159_1 : 0 ≤ x3.toInt := Int.not_lt.mp (zt_nlt (show x3.toInt = _ from rfl) tI_0 c159_1)
        have vc159_1 : j1.toInt ≥ 0 := by have := zr_cmp ex3 (show j1.toInt = _ from rfl) tJ_0; have := Int.not_lt.mp (zt_nlt (show x3.toInt = _ from rfl) tI_0 c159_1); omega
        refine lv_lload_n hx hb d_Mo_stackOperator_162 rfl (lv_at hl 0 rfl) ?_
        refine lv_iload_n hx hb d_Mo_stackOperator_163 rfl (lv_at hl 1 rfl) ?_
        refine lv_i2l (v := (x1).toInt64) hx hb d_Mo_stackOperator_164 rfl ?_
        refine lv_topl (fun x4 ex4 => ?_)
        have fx4 : x4.toInt = ((f_size S).toInt - 1) := by rw [ex4]; exact zu_i2l fx1
        refine W.lcmp hx hb d_Mo_stackOperator_165 ?_
        refine lv_topi (fun x5 ex5 => ?_)
        refine lv_if_le (tgt := 171) hx hb d_Mo_stackOperator_166 (by decide) (fun c166_1 => ?_) (fun c166_1 => ?_)
        · have fc166_1 : x5.toInt ≤ 0 := zt_le (show x5.toInt = _ from rfl) tI_0 c166_1
          have vc166_1 : j1.toInt ≤ ((f_size S).toInt - 1) := by have := zr_cmp ex5 (show j1.toInt = _ from rfl) fx4; have := zt_le (show x5.toInt = _ from rfl) tI_0 c166_1; omega
          refine lv_iload_n hx hb d_Mo_stackOperator_171 rfl (lv_at hl 1 rfl) ?_
          refine lv_i2l (v := (x1).toInt64) hx hb d_Mo_stackOperator_172 rfl ?_
          refine lv_topl (fun x6 ex6 => ?_)
          have fx6 : x6.toInt = ((f_size S).toInt - 1) := by rw [ex6]; exact zu_i2l fx1
          refine lv_lload_n hx hb d_Mo_stackOperator_173 rfl (lv_at hl 0 rfl) ?_
          refine lv_ladd hx hb d_Mo_stackOperator_174 ?_
          refine lv_topl (fun x7 ex7 => ?_)
          have fx7 : x7.toInt = ((f_size S).toInt + j1.toInt - 1) := by rw [ex7]; exact (zu_add fx6 (show j1.toInt = _ from rfl) (by omega) (by omega)).trans (by omega)
          refine lv_ldc2 (v := (40)) hx hb hown (hts _ k_7_183) d_Mo_stackOperator_175 ?_
          refine W.lcmp hx hb d_Mo_stackOperator_178 ?_
          refine lv_topi (fun x8 ex8 => ?_)
          refine lv_if_le (tgt := 184) hx hb d_Mo_stackOperator_179 (by decide) (fun c179_1 => ?_) (fun c179_1 => ?_)
          · have fc179_1 : x8.toInt ≤ 0 := zt_le (show x8.toInt = _ from rfl) tI_0 c179_1
            have vc179_1 : ((f_size S).toInt + j1.toInt - 1) ≤ 40 := by have := zr_cmp ex8 fx7 tJ_40; have := zt_le (show x8.toInt = _ from rfl) tI_0 c179_1; omega
            refine lv_iconst (v := 0) hx hb d_Mo_stackOperator_184 (by decide) ?_
            refine lv_istore (lv' := [(5, .int 0), (3, .long j1), (2, .int x1), (0, .ref h0), (1, .int p0)]) hx hb d_Mo_stackOperator_185 hl (by decide) rfl (fun ls hl => ?_)
            refine j_loop (α := MS × Int32) (fun k x H locs ls => (0 ≤ x.2.toInt ∧ x.2.toInt ≤ j1.toInt ∧ j1.toInt ≤ x.2.toInt + ((k : Nat) : Int) ∧ (f_size x.1).toInt = (f_size S).toInt) ∧ MI x.1 ∧ kA S x.1 ∧ kF S x.1 ∧ va_P D classes (mW T h0 ar x.1) H ∧ va_D A (mW T h0 ar x.1) ∧ va_S A s.heap H locs ∧ lv_has ls 6 [(5, .int x.2), (3, .long j1), (2, .int x1), (0, .ref h0), (1, .int p0)]) (fun _ _ ls => F0 m 187 ls []) (fun k x H locs ls hI9 ih => ?_) 40 (S, (0 : Int32)) _ _ _ ⟨(show 0 ≤ (0 : Int32).toInt ∧ (0 : Int32).toInt ≤ j1.toInt ∧ j1.toInt ≤ (0 : Int32).toInt + ((40 : Nat) : Int) ∧ (f_size S).toInt = (f_size S).toInt by have := tI_0; omega), ⟨i_size, i_taken, i_vals, i_room, i_dicts, i_deep, i_open, i_cells, i_points, i_part, i_length, i_knows, i_page, i_text, i_pats, i_fuel, i_fr, i_ink⟩, (show kA S S from (kA_r S)), (show kF S S from (kF_r S)), hP, hD, hS, lv_sub hl [0, 1, 2, 3, 4] rfl⟩
            obtain ⟨S5, i⟩ := x
            obtain ⟨hf1, hIx, klA_S5, klF_S5, hP, hD, hS, hl⟩ := hI9
            obtain ⟨i_size, i_taken, i_vals, i_room, i_dicts, i_deep, i_open, i_cells, i_points, i_part, i_length, i_knows, i_page, i_text, i_pats, i_fuel, i_fr, i_ink⟩ := (show MI S5 from hIx)
            have klA_S5 : kA S S5 := klA_S5
            have klF_S5 : kF S S5 := klF_S5
            have hf1 : 0 ≤ i.toInt ∧ i.toInt ≤ j1.toInt ∧ j1.toInt ≤ i.toInt + ((k : Nat) : Int) ∧ (f_size S5).toInt = (f_size S).toInt := hf1
            have hP : va_P D classes (mW T h0 ar S5) H := hP
            have hD : va_D A (mW T h0 ar S5) := hD
            have hl : lv_has ls 6 [(5, .int i), (3, .long j1), (2, .int x1), (0, .ref h0), (1, .int p0)] := hl
            refine lv_iload hx hb d_Mo_stackOperator_187 (lv_at hl 0 rfl) ?_
            refine lv_i2l (v := (i).toInt64) hx hb d_Mo_stackOperator_189 rfl ?_
            refine lv_topl (fun x9 ex9 => ?_)
            have fx9 : x9.toInt = i.toInt := by rw [ex9]; exact zu_i2l (show i.toInt = _ from rfl)
            refine lv_lload_n hx hb d_Mo_stackOperator_190 rfl (lv_at hl 1 rfl) ?_
            refine W.lcmp hx hb d_Mo_stackOperator_191 ?_
            refine lv_topi (fun x10 ex10 => ?_)
            refine lv_if_ge (tgt := 216) hx hb d_Mo_stackOperator_192 (by decide) (fun c192_1 => ?_) (fun c192_1 => ?_)
            · have fc192_1 : 0 ≤ x10.toInt := zt_le tI_0 (show x10.toInt = _ from rfl) c192_1
              have vc192_1 : i.toInt ≥ j1.toInt := by have := zr_cmp ex10 fx9 (show j1.toInt = _ from rfl); have := zt_le tI_0 (show x10.toInt = _ from rfl) c192_1; omega
              refine lv_aload_n hx hb d_Mo_stackOperator_216 rfl (lv_at hl 3 rfl) ?_
              refine lv_iload_n hx hb d_Mo_stackOperator_217 rfl (lv_at hl 2 rfl) ?_
              refine lv_lload_n hx hb d_Mo_stackOperator_218 rfl (lv_at hl 1 rfl) ?_
              refine lv_l2i (v := (j1).toInt32) hx hb d_Mo_stackOperator_219 rfl ?_
              refine lv_topi (fun x11 ex11 => ?_)
              have wx11 := zt_rng x11
              have fx11 : x11.toInt = j1.toInt := by rw [ex11]; exact zt_l2i (show j1.toInt = _ from rfl) (by omega) (by omega)
              refine lv_iadd hx hb d_Mo_stackOperator_220 ?_
              refine lv_topi (fun x12 ex12 => ?_)
              have fx12 : x12.toInt = ((f_size S).toInt + x11.toInt - 1) := by rw [ex12]; exact (zt_add fx1 (show x11.toInt = _ from rfl) (by omega) (by omega)).trans (by omega)
              refine va_put (D := D) (ci := 11) (v := .int x12) (ty := .int) (C := "PageScribeModel") (T := F_Mo) (N := 45) hx hb hts i_Mo t_Mo t_Mo_ok n_Mo hown hK hP hD hS 0 mW_0 cl_11 4 (by decide) (hts _ k_6_164) (fun _ h9 => h9) rfl (by decide +kernel) rfl rfl (Nat.le_of_ble_eq_true rfl) d_Mo_stackOperator_221 (fun H locs hP hD hS => ?_)
              rw [mp_size] at hP hD
              have hP : va_P D classes (mW T h0 ar ((((f_thrown S5), (a_kinds S5), (a_codes S5), (a_reals S5), x12, (f_taken S5), (a_words S5), (a_many S5)), S5.2.1, S5.2.2.1, S5.2.2.2.1, S5.2.2.2.2.1, S5.2.2.2.2.2) : MS)) H := hP
              have hD : va_D A (mW T h0 ar ((((f_thrown S5), (a_kinds S5), (a_codes S5), (a_reals S5), x12, (f_taken S5), (a_words S5), (a_many S5)), S5.2.1, S5.2.2.1, S5.2.2.2.1, S5.2.2.2.2.1, S5.2.2.2.2.2) : MS)) := hD
              refine lv_iconst (v := 0) hx hb d_Mo_stackOperator_224 (by decide) ?_
              exact j_iret F hr hlocks hK hS ((((f_thrown S5), (a_kinds S5), (a_codes S5), (a_reals S5), x12, (f_taken S5), (a_words S5), (a_many S5)), S5.2.1, S5.2.2.1, S5.2.2.2.1, S5.2.2.2.2.1, S5.2.2.2.2.2) : MS) ⟨⟨(show 0 ≤ x12.toInt ∧ x12.toInt ≤ 40 by omega), i_taken, i_vals, i_room, i_dicts, i_deep, i_open, i_cells, i_points, i_part, i_length, i_knows, i_page, i_text, i_pats, i_fuel, i_fr, i_ink⟩, klA_S5, klF_S5, (show 0 ≤ (0 : Int32).toInt ∧ (0 : Int32).toInt ≤ 16 by have := tI_0; omega)⟩ hP hD d_Mo_stackOperator_225
            · have fc192_1 : x10.toInt < 0 := Int.not_le.mp (zt_nle tI_0 (show x10.toInt = _ from rfl) c192_1)
              have vc192_1 : i.toInt < j1.toInt := by have := zr_cmp ex10 fx9 (show j1.toInt = _ from rfl); have := Int.not_le.mp (zt_nle tI_0 (show x10.toInt = _ from rfl) c192_1); omega
              refine lv_aload_n hx hb d_Mo_stackOperator_195 rfl (lv_at hl 3 rfl) ?_
              refine lv_iload_n hx hb d_Mo_stackOperator_196 rfl (lv_at hl 2 rfl) ?_
              refine lv_iload hx hb d_Mo_stackOperator_197 (lv_at hl 0 rfl) ?_
              refine lv_iadd hx hb d_Mo_stackOperator_199 ?_
              refine lv_topi (fun x13 ex13 => ?_)
              have fx13 : x13.toInt = ((f_size S).toInt + i.toInt - 1) := by rw [ex13]; exact (zt_add fx1 (show i.toInt = _ from rfl) (by omega) (by omega)).trans (by omega)
              refine lv_iload_n hx hb d_Mo_stackOperator_200 rfl (lv_at hl 2 rfl) ?_
              refine lv_iload hx hb d_Mo_stackOperator_201 (lv_at hl 0 rfl) ?_
              refine lv_iadd hx hb d_Mo_stackOperator_203 ?_
              refine j_eqi (y := x13) ex13.symm ?_
              refine lv_lload_n hx hb d_Mo_stackOperator_204 rfl (lv_at hl 1 rfl) ?_
              refine lv_l2i (v := (j1).toInt32) hx hb d_Mo_stackOperator_205 rfl ?_
              refine lv_topi (fun x14 ex14 => ?_)
              have wx14 := zt_rng x14
              have fx14 : x14.toInt = j1.toInt := by rw [ex14]; exact zt_l2i (show j1.toInt = _ from rfl) (by omega) (by omega)
              refine lv_isub hx hb d_Mo_stackOperator_206 ?_
              refine lv_topi (fun x15 ex15 => ?_)
              have fx15 : x15.toInt = ((f_size S).toInt + i.toInt - x14.toInt - 1) := by rw [ex15]; exact (zt_sub fx13 (show x14.toInt = _ from rfl) (by omega) (by omega)).trans (by omega)
              refine jm_cv (w := (fun u => u)) hK hP hD hS hA (va_runV (As := [.int x13, .int x15]) (rest := []) F (m_move l D T h0 ar S5 x13 x15 H.size (show 0 ≤ x13.toInt ∧ x13.toInt < 1300 by first | omega | (simp only [fx13, fx15]; omega)) (show 0 ≤ x15.toInt ∧ x15.toInt < 1300 by first | omega | (simp only [fx13, fx15]; omega))) (j_cV (k := 2) (C := "PageScribeModel") hts k_7_76 k_1_12 k_7_73 k_7_75 k_0_82 (by decide +kernel) ⟨Nat.le_of_ble_eq_true rfl, Nat.le_of_ble_eq_true rfl⟩) (jm_pre hK hP hD) rfl rfl hl.1 rfl (lv_room (Nat.le_of_ble_eq_true rfl)) d_Mo_stackOperator_207 ⟨Nat.le_of_ble_eq_true rfl, Nat.le_of_ble_eq_true rfl⟩) (fun S6 H locs hw5 hP hD hS => ?_)
              try simp only [fx13, fx15] at hw5
              obtain rfl := hw5
              have hP : va_P D classes (mW T h0 ar ((((f_thrown S5), (upd (a_kinds S5) (((f_size S).toInt + i.toInt - 1).toNat) ((a_kinds S5) (((f_size S).toInt + i.toInt - x14.toInt - 1).toNat))), (vp_updL (a_codes S5) (((f_size S).toInt + i.toInt - 1).toNat) ((a_codes S5) (((f_size S).toInt + i.toInt - x14.toInt - 1).toNat))), (vf_upd (a_reals S5) (((f_size S).toInt + i.toInt - 1).toNat) ((a_reals S5) (((f_size S).toInt + i.toInt - x14.toInt - 1).toNat))), (f_size S5), (f_taken S5), (a_words S5), (a_many S5)), S5.2.1, S5.2.2.1, S5.2.2.2.1, S5.2.2.2.2.1, S5.2.2.2.2.2) : MS)) H := hP
              have hD : va_D A (mW T h0 ar ((((f_thrown S5), (upd (a_kinds S5) (((f_size S).toInt + i.toInt - 1).toNat) ((a_kinds S5) (((f_size S).toInt + i.toInt - x14.toInt - 1).toNat))), (vp_updL (a_codes S5) (((f_size S).toInt + i.toInt - 1).toNat) ((a_codes S5) (((f_size S).toInt + i.toInt - x14.toInt - 1).toNat))), (vf_upd (a_reals S5) (((f_size S).toInt + i.toInt - 1).toNat) ((a_reals S5) (((f_size S).toInt + i.toInt - x14.toInt - 1).toNat))), (f_size S5), (f_taken S5), (a_words S5), (a_many S5)), S5.2.1, S5.2.2.1, S5.2.2.2.1, S5.2.2.2.2.1, S5.2.2.2.2.2) : MS)) := hD
              have i_vals : ∀ k, k < 1300 → vOk ((upd (a_kinds S5) (((f_size S).toInt + i.toInt - 1).toNat) ((a_kinds S5) (((f_size S).toInt + i.toInt - x14.toInt - 1).toNat))) k) ((vp_updL (a_codes S5) (((f_size S).toInt + i.toInt - 1).toNat) ((a_codes S5) (((f_size S).toInt + i.toInt - x14.toInt - 1).toNat))) k) ((vf_upd (a_reals S5) (((f_size S).toInt + i.toInt - 1).toNat) ((a_reals S5) (((f_size S).toInt + i.toInt - x14.toInt - 1).toNat))) k) := vOk_upd i_vals (i_vals (((f_size S).toInt + i.toInt - x14.toInt - 1).toNat) (by omega))
              have fa7 : ((upd (a_kinds S5) (((f_size S).toInt + i.toInt - 1).toNat) ((a_kinds S5) (((f_size S).toInt + i.toInt - x14.toInt - 1).toNat))) (((f_size S).toInt + i.toInt - 1).toNat)).toInt = ((a_kinds S5) (((f_size S).toInt + i.toInt - x14.toInt - 1).toNat)).toInt := congrArg Int32.toInt upd_s
              have fa8 : ((vp_updL (a_codes S5) (((f_size S).toInt + i.toInt - 1).toNat) ((a_codes S5) (((f_size S).toInt + i.toInt - x14.toInt - 1).toNat))) (((f_size S).toInt + i.toInt - 1).toNat)).toInt = ((a_codes S5) (((f_size S).toInt + i.toInt - x14.toInt - 1).toNat)).toInt := congrArg Int64.toInt updL_s
              refine lv_iinc (v := (i + 1)) (lv' := [(5, .int (i + 1)), (3, .long j1), (2, .int x1), (0, .ref h0), (1, .int p0)]) hx hb d_Mo_stackOperator_210 hl (k := 0) rfl (by first | rfl | decide) (by decide) rfl (fun ls hl => ?_)
              obtain ⟨x16, ex16⟩ : ∃ z, z = (i + 1) := ⟨_, rfl⟩
              rw [← ex16] at hl
              have fx16 : x16.toInt = (i.toInt + 1) := by rw [ex16]; exact (zt_add (show i.toInt = _ from rfl) tI_1 (by omega) (by omega)).trans (by omega)
              have hl : lv_has ls 6 [(5, .int x16), (3, .long j1), (2, .int x1), (0, .ref h0), (1, .int p0)] := hl
              refine lv_goto (tgt := 187) hx hb d_Mo_stackOperator_213 (by decide) ?_
              exact ih (k - 1) (((((f_thrown S5), (upd (a_kinds S5) (((f_size S).toInt + i.toInt - 1).toNat) ((a_kinds S5) (((f_size S).toInt + i.toInt - x14.toInt - 1).toNat))), (vp_updL (a_codes S5) (((f_size S).toInt + i.toInt - 1).toNat) ((a_codes S5) (((f_size S).toInt + i.toInt - x14.toInt - 1).toNat))), (vf_upd (a_reals S5) (((f_size S).toInt + i.toInt - 1).toNat) ((a_reals S5) (((f_size S).toInt + i.toInt - x14.toInt - 1).toNat))), (f_size S5), (f_taken S5), (a_words S5), (a_many S5)), S5.2.1, S5.2.2.1, S5.2.2.2.1, S5.2.2.2.2.1, S5.2.2.2.2.2) : MS), x16) _ _ _ (by omega) ⟨(show 0 ≤ x16.toInt ∧ x16.toInt ≤ j1.toInt ∧ j1.toInt ≤ x16.toInt + (((k - 1) : Nat) : Int) ∧ (f_size S5).toInt = (f_size S).toInt by omega), ⟨i_size, i_taken, i_vals, i_room, i_dicts, i_deep, i_open, i_cells, i_points, i_part, i_length, i_knows, i_page, i_text, i_pats, i_fuel, i_fr, i_ink⟩, (show kA S ((((f_thrown S5), (upd (a_kinds S5) (((f_size S).toInt + i.toInt - 1).toNat) ((a_kinds S5) (((f_size S).toInt + i.toInt - x14.toInt - 1).toNat))), (vp_updL (a_codes S5) (((f_size S).toInt + i.toInt - 1).toNat) ((a_codes S5) (((f_size S).toInt + i.toInt - x14.toInt - 1).toNat))), (vf_upd (a_reals S5) (((f_size S).toInt + i.toInt - 1).toNat) ((a_reals S5) (((f_size S).toInt + i.toInt - x14.toInt - 1).toNat))), (f_size S5), (f_taken S5), (a_words S5), (a_many S5)), S5.2.1, S5.2.2.1, S5.2.2.2.1, S5.2.2.2.2.1, S5.2.2.2.2.2) : MS) from klA_S5), (show kF S ((((f_thrown S5), (upd (a_kinds S5) (((f_size S).toInt + i.toInt - 1).toNat) ((a_kinds S5) (((f_size S).toInt + i.toInt - x14.toInt - 1).toNat))), (vp_updL (a_codes S5) (((f_size S).toInt + i.toInt - 1).toNat) ((a_codes S5) (((f_size S).toInt + i.toInt - x14.toInt - 1).toNat))), (vf_upd (a_reals S5) (((f_size S).toInt + i.toInt - 1).toNat) ((a_reals S5) (((f_size S).toInt + i.toInt - x14.toInt - 1).toNat))), (f_size S5), (f_taken S5), (a_words S5), (a_many S5)), S5.2.1, S5.2.2.1, S5.2.2.2.1, S5.2.2.2.2.1, S5.2.2.2.2.2) : MS) from klF_S5), hP, hD, hS, lv_sub hl [0, 1, 2, 3, 4] rfl⟩
          · have fc179_1 : 0 < x8.toInt := Int.not_le.mp (zt_nle (show x8.toInt = _ from rfl) tI_0 c179_1)
            have vc179_1 : ((f_size S).toInt + j1.toInt - 1) > 40 := by have := zr_cmp ex8 fx7 tJ_40; have := Int.not_le.mp (zt_nle (show x8.toInt = _ from rfl) tI_0 c179_1); omega
            refine lv_iconst (v := 2) hx hb d_Mo_stackOperator_182 (by decide) ?_
            exact j_iret F hr hlocks hK hS S ⟨⟨i_size, i_taken, i_vals, i_room, i_dicts, i_deep, i_open, i_cells, i_points, i_part, i_length, i_knows, i_page, i_text, i_pats, i_fuel, i_fr, i_ink⟩, (kA_r S), (kF_r S), (show 0 ≤ (2 : Int32).toInt ∧ (2 : Int32).toInt ≤ 16 by have := tI_2; omega)⟩ hP hD d_Mo_stackOperator_183
        · have fc166_1 : 0 < x5.toInt := Int.not_le.mp (zt_nle (show x5.toInt = _ from rfl) tI_0 c166_1)
          have vc166_1 : j1.toInt > ((f_size S).toInt - 1) := by have := zr_cmp ex5 (show j1.toInt = _ from rfl) fx4; have := Int.not_le.mp (zt_nle (show x5.toInt = _ from rfl) tI_0 c166_1); omega
          refine lv_iconst (v := 4) hx hb d_Mo_stackOperator_169 (by decide) ?_
          exact j_iret F hr hlocks hK hS S ⟨⟨i_size, i_taken, i_vals, i_room, i_dicts, i_deep, i_open, i_cells, i_points, i_part, i_length, i_knows, i_page, i_text, i_pats, i_fuel, i_fr, i_ink⟩, (kA_r S), (kF_r S), (show 0 ≤ (4 : Int32).toInt ∧ (4 : Int32).toInt ≤ 16 by have := tI_4; omega)⟩ hP hD d_Mo_stackOperator_170
    by_cases h_4_1 : p0.toInt = 4
    · refine lv_lookup (off := 203) (tgt := 226) hx hb d_Mo_stackOperator_23 (by decide +kernel) (by rw [show p0.toInt = 4 from h_4_1]; decide +kernel) (by decide) ?_
      have hs := h2.1 (by omega)
      refine lv_lload_n hx hb d_Mo_stackOperator_226 rfl (lv_at hl 0 rfl) ?_
      refine lv_lconst (v := 0) hx hb d_Mo_stackOperator_227 (by decide) ?_
      refine W.lcmp hx hb d_Mo_stackOperator_228 ?_
      refine lv_topi (fun x17 ex17 => ?_)
      refine lv_if_lt (tgt := 239) hx hb d_Mo_stackOperator_229 (by decide) (fun c229_1 => ?_) (fun c229_1 => ?_)
      · have fc229_1 : x17.toInt < 0 := zt_lt (show x17.toInt = _ from rfl) tI_0 c229_1
        have vc229_1 : j1.toInt < 0 := by have := zr_cmp ex17 (show j1.toInt = _ from rfl) tJ_0; have := zt_lt (show x17.toInt = _ from rfl) tI_0 c229_1; omega
        refine lv_iconst (v := 4) hx hb d_Mo_stackOperator_239 (by decide) ?_
        exact j_iret F hr hlocks hK hS S ⟨⟨i_size, i_taken, i_vals, i_room, i_dicts, i_deep, i_open, i_cells, i_points, i_part, i_length, i_knows, i_page, i_text, i_pats, i_fuel, i_fr, i_ink⟩, (kA_r S), (kF_r S), (show 0 ≤ (4 : Int32).toInt ∧ (4 : Int32).toInt ≤ 16 by have := tI_4; omega)⟩ hP hD d_Mo_stackOperator_240
      · have fc229_1 : 0 ≤ x17.toInt := Int.not_lt.mp (zt_nlt (show x17.toInt = _ from rfl) tI_0 c229_1)
        have vc229_1 : j1.toInt ≥ 0 := by have := zr_cmp ex17 (show j1.toInt = _ from rfl) tJ_0; have := Int.not_lt.mp (zt_nlt (show x17.toInt = _ from rfl) tI_0 c229_1); omega
        refine lv_lload_n hx hb d_Mo_stackOperator_232 rfl (lv_at hl 0 rfl) ?_
        refine lv_iload_n hx hb d_Mo_stackOperator_233 rfl (lv_at hl 1 rfl) ?_
        refine lv_i2l (v := (x1).toInt64) hx hb d_Mo_stackOperator_234 rfl ?_
        refine lv_topl (fun x18 ex18 => ?_)
        have fx18 : x18.toInt = ((f_size S).toInt - 1) := by rw [ex18]; exact zu_i2l fx1
        refine W.lcmp hx hb d_Mo_stackOperator_235 ?_
        refine lv_topi (fun x19 ex19 => ?_)
        refine lv_if_lt (tgt := 241) hx hb d_Mo_stackOperator_236 (by decide) (fun c236_1 => ?_) (fun c236_1 => ?_)
        · have fc236_1 : x19.toInt < 0 := zt_lt (show x19.toInt = _ from rfl) tI_0 c236_1
          have vc236_1 : j1.toInt < ((f_size S).toInt - 1) := by have := zr_cmp ex19 (show j1.toInt = _ from rfl) fx18; have := zt_lt (show x19.toInt = _ from rfl) tI_0 c236_1; omega
          refine lv_aload_n hx hb d_Mo_stackOperator_241 rfl (lv_at hl 2 rfl) ?_
          refine lv_iload_n hx hb d_Mo_stackOperator_242 rfl (lv_at hl 1 rfl) ?_
          refine lv_iload_n hx hb d_Mo_stackOperator_243 rfl (lv_at hl 1 rfl) ?_
          refine lv_iconst (v := 1) hx hb d_Mo_stackOperator_244 (by decide) ?_
          refine lv_isub hx hb d_Mo_stackOperator_245 ?_
          refine lv_topi (fun x20 ex20 => ?_)
          have fx20 : x20.toInt = ((f_size S).toInt - 2) := by rw [ex20]; exact (zt_sub fx1 tI_1 (by omega) (by omega)).trans (by omega)
          refine lv_lload_n hx hb d_Mo_stackOperator_246 rfl (lv_at hl 0 rfl) ?_
          refine lv_l2i (v := (j1).toInt32) hx hb d_Mo_stackOperator_247 rfl ?_
          refine lv_topi (fun x21 ex21 => ?_)
          have wx21 := zt_rng x21
          have fx21 : x21.toInt = j1.toInt := by rw [ex21]; exact zt_l2i (show j1.toInt = _ from rfl) (by omega) (by omega)
          refine lv_isub hx hb d_Mo_stackOperator_248 ?_
          refine lv_topi (fun x22 ex22 => ?_)
          have fx22 : x22.toInt = ((f_size S).toInt - x21.toInt - 2) := by rw [ex22]; exact (zt_sub fx20 (show x21.toInt = _ from rfl) (by omega) (by omega)).trans (by omega)
          refine jm_cv (w := (fun u => u)) hK hP hD hS hA (va_runV (As := [.int x1, .int x22]) (rest := []) F (m_move l D T h0 ar S x1 x22 H.size (show 0 ≤ x1.toInt ∧ x1.toInt < 1300 by first | omega | (simp only [fx1, fx22]; omega)) (show 0 ≤ x22.toInt ∧ x22.toInt < 1300 by first | omega | (simp only [fx1, fx22]; omega))) (j_cV (k := 2) (C := "PageScribeModel") hts k_7_76 k_1_12 k_7_73 k_7_75 k_0_82 (by decide +kernel) ⟨Nat.le_of_ble_eq_true rfl, Nat.le_of_ble_eq_true rfl⟩) (jm_pre hK hP hD) rfl rfl hl.1 rfl (lv_room (Nat.le_of_ble_eq_true rfl)) d_Mo_stackOperator_249 ⟨Nat.le_of_ble_eq_true rfl, Nat.le_of_ble_eq_true rfl⟩) (fun S7 H locs hw6 hP hD hS => ?_)
          try simp only [fx1, fx22] at hw6
          obtain rfl := hw6
          have hP : va_P D classes (mW T h0 ar ((((f_thrown S), (upd (a_kinds S) (((f_size S).toInt - 1).toNat) ((a_kinds S) (((f_size S).toInt - x21.toInt - 2).toNat))), (vp_updL (a_codes S) (((f_size S).toInt - 1).toNat) ((a_codes S) (((f_size S).toInt - x21.toInt - 2).toNat))), (vf_upd (a_reals S) (((f_size S).toInt - 1).toNat) ((a_reals S) (((f_size S).toInt - x21.toInt - 2).toNat))), (f_size S), (f_taken S), (a_words S), (a_many S)), S.2.1, S.2.2.1, S.2.2.2.1, S.2.2.2.2.1, S.2.2.2.2.2) : MS)) H := hP
          have hD : va_D A (mW T h0 ar ((((f_thrown S), (upd (a_kinds S) (((f_size S).toInt - 1).toNat) ((a_kinds S) (((f_size S).toInt - x21.toInt - 2).toNat))), (vp_updL (a_codes S) (((f_size S).toInt - 1).toNat) ((a_codes S) (((f_size S).toInt - x21.toInt - 2).toNat))), (vf_upd (a_reals S) (((f_size S).toInt - 1).toNat) ((a_reals S) (((f_size S).toInt - x21.toInt - 2).toNat))), (f_size S), (f_taken S), (a_words S), (a_many S)), S.2.1, S.2.2.1, S.2.2.2.1, S.2.2.2.2.1, S.2.2.2.2.2) : MS)) := hD
          have i_vals : ∀ k, k < 1300 → vOk ((upd (a_kinds S) (((f_size S).toInt - 1).toNat) ((a_kinds S) (((f_size S).toInt - x21.toInt - 2).toNat))) k) ((vp_updL (a_codes S) (((f_size S).toInt - 1).toNat) ((a_codes S) (((f_size S).toInt - x21.toInt - 2).toNat))) k) ((vf_upd (a_reals S) (((f_size S).toInt - 1).toNat) ((a_reals S) (((f_size S).toInt - x21.toInt - 2).toNat))) k) := vOk_upd i_vals (i_vals (((f_size S).toInt - x21.toInt - 2).toNat) (by omega))
          have fa9 : ((upd (a_kinds S) (((f_size S).toInt - 1).toNat) ((a_kinds S) (((f_size S).toInt - x21.toInt - 2).toNat))) (((f_size S).toInt - 1).toNat)).toInt = ((a_kinds S) (((f_size S).toInt - x21.toInt - 2).toNat)).toInt := congrArg Int32.toInt upd_s
          have fa10 : ((vp_updL (a_codes S) (((f_size S).toInt - 1).toNat) ((a_codes S) (((f_size S).toInt - x21.toInt - 2).toNat))) (((f_size S).toInt - 1).toNat)).toInt = ((a_codes S) (((f_size S).toInt - x21.toInt - 2).toNat)).toInt := congrArg Int64.toInt updL_s
          refine lv_iconst (v := 0) hx hb d_Mo_stackOperator_252 (by decide) ?_
          exact j_iret F hr hlocks hK hS ((((f_thrown S), (upd (a_kinds S) (((f_size S).toInt - 1).toNat) ((a_kinds S) (((f_size S).toInt - x21.toInt - 2).toNat))), (vp_updL (a_codes S) (((f_size S).toInt - 1).toNat) ((a_codes S) (((f_size S).toInt - x21.toInt - 2).toNat))), (vf_upd (a_reals S) (((f_size S).toInt - 1).toNat) ((a_reals S) (((f_size S).toInt - x21.toInt - 2).toNat))), (f_size S), (f_taken S), (a_words S), (a_many S)), S.2.1, S.2.2.1, S.2.2.2.1, S.2.2.2.2.1, S.2.2.2.2.2) : MS) ⟨⟨i_size, i_taken, i_vals, i_room, i_dicts, i_deep, i_open, i_cells, i_points, i_part, i_length, i_knows, i_page, i_text, i_pats, i_fuel, i_fr, i_ink⟩, (kA_r S), (kF_r S), (show 0 ≤ (0 : Int32).toInt ∧ (0 : Int32).toInt ≤ 16 by have := tI_0; omega)⟩ hP hD d_Mo_stackOperator_253
        · have fc236_1 : 0 ≤ x19.toInt := Int.not_lt.mp (zt_nlt (show x19.toInt = _ from rfl) tI_0 c236_1)
          have vc236_1 : j1.toInt ≥ ((f_size S).toInt - 1) := by have := zr_cmp ex19 (show j1.toInt = _ from rfl) fx18; have := Int.not_lt.mp (zt_nlt (show x19.toInt = _ from rfl) tI_0 c236_1); omega
          refine lv_iconst (v := 4) hx hb d_Mo_stackOperator_239 (by decide) ?_
          exact j_iret F hr hlocks hK hS S ⟨⟨i_size, i_taken, i_vals, i_room, i_dicts, i_deep, i_open, i_cells, i_points, i_part, i_length, i_knows, i_page, i_text, i_pats, i_fuel, i_fr, i_ink⟩, (kA_r S), (kF_r S), (show 0 ≤ (4 : Int32).toInt ∧ (4 : Int32).toInt ≤ 16 by have := tI_4; omega)⟩ hP hD d_Mo_stackOperator_240
    by_cases h_5_1 : p0.toInt = 5
    · refine lv_lookup (off := 231) (tgt := 254) hx hb d_Mo_stackOperator_23 (by decide +kernel) (by rw [show p0.toInt = 5 from h_5_1]; decide +kernel) (by decide) ?_
      have hs := h2.2 (by omega)
      refine lv_aload_n hx hb d_Mo_stackOperator_254 rfl (lv_at hl 2 rfl) ?_
      refine lv_aload_n hx hb d_Mo_stackOperator_255 rfl (lv_at hl 2 rfl) ?_
      refine va_get (D := D) (ci := 11) (v := .ref (ar 1)) (C := "PageScribeModel") (T := F_Mo) (N := 45) hx hb hts i_Mo hown hK hP 0 mW_0 cl_11 2 (by decide) (hts _ k_6_162) (fun _ h9 => h9) (mg_codes _ _) d_Mo_stackOperator_256 ?_
      refine lv_iload_n hx hb d_Mo_stackOperator_259 rfl (lv_at hl 1 rfl) ?_
      refine lv_iconst (v := 1) hx hb d_Mo_stackOperator_260 (by decide) ?_
      refine lv_isub hx hb d_Mo_stackOperator_261 ?_
      refine lv_topi (fun x23 ex23 => ?_)
      have fx23 : x23.toInt = ((f_size S).toInt - 2) := by rw [ex23]; exact (zt_sub fx1 tI_1 (by omega) (by omega)).trans (by omega)
      refine va_lald hx hb hK hP 2 1 (ma_codes _ _ _ _) rfl (zt_in fx23 (by omega) (by omega)) d_Mo_stackOperator_262 ?_
      refine lv_topl (fun x24 ex24 => ?_)
      have gx24 : x24 = (a_codes S) ((f_size S).toInt - 2).toNat := ex24.trans (congrArg _ (zt_ix fx23))
      have fx24 : x24.toInt = ((a_codes S) ((f_size S).toInt - 2).toNat).toInt := by rw [gx24]
      have kx24 : vOk ((a_kinds S) ((f_size S).toInt - 2).toNat) ((a_codes S) ((f_size S).toInt - 2).toNat) ((a_reals S) ((f_size S).toInt - 2).toNat) := i_vals (((f_size S).toInt - 2).toNat) (by omega)
      refine lv_lload_n hx hb d_Mo_stackOperator_263 rfl (lv_at hl 0 rfl) ?_
      refine jm_ci (w := (fun u => u)) hK hP hD hS hA (va_runV (As := [.long x24, .long j1]) (rest := []) F (m_roll l D T h0 ar S x24 j1 H.size ⟨i_size, i_taken, i_vals, i_room, i_dicts, i_deep, i_open, i_cells, i_points, i_part, i_length, i_knows, i_page, i_text, i_pats, i_fuel, i_fr, i_ink⟩ (show 2 ≤ (f_size S).toInt by omega)) (j_cV (k := 2) (C := "PageScribeModel") hts k_7_187 k_1_12 k_7_184 k_7_186 k_0_105 (by decide +kernel) ⟨Nat.le_of_ble_eq_true rfl, Nat.le_of_ble_eq_true rfl⟩) (jm_pre hK hP hD) rfl rfl hl.1 rfl (lv_room (Nat.le_of_ble_eq_true rfl)) d_Mo_stackOperator_264 ⟨Nat.le_of_ble_eq_true rfl, Nat.le_of_ble_eq_true rfl⟩) (fun rv7 S8 H locs hw7 hP hD hS => ?_)
      have hP : va_P D classes (mW T h0 ar S8) H := hP
      have hD : va_D A (mW T h0 ar S8) := hD
      obtain ⟨⟨i_size, i_taken, i_vals, i_room, i_dicts, i_deep, i_open, i_cells, i_points, i_part, i_length, i_knows, i_page, i_text, i_pats, i_fuel, i_fr, i_ink⟩, kpA_S8, kpF_S8, qqhw7⟩ := hw7
      have kSA_S8 : kA S S8 := kA_t (show kA S S from (kA_r S)) kpA_S8
      have kSF_S8 : kF S S8 := kF_t (show kF S S from (kF_r S)) kpF_S8
      have kST_S8 : kT S S8 := kT_t (show kT S S from (kT_r S)) (kT_A kpA_S8)
      have qhw7 : rv7.toInt = 0 ∨ rv7.toInt = 4 := qqhw7
      exact j_iret F hr hlocks hK hS S8 ⟨⟨i_size, i_taken, i_vals, i_room, i_dicts, i_deep, i_open, i_cells, i_points, i_part, i_length, i_knows, i_page, i_text, i_pats, i_fuel, i_fr, i_ink⟩, kSA_S8, kSF_S8, (show 0 ≤ rv7.toInt ∧ rv7.toInt ≤ 16 by omega)⟩ hP hD d_Mo_stackOperator_267
    by_cases h_6_1 : p0.toInt = 6
    · refine lv_lookup (off := 245) (tgt := 268) hx hb d_Mo_stackOperator_23 (by decide +kernel) (by rw [show p0.toInt = 6 from h_6_1]; decide +kernel) (by decide) ?_
      refine lv_aload_n hx hb d_Mo_stackOperator_268 rfl (lv_at hl 2 rfl) ?_
      refine lv_iconst (v := 0) hx hb d_Mo_stackOperator_269 (by decide) ?_
      refine va_put (D := D) (ci := 11) (v := .int 0) (ty := .int) (C := "PageScribeModel") (T := F_Mo) (N := 45) hx hb hts i_Mo t_Mo t_Mo_ok n_Mo hown hK hP hD hS 0 mW_0 cl_11 4 (by decide) (hts _ k_6_164) (fun _ h9 => h9) rfl (by decide +kernel) rfl rfl (Nat.le_of_ble_eq_true rfl) d_Mo_stackOperator_270 (fun H locs hP hD hS => ?_)
      rw [mp_size] at hP hD
      have hP : va_P D classes (mW T h0 ar ((((f_thrown S), (a_kinds S), (a_codes S), (a_reals S), 0, (f_taken S), (a_words S), (a_many S)), S.2.1, S.2.2.1, S.2.2.2.1, S.2.2.2.2.1, S.2.2.2.2.2) : MS)) H := hP
      have hD : va_D A (mW T h0 ar ((((f_thrown S), (a_kinds S), (a_codes S), (a_reals S), 0, (f_taken S), (a_words S), (a_many S)), S.2.1, S.2.2.1, S.2.2.2.1, S.2.2.2.2.1, S.2.2.2.2.2) : MS)) := hD
      refine lv_iconst (v := 0) hx hb d_Mo_stackOperator_273 (by decide) ?_
      exact j_iret F hr hlocks hK hS ((((f_thrown S), (a_kinds S), (a_codes S), (a_reals S), 0, (f_taken S), (a_words S), (a_many S)), S.2.1, S.2.2.1, S.2.2.2.1, S.2.2.2.2.1, S.2.2.2.2.2) : MS) ⟨⟨(show 0 ≤ (0 : Int32).toInt ∧ (0 : Int32).toInt ≤ 40 by have := tI_0; omega), i_taken, i_vals, i_room, i_dicts, i_deep, i_open, i_cells, i_points, i_part, i_length, i_knows, i_page, i_text, i_pats, i_fuel, i_fr, i_ink⟩, (kA_r S), (kF_r S), (show 0 ≤ (0 : Int32).toInt ∧ (0 : Int32).toInt ≤ 16 by have := tI_0; omega)⟩ hP hD d_Mo_stackOperator_274
    by_cases h_7_1 : p0.toInt = 7
    · refine lv_lookup (off := 252) (tgt := 275) hx hb d_Mo_stackOperator_23 (by decide +kernel) (by rw [show p0.toInt = 7 from h_7_1]; decide +kernel) (by decide) ?_
      refine lv_aload_n hx hb d_Mo_stackOperator_275 rfl (lv_at hl 2 rfl) ?_
      refine lv_iconst (v := 0) hx hb d_Mo_stackOperator_276 (by decide) ?_
      refine lv_aload_n hx hb d_Mo_stackOperator_277 rfl (lv_at hl 2 rfl) ?_
      refine va_get (D := D) (ci := 11) (v := .int (f_size S)) (C := "PageScribeModel") (T := F_Mo) (N := 45) hx hb hts i_Mo hown hK hP 0 mW_0 cl_11 4 (by decide) (hts _ k_6_164) (fun _ h9 => h9) (mg_size _ _) d_Mo_stackOperator_278 ?_
      refine lv_i2l (v := ((f_size S)).toInt64) hx hb d_Mo_stackOperator_281 rfl ?_
      refine lv_topl (fun x25 ex25 => ?_)
      have fx25 : x25.toInt = (f_size S).toInt := by rw [ex25]; exact zu_i2l (show (f_size S).toInt = _ from rfl)
      refine jm_ci (w := (fun u => u)) hK hP hD hS hA (va_runV (As := [.int 0, .long x25]) (rest := []) F (m_push l D T h0 ar S (0 : Int32) x25 H.size ⟨i_size, i_taken, i_vals, i_room, i_dicts, i_deep, i_open, i_cells, i_points, i_part, i_length, i_knows, i_page, i_text, i_pats, i_fuel, i_fr, i_ink⟩ (vO_int (by omega))) (j_cV (k := 2) (C := "PageScribeModel") hts k_7_191 k_1_12 k_7_188 k_7_190 k_0_106 (by decide +kernel) ⟨Nat.le_of_ble_eq_true rfl, Nat.le_of_ble_eq_true rfl⟩) (jm_pre hK hP hD) rfl rfl hl.1 rfl (lv_room (Nat.le_of_ble_eq_true rfl)) d_Mo_stackOperator_282 ⟨Nat.le_of_ble_eq_true rfl, Nat.le_of_ble_eq_true rfl⟩) (fun rv8 S9 H locs hw8 hP hD hS => ?_)
      have hP : va_P D classes (mW T h0 ar S9) H := hP
      have hD : va_D A (mW T h0 ar S9) := hD
      obtain ⟨⟨i_size, i_taken, i_vals, i_room, i_dicts, i_deep, i_open, i_cells, i_points, i_part, i_length, i_knows, i_page, i_text, i_pats, i_fuel, i_fr, i_ink⟩, kpA_S9, kpF_S9, qqhw8⟩ := hw8
      have kSA_S9 : kA S S9 := kA_t (show kA S S from (kA_r S)) kpA_S9
      have kSF_S9 : kF S S9 := kF_t (show kF S S from (kF_r S)) kpF_S9
      have kST_S9 : kT S S9 := kT_t (show kT S S from (kT_r S)) (kT_A kpA_S9)
      have qhw8 : rv8.toInt = 0 ∨ rv8.toInt = 2 := by simpa only [fx25, tI_0] using qqhw8
      exact j_iret F hr hlocks hK hS S9 ⟨⟨i_size, i_taken, i_vals, i_room, i_dicts, i_deep, i_open, i_cells, i_points, i_part, i_length, i_knows, i_page, i_text, i_pats, i_fuel, i_fr, i_ink⟩, kSA_S9, kSF_S9, (show 0 ≤ rv8.toInt ∧ rv8.toInt ≤ 16 by omega)⟩ hP hD d_Mo_stackOperator_285
    by_cases h_8_1 : p0.toInt = 8
    · refine lv_lookup (off := 263) (tgt := 286) hx hb d_Mo_stackOperator_23 (by decide +kernel) (by rw [show p0.toInt = 8 from h_8_1]; decide +kernel) (by decide) ?_
      refine lv_aload_n hx hb d_Mo_stackOperator_286 rfl (lv_at hl 2 rfl) ?_
      refine lv_iconst (v := 4) hx hb d_Mo_stackOperator_287 (by decide) ?_
      refine lv_lconst (v := 0) hx hb d_Mo_stackOperator_288 (by decide) ?_
      refine jm_ci (w := (fun u => u)) hK hP hD hS hA (va_runV (As := [.int 4, .long 0]) (rest := []) F (m_push l D T h0 ar S (4 : Int32) (0 : Int64) H.size ⟨i_size, i_taken, i_vals, i_room, i_dicts, i_deep, i_open, i_cells, i_points, i_part, i_length, i_knows, i_page, i_text, i_pats, i_fuel, i_fr, i_ink⟩ (vO_of 4 tI_4 (by decide))) (j_cV (k := 2) (C := "PageScribeModel") hts k_7_191 k_1_12 k_7_188 k_7_190 k_0_106 (by decide +kernel) ⟨Nat.le_of_ble_eq_true rfl, Nat.le_of_ble_eq_true rfl⟩) (jm_pre hK hP hD) rfl rfl hl.1 rfl (lv_room (Nat.le_of_ble_eq_true rfl)) d_Mo_stackOperator_289 ⟨Nat.le_of_ble_eq_true rfl, Nat.le_of_ble_eq_true rfl⟩) (fun rv9 S10 H locs hw9 hP hD hS => ?_)
      have hP : va_P D classes (mW T h0 ar S10) H := hP
      have hD : va_D A (mW T h0 ar S10) := hD
      obtain ⟨⟨i_size, i_taken, i_vals, i_room, i_dicts, i_deep, i_open, i_cells, i_points, i_part, i_length, i_knows, i_page, i_text, i_pats, i_fuel, i_fr, i_ink⟩, kpA_S10, kpF_S10, qqhw9⟩ := hw9
      have kSA_S10 : kA S S10 := kA_t (show kA S S from (kA_r S)) kpA_S10
      have kSF_S10 : kF S S10 := kF_t (show kF S S from (kF_r S)) kpF_S10
      have kST_S10 : kT S S10 := kT_t (show kT S S from (kT_r S)) (kT_A kpA_S10)
      have qhw9 : rv9.toInt = 0 ∨ rv9.toInt = 2 := by simpa only [tI_4, tJ_0] using qqhw9
      exact j_iret F hr hlocks hK hS S10 ⟨⟨i_size, i_taken, i_vals, i_room, i_dicts, i_deep, i_open, i_cells, i_points, i_part, i_length, i_knows, i_page, i_text, i_pats, i_fuel, i_fr, i_ink⟩, kSA_S10, kSF_S10, (show 0 ≤ rv9.toInt ∧ rv9.toInt ≤ 16 by omega)⟩ hP hD d_Mo_stackOperator_292
    by_cases h_70_1 : p0.toInt = 70
    · refine lv_lookup (off := 263) (tgt := 286) hx hb d_Mo_stackOperator_23 (by decide +kernel) (by rw [show p0.toInt = 70 from h_70_1]; decide +kernel) (by decide) ?_
      refine lv_aload_n hx hb d_Mo_stackOperator_286 rfl (lv_at hl 2 rfl) ?_
      refine lv_iconst (v := 4) hx hb d_Mo_stackOperator_287 (by decide) ?_
      refine lv_lconst (v := 0) hx hb d_Mo_stackOperator_288 (by decide) ?_
      refine jm_ci (w := (fun u => u)) hK hP hD hS hA (va_runV (As := [.int 4, .long 0]) (rest := []) F (m_push l D T h0 ar S (4 : Int32) (0 : Int64) H.size ⟨i_size, i_taken, i_vals, i_room, i_dicts, i_deep, i_open, i_cells, i_points, i_part, i_length, i_knows, i_page, i_text, i_pats, i_fuel, i_fr, i_ink⟩ (vO_of 4 tI_4 (by decide))) (j_cV (k := 2) (C := "PageScribeModel") hts k_7_191 k_1_12 k_7_188 k_7_190 k_0_106 (by decide +kernel) ⟨Nat.le_of_ble_eq_true rfl, Nat.le_of_ble_eq_true rfl⟩) (jm_pre hK hP hD) rfl rfl hl.1 rfl (lv_room (Nat.le_of_ble_eq_true rfl)) d_Mo_stackOperator_289 ⟨Nat.le_of_ble_eq_true rfl, Nat.le_of_ble_eq_true rfl⟩) (fun rv10 S11 H locs hw10 hP hD hS => ?_)
      have hP : va_P D classes (mW T h0 ar S11) H := hP
      have hD : va_D A (mW T h0 ar S11) := hD
      obtain ⟨⟨i_size, i_taken, i_vals, i_room, i_dicts, i_deep, i_open, i_cells, i_points, i_part, i_length, i_knows, i_page, i_text, i_pats, i_fuel, i_fr, i_ink⟩, kpA_S11, kpF_S11, qqhw10⟩ := hw10
      have kSA_S11 : kA S S11 := kA_t (show kA S S from (kA_r S)) kpA_S11
      have kSF_S11 : kF S S11 := kF_t (show kF S S from (kF_r S)) kpF_S11
      have kST_S11 : kT S S11 := kT_t (show kT S S from (kT_r S)) (kT_A kpA_S11)
      have qhw10 : rv10.toInt = 0 ∨ rv10.toInt = 2 := by simpa only [tI_4, tJ_0] using qqhw10
      exact j_iret F hr hlocks hK hS S11 ⟨⟨i_size, i_taken, i_vals, i_room, i_dicts, i_deep, i_open, i_cells, i_points, i_part, i_length, i_knows, i_page, i_text, i_pats, i_fuel, i_fr, i_ink⟩, kSA_S11, kSF_S11, (show 0 ≤ rv10.toInt ∧ rv10.toInt ≤ 16 by omega)⟩ hP hD d_Mo_stackOperator_292
    refine lv_lookup (off := 270) (tgt := 293) hx hb d_Mo_stackOperator_23 (by decide +kernel) (by have q0 : ¬ (0 : Int) = p0.toInt := (by omega); have q1 : ¬ (1 : Int) = p0.toInt := (by omega); have q2 : ¬ (2 : Int) = p0.toInt := (by omega); have q3 : ¬ (3 : Int) = p0.toInt := (by omega); have q4 : ¬ (4 : Int) = p0.toInt := (by omega); have q5 : ¬ (5 : Int) = p0.toInt := (by omega); have q6 : ¬ (6 : Int) = p0.toInt := (by omega); have q7 : ¬ (7 : Int) = p0.toInt := (by omega); have q8 : ¬ (8 : Int) = p0.toInt := (by omega); have q70 : ¬ (70 : Int) = p0.toInt := (by omega); simp only [Op.lookupswitch.offset_cons, Op.lookupswitch.offset_nil, if_neg q0, if_neg q1, if_neg q2, if_neg q3, if_neg q4, if_neg q5, if_neg q6, if_neg q7, if_neg q8, if_neg q70]) (by decide) ?_
    refine lv_aload_n hx hb d_Mo_stackOperator_293 rfl (lv_at hl 2 rfl) ?_
    refine lv_iload_n hx hb d_Mo_stackOperator_294 rfl (lv_at hl 3 rfl) ?_
    refine jm_ci (w := (fun u => u)) hK hP hD hS hA (va_runV (As := [.int p0]) (rest := []) F (m_toMark l D T h0 ar S p0 H.size ⟨i_size, i_taken, i_vals, i_room, i_dicts, i_deep, i_open, i_cells, i_points, i_part, i_length, i_knows, i_page, i_text, i_pats, i_fuel, i_fr, i_ink⟩) (j_cV (k := 1) (C := "PageScribeModel") hts k_7_195 k_1_12 k_7_192 k_7_194 k_0_107 (by decide +kernel) ⟨Nat.le_of_ble_eq_true rfl, Nat.le_of_ble_eq_true rfl⟩) (jm_pre hK hP hD) rfl rfl hl.1 rfl (lv_room (Nat.le_of_ble_eq_true rfl)) d_Mo_stackOperator_295 ⟨Nat.le_of_ble_eq_true rfl, Nat.le_of_ble_eq_true rfl⟩) (fun rv11 S12 H locs hw11 hP hD hS => ?_)
    have hP : va_P D classes (mW T h0 ar S12) H := hP
    have hD : va_D A (mW T h0 ar S12) := hD
    obtain ⟨⟨i_size, i_taken, i_vals, i_room, i_dicts, i_deep, i_open, i_cells, i_points, i_part, i_length, i_knows, i_page, i_text, i_pats, i_fuel, i_fr, i_ink⟩, kpA_S12, kpF_S12, qqhw11⟩ := hw11
    have kSA_S12 : kA S S12 := kA_t (show kA S S from (kA_r S)) kpA_S12
    have kSF_S12 : kF S S12 := kF_t (show kF S S from (kF_r S)) kpF_S12
    have kST_S12 : kT S S12 := kT_t (show kT S S from (kT_r S)) (kT_A kpA_S12)
    have qhw11 : rv11.toInt = 0 ∨ rv11.toInt = 7 ∨ rv11.toInt = 9 := qqhw11
    exact j_iret F hr hlocks hK hS S12 ⟨⟨i_size, i_taken, i_vals, i_room, i_dicts, i_deep, i_open, i_cells, i_points, i_part, i_length, i_knows, i_page, i_text, i_pats, i_fuel, i_fr, i_ink⟩, kSA_S12, kSF_S12, (show 0 ≤ rv11.toInt ∧ rv11.toInt ≤ 16 by omega)⟩ hP hD d_Mo_stackOperator_298
  · refine lv_iload_n hx hb d_Mo_stackOperator_7 rfl (lv_at hl 0 rfl) ?_
    refine lv_if_ge (tgt := 15) hx hb d_Mo_stackOperator_8 (by decide) (fun c8_1 => ?_) (fun c8_1 => ?_)
    · have fc8_1 : 0 ≤ ((f_size S).toInt - 1) := zt_le tI_0 fx1 c8_1
      refine lv_aload_n hx hb d_Mo_stackOperator_15 rfl (lv_at hl 1 rfl) ?_
      refine va_get (D := D) (ci := 11) (v := .ref (ar 1)) (C := "PageScribeModel") (T := F_Mo) (N := 45) hx hb hts i_Mo hown hK hP 0 mW_0 cl_11 2 (by decide) (hts _ k_6_162) (fun _ h9 => h9) (mg_codes _ _) d_Mo_stackOperator_16 ?_
      refine lv_iload_n hx hb d_Mo_stackOperator_19 rfl (lv_at hl 0 rfl) ?_
      refine va_lald hx hb hK hP 2 1 (ma_codes _ _ _ _) rfl (zt_in fx1 (by omega) (by omega)) d_Mo_stackOperator_20 ?_
      refine lv_topl (fun x26 ex26 => ?_)
      have gx26 : x26 = (a_codes S) ((f_size S).toInt - 1).toNat := ex26.trans (congrArg _ (zt_ix fx1))
      have fx26 : x26.toInt = ((a_codes S) ((f_size S).toInt - 1).toNat).toInt := by rw [gx26]
      have kx26 : vOk ((a_kinds S) ((f_size S).toInt - 1).toNat) ((a_codes S) ((f_size S).toInt - 1).toNat) ((a_reals S) ((f_size S).toInt - 1).toNat) := i_vals (((f_size S).toInt - 1).toNat) (by omega)
      exact key1 (x26) _ _ _ ⟨trivial, hP, hD, hS, lv_sub hl [0, 1, 2] rfl⟩
    · have fc8_1 : ((f_size S).toInt - 1) < 0 := Int.not_le.mp (zt_nle tI_0 fx1 c8_1)
      refine lv_lconst (v := 0) hx hb d_Mo_stackOperator_11 (by decide) ?_
      refine lv_goto (tgt := 21) hx hb d_Mo_stackOperator_12 (by decide) ?_
      exact key1 (0 : Int64) _ _ _ ⟨trivial, hP, hD, hS, lv_sub hl [0, 1, 2] rfl⟩
