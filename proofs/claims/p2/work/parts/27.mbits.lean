def bitP (op x y : Int32) : Prop := ((op.toInt = 29 ∨ op.toInt = 30) → (x.toInt = 0 ∨ x.toInt = 2) ∧ x.toInt = y.toInt) ∧ (op.toInt = 31 → x.toInt = 0 ∨ x.toInt = 2)
theorem vk_and {op : Int32} {kx ky : Int32} {x y : Int64} {p q : UInt64} (hb : bitP op kx ky) (ho : op.toInt = 29 ∨ op.toInt = 30) (hx : vOk kx x p) (hy : vOk ky y q) : vOk kx (y &&& x) 0 ∧ vOk kx (y ||| x) 0 := by
  obtain ⟨h1, h2⟩ := hb.1 ho
  rcases h1 with h1 | h1
  · have e : kx = 0 := Int32.toInt_inj.mp (by rw [h1]; decide +kernel)
    have a := l_and (hy.2.1 (by omega)) (hx.2.1 h1)
    rw [e]
    exact ⟨vO_int a.1, vO_int a.2⟩
  · exact ⟨vO_of 2 h1 (by decide), vO_of 2 h1 (by decide)⟩
theorem vk_not {op : Int32} {kx ky : Int32} {x : Int64} {r : Int64} {p : UInt64} (hb : bitP op kx ky) (ho : op.toInt = 31) (hx : vOk kx x p) (hr : kx.toInt = 0 → -2147483648 ≤ r.toInt ∧ r.toInt ≤ 2147483647) : vOk kx r 0 := by
  rcases hb.2 ho with h1 | h1
  · have e : kx = 0 := Int32.toInt_inj.mp (by rw [h1]; decide +kernel)
    have a := hr h1
    rw [e]
    exact vO_int a
  · exact vO_of 2 h1 (by decide)
theorem d_Mo_bits_0 : decode prog_15_method_52_code 0 = .ok (.aload_n 0, 1) := by decide +kernel
theorem d_Mo_bits_1 : decode prog_15_method_52_code 1 = .ok (.getfield 13, 3) := by decide +kernel
theorem d_Mo_bits_4 : decode prog_15_method_52_code 4 = .ok (.iload_n 2, 1) := by decide +kernel
theorem d_Mo_bits_5 : decode prog_15_method_52_code 5 = .ok (.laload, 1) := by decide +kernel
theorem d_Mo_bits_6 : decode prog_15_method_52_code 6 = .ok (.lstore_n 3, 1) := by decide +kernel
theorem d_Mo_bits_7 : decode prog_15_method_52_code 7 = .ok (.iload_n 1, 1) := by decide +kernel
theorem d_Mo_bits_8 : decode prog_15_method_52_code 8 = .ok (.bipush 31, 2) := by decide +kernel
theorem d_Mo_bits_10 : decode prog_15_method_52_code 10 = .ok (.if_icmp .ne 35, 3) := by decide +kernel
theorem tI_31 : (31 : Int32).toInt = 31 := by decide +kernel
theorem d_Mo_bits_45 : decode prog_15_method_52_code 45 = .ok (.iload_n 1, 1) := by decide +kernel
theorem d_Mo_bits_46 : decode prog_15_method_52_code 46 = .ok (.bipush 35, 2) := by decide +kernel
theorem d_Mo_bits_48 : decode prog_15_method_52_code 48 = .ok (.if_icmp .ne 26, 3) := by decide +kernel
theorem tI_35 : (35 : Int32).toInt = 35 := by decide +kernel
theorem d_Mo_bits_74 : decode prog_15_method_52_code 74 = .ok (.iload_n 1, 1) := by decide +kernel
theorem d_Mo_bits_75 : decode prog_15_method_52_code 75 = .ok (.bipush 36, 2) := by decide +kernel
theorem d_Mo_bits_77 : decode prog_15_method_52_code 77 = .ok (.if_icmp .ne 16, 3) := by decide +kernel
theorem tI_36 : (36 : Int32).toInt = 36 := by decide +kernel
theorem d_Mo_bits_93 : decode prog_15_method_52_code 93 = .ok (.iload_n 1, 1) := by decide +kernel
theorem d_Mo_bits_94 : decode prog_15_method_52_code 94 = .ok (.bipush 33, 2) := by decide +kernel
theorem d_Mo_bits_96 : decode prog_15_method_52_code 96 = .ok (.if_icmp .eq 9, 3) := by decide +kernel
theorem tI_33 : (33 : Int32).toInt = 33 := by decide +kernel
theorem d_Mo_bits_105 : decode prog_15_method_52_code 105 = .ok (.aload_n 0, 1) := by decide +kernel
theorem d_Mo_bits_106 : decode prog_15_method_52_code 106 = .ok (.iload_n 2, 1) := by decide +kernel
theorem d_Mo_bits_107 : decode prog_15_method_52_code 107 = .ok (.invokevirtual 421, 3) := by decide +kernel
theorem d_Mo_bits_110 : decode prog_15_method_52_code 110 = .ok (.istore 5, 2) := by decide +kernel
theorem d_Mo_bits_112 : decode prog_15_method_52_code 112 = .ok (.iload 5, 2) := by decide +kernel
theorem d_Mo_bits_114 : decode prog_15_method_52_code 114 = .ok (.iconst 3, 1) := by decide +kernel
theorem d_Mo_bits_115 : decode prog_15_method_52_code 115 = .ok (.if_icmp .eq 9, 3) := by decide +kernel
theorem tI_3 : (3 : Int32).toInt = 3 := by decide +kernel
theorem d_Mo_bits_124 : decode prog_15_method_52_code 124 = .ok (.aload_n 0, 1) := by decide +kernel
theorem d_Mo_bits_125 : decode prog_15_method_52_code 125 = .ok (.getfield 7, 3) := by decide +kernel
theorem d_Mo_bits_128 : decode prog_15_method_52_code 128 = .ok (.iload_n 2, 1) := by decide +kernel
theorem d_Mo_bits_145 : decode prog_15_method_52_code 145 = .ok (.iastore, 1) := by decide +kernel
theorem d_Mo_bits_146 : decode prog_15_method_52_code 146 = .ok (.iconst 0, 1) := by decide +kernel
theorem d_Mo_bits_147 : decode prog_15_method_52_code 147 = .ok (.ireturn, 1) := by decide +kernel
theorem d_Mo_bits_129 : decode prog_15_method_52_code 129 = .ok (.iload_n 1, 1) := by decide +kernel
theorem d_Mo_bits_130 : decode prog_15_method_52_code 130 = .ok (.bipush 33, 2) := by decide +kernel
theorem d_Mo_bits_132 : decode prog_15_method_52_code 132 = .ok (.if_icmp .ne 11, 3) := by decide +kernel
theorem d_Mo_bits_143 : decode prog_15_method_52_code 143 = .ok (.iload 5, 2) := by decide +kernel
theorem d_Mo_bits_135 : decode prog_15_method_52_code 135 = .ok (.iload 5, 2) := by decide +kernel
theorem d_Mo_bits_137 : decode prog_15_method_52_code 137 = .ok (.bipush 8, 2) := by decide +kernel
theorem d_Mo_bits_139 : decode prog_15_method_52_code 139 = .ok (.iadd, 1) := by decide +kernel
theorem tI_8 : (8 : Int32).toInt = 8 := by decide +kernel
theorem d_Mo_bits_140 : decode prog_15_method_52_code 140 = .ok (.goto 5, 3) := by decide +kernel
theorem d_Mo_bits_118 : decode prog_15_method_52_code 118 = .ok (.iload 5, 2) := by decide +kernel
theorem d_Mo_bits_120 : decode prog_15_method_52_code 120 = .ok (.iconst 5, 1) := by decide +kernel
theorem d_Mo_bits_121 : decode prog_15_method_52_code 121 = .ok (.if_icmp .ne 25, 3) := by decide +kernel
theorem d_Mo_bits_99 : decode prog_15_method_52_code 99 = .ok (.iload_n 1, 1) := by decide +kernel
theorem d_Mo_bits_100 : decode prog_15_method_52_code 100 = .ok (.bipush 34, 2) := by decide +kernel
theorem d_Mo_bits_102 : decode prog_15_method_52_code 102 = .ok (.if_icmp .ne 46, 3) := by decide +kernel
theorem tI_34 : (34 : Int32).toInt = 34 := by decide +kernel
theorem d_Mo_bits_148 : decode prog_15_method_52_code 148 = .ok (.aload_n 0, 1) := by decide +kernel
theorem d_Mo_bits_149 : decode prog_15_method_52_code 149 = .ok (.getfield 13, 3) := by decide +kernel
theorem d_Mo_bits_152 : decode prog_15_method_52_code 152 = .ok (.iload_n 2, 1) := by decide +kernel
theorem d_Mo_bits_153 : decode prog_15_method_52_code 153 = .ok (.iconst 1, 1) := by decide +kernel
theorem d_Mo_bits_154 : decode prog_15_method_52_code 154 = .ok (.isub, 1) := by decide +kernel
theorem d_Mo_bits_155 : decode prog_15_method_52_code 155 = .ok (.laload, 1) := by decide +kernel
theorem d_Mo_bits_156 : decode prog_15_method_52_code 156 = .ok (.l2i, 1) := by decide +kernel
theorem d_Mo_bits_157 : decode prog_15_method_52_code 157 = .ok (.istore 5, 2) := by decide +kernel
theorem d_Mo_bits_159 : decode prog_15_method_52_code 159 = .ok (.iload_n 1, 1) := by decide +kernel
theorem d_Mo_bits_160 : decode prog_15_method_52_code 160 = .ok (.bipush 29, 2) := by decide +kernel
theorem d_Mo_bits_162 : decode prog_15_method_52_code 162 = .ok (.if_icmp .ne 25, 3) := by decide +kernel
theorem tI_29 : (29 : Int32).toInt = 29 := by decide +kernel
theorem d_Mo_bits_187 : decode prog_15_method_52_code 187 = .ok (.iload_n 1, 1) := by decide +kernel
theorem d_Mo_bits_188 : decode prog_15_method_52_code 188 = .ok (.bipush 30, 2) := by decide +kernel
theorem d_Mo_bits_190 : decode prog_15_method_52_code 190 = .ok (.if_icmp .ne 25, 3) := by decide +kernel
theorem tI_30 : (30 : Int32).toInt = 30 := by decide +kernel
theorem d_Mo_bits_236 : decode prog_15_method_52_code 236 = .ok (.istore 6, 2) := by decide +kernel
theorem d_Mo_bits_238 : decode prog_15_method_52_code 238 = .ok (.aload_n 0, 1) := by decide +kernel
theorem d_Mo_bits_239 : decode prog_15_method_52_code 239 = .ok (.iconst 2, 1) := by decide +kernel
theorem d_Mo_bits_240 : decode prog_15_method_52_code 240 = .ok (.iconst 0, 1) := by decide +kernel
theorem d_Mo_bits_272 : decode prog_15_method_52_code 272 = .ok (.invokevirtual 262, 3) := by decide +kernel
theorem d_Mo_bits_275 : decode prog_15_method_52_code 275 = .ok (.ireturn, 1) := by decide +kernel
theorem d_Mo_bits_241 : decode prog_15_method_52_code 241 = .ok (.iload 6, 2) := by decide +kernel
theorem d_Mo_bits_243 : decode prog_15_method_52_code 243 = .ok (.ifCond .eq 7, 3) := by decide +kernel
theorem d_Mo_bits_250 : decode prog_15_method_52_code 250 = .ok (.lload_n 3, 1) := by decide +kernel
theorem d_Mo_bits_251 : decode prog_15_method_52_code 251 = .ok (.lconst 0, 1) := by decide +kernel
theorem d_Mo_bits_252 : decode prog_15_method_52_code 252 = .ok (.lcmp, 1) := by decide +kernel
theorem d_Mo_bits_253 : decode prog_15_method_52_code 253 = .ok (.ifCond .ge 13, 3) := by decide +kernel
theorem d_Mo_bits_266 : decode prog_15_method_52_code 266 = .ok (.iload 5, 2) := by decide +kernel
theorem d_Mo_bits_268 : decode prog_15_method_52_code 268 = .ok (.lload_n 3, 1) := by decide +kernel
theorem d_Mo_bits_269 : decode prog_15_method_52_code 269 = .ok (.l2i, 1) := by decide +kernel
theorem d_Mo_bits_270 : decode prog_15_method_52_code 270 = .ok (.ishl, 1) := by decide +kernel
theorem d_Mo_bits_271 : decode prog_15_method_52_code 271 = .ok (.i2l, 1) := by decide +kernel
theorem d_Mo_bits_256 : decode prog_15_method_52_code 256 = .ok (.iload 5, 2) := by decide +kernel
theorem d_Mo_bits_258 : decode prog_15_method_52_code 258 = .ok (.lload_n 3, 1) := by decide +kernel
theorem d_Mo_bits_259 : decode prog_15_method_52_code 259 = .ok (.lneg, 1) := by decide +kernel
theorem d_Mo_bits_260 : decode prog_15_method_52_code 260 = .ok (.l2i, 1) := by decide +kernel
theorem d_Mo_bits_261 : decode prog_15_method_52_code 261 = .ok (.iushr, 1) := by decide +kernel
theorem d_Mo_bits_262 : decode prog_15_method_52_code 262 = .ok (.i2l, 1) := by decide +kernel
theorem d_Mo_bits_263 : decode prog_15_method_52_code 263 = .ok (.goto 9, 3) := by decide +kernel
theorem d_Mo_bits_246 : decode prog_15_method_52_code 246 = .ok (.lconst 0, 1) := by decide +kernel
theorem d_Mo_bits_247 : decode prog_15_method_52_code 247 = .ok (.goto 25, 3) := by decide +kernel
theorem d_Mo_bits_215 : decode prog_15_method_52_code 215 = .ok (.lload_n 3, 1) := by decide +kernel
theorem d_Mo_bits_216 : decode prog_15_method_52_code 216 = .ok (.ldc2_w 493, 3) := by decide +kernel
theorem k_7_239 : Cond.constantLong "PageScribeModel" 493 (31 : Int64) ∈ gw := gw_of (tb_7 (List.mem_of_getElem? (i := 239) (by decide +kernel))) (by decide +kernel)
theorem d_Mo_bits_219 : decode prog_15_method_52_code 219 = .ok (.lcmp, 1) := by decide +kernel
theorem tJ_31 : (31 : Int64).toInt = 31 := by decide +kernel
theorem d_Mo_bits_220 : decode prog_15_method_52_code 220 = .ok (.ifCond .gt 11, 3) := by decide +kernel
theorem d_Mo_bits_231 : decode prog_15_method_52_code 231 = .ok (.iconst 1, 1) := by decide +kernel
theorem d_Mo_bits_232 : decode prog_15_method_52_code 232 = .ok (.goto 4, 3) := by decide +kernel
theorem d_Mo_bits_223 : decode prog_15_method_52_code 223 = .ok (.lload_n 3, 1) := by decide +kernel
theorem d_Mo_bits_224 : decode prog_15_method_52_code 224 = .ok (.ldc2_w 495, 3) := by decide +kernel
theorem k_8_0 : Cond.constantLong "PageScribeModel" 495 (-31 : Int64) ∈ gw := gw_of (tb_8 (List.mem_of_getElem? (i := 0) (by decide +kernel))) (by decide +kernel)
theorem d_Mo_bits_227 : decode prog_15_method_52_code 227 = .ok (.lcmp, 1) := by decide +kernel
theorem tJ_m31 : (-31 : Int64).toInt = -31 := by decide +kernel
theorem d_Mo_bits_228 : decode prog_15_method_52_code 228 = .ok (.ifCond .ge 7, 3) := by decide +kernel
theorem d_Mo_bits_235 : decode prog_15_method_52_code 235 = .ok (.iconst 0, 1) := by decide +kernel
theorem d_Mo_bits_193 : decode prog_15_method_52_code 193 = .ok (.aload_n 0, 1) := by decide +kernel
theorem d_Mo_bits_194 : decode prog_15_method_52_code 194 = .ok (.iconst 2, 1) := by decide +kernel
theorem d_Mo_bits_195 : decode prog_15_method_52_code 195 = .ok (.aload_n 0, 1) := by decide +kernel
theorem d_Mo_bits_196 : decode prog_15_method_52_code 196 = .ok (.getfield 7, 3) := by decide +kernel
theorem d_Mo_bits_199 : decode prog_15_method_52_code 199 = .ok (.iload_n 2, 1) := by decide +kernel
theorem d_Mo_bits_200 : decode prog_15_method_52_code 200 = .ok (.iaload, 1) := by decide +kernel
theorem d_Mo_bits_201 : decode prog_15_method_52_code 201 = .ok (.aload_n 0, 1) := by decide +kernel
theorem d_Mo_bits_202 : decode prog_15_method_52_code 202 = .ok (.getfield 13, 3) := by decide +kernel
theorem d_Mo_bits_205 : decode prog_15_method_52_code 205 = .ok (.iload_n 2, 1) := by decide +kernel
theorem d_Mo_bits_206 : decode prog_15_method_52_code 206 = .ok (.iconst 1, 1) := by decide +kernel
theorem d_Mo_bits_207 : decode prog_15_method_52_code 207 = .ok (.isub, 1) := by decide +kernel
theorem d_Mo_bits_208 : decode prog_15_method_52_code 208 = .ok (.laload, 1) := by decide +kernel
theorem d_Mo_bits_209 : decode prog_15_method_52_code 209 = .ok (.lload_n 3, 1) := by decide +kernel
theorem d_Mo_bits_210 : decode prog_15_method_52_code 210 = .ok (.lor, 1) := by decide +kernel
theorem d_Mo_bits_211 : decode prog_15_method_52_code 211 = .ok (.invokevirtual 262, 3) := by decide +kernel
theorem d_Mo_bits_214 : decode prog_15_method_52_code 214 = .ok (.ireturn, 1) := by decide +kernel
theorem d_Mo_bits_165 : decode prog_15_method_52_code 165 = .ok (.aload_n 0, 1) := by decide +kernel
theorem d_Mo_bits_166 : decode prog_15_method_52_code 166 = .ok (.iconst 2, 1) := by decide +kernel
theorem d_Mo_bits_167 : decode prog_15_method_52_code 167 = .ok (.aload_n 0, 1) := by decide +kernel
theorem d_Mo_bits_168 : decode prog_15_method_52_code 168 = .ok (.getfield 7, 3) := by decide +kernel
theorem d_Mo_bits_171 : decode prog_15_method_52_code 171 = .ok (.iload_n 2, 1) := by decide +kernel
theorem d_Mo_bits_172 : decode prog_15_method_52_code 172 = .ok (.iaload, 1) := by decide +kernel
theorem d_Mo_bits_173 : decode prog_15_method_52_code 173 = .ok (.aload_n 0, 1) := by decide +kernel
theorem d_Mo_bits_174 : decode prog_15_method_52_code 174 = .ok (.getfield 13, 3) := by decide +kernel
theorem d_Mo_bits_177 : decode prog_15_method_52_code 177 = .ok (.iload_n 2, 1) := by decide +kernel
theorem d_Mo_bits_178 : decode prog_15_method_52_code 178 = .ok (.iconst 1, 1) := by decide +kernel
theorem d_Mo_bits_179 : decode prog_15_method_52_code 179 = .ok (.isub, 1) := by decide +kernel
theorem d_Mo_bits_180 : decode prog_15_method_52_code 180 = .ok (.laload, 1) := by decide +kernel
theorem d_Mo_bits_181 : decode prog_15_method_52_code 181 = .ok (.lload_n 3, 1) := by decide +kernel
theorem d_Mo_bits_182 : decode prog_15_method_52_code 182 = .ok (.land, 1) := by decide +kernel
theorem d_Mo_bits_183 : decode prog_15_method_52_code 183 = .ok (.invokevirtual 262, 3) := by decide +kernel
theorem d_Mo_bits_186 : decode prog_15_method_52_code 186 = .ok (.ireturn, 1) := by decide +kernel
theorem d_Mo_bits_80 : decode prog_15_method_52_code 80 = .ok (.aload_n 0, 1) := by decide +kernel
theorem d_Mo_bits_81 : decode prog_15_method_52_code 81 = .ok (.iconst 1, 1) := by decide +kernel
theorem d_Mo_bits_82 : decode prog_15_method_52_code 82 = .ok (.iconst 0, 1) := by decide +kernel
theorem d_Mo_bits_83 : decode prog_15_method_52_code 83 = .ok (.aload_n 0, 1) := by decide +kernel
theorem d_Mo_bits_84 : decode prog_15_method_52_code 84 = .ok (.iload_n 2, 1) := by decide +kernel
theorem d_Mo_bits_85 : decode prog_15_method_52_code 85 = .ok (.invokevirtual 421, 3) := by decide +kernel
theorem d_Mo_bits_88 : decode prog_15_method_52_code 88 = .ok (.i2l, 1) := by decide +kernel
theorem d_Mo_bits_89 : decode prog_15_method_52_code 89 = .ok (.invokevirtual 262, 3) := by decide +kernel
theorem d_Mo_bits_92 : decode prog_15_method_52_code 92 = .ok (.ireturn, 1) := by decide +kernel
theorem d_Mo_bits_51 : decode prog_15_method_52_code 51 = .ok (.aload_n 0, 1) := by decide +kernel
theorem d_Mo_bits_52 : decode prog_15_method_52_code 52 = .ok (.iconst 1, 1) := by decide +kernel
theorem d_Mo_bits_53 : decode prog_15_method_52_code 53 = .ok (.iconst 2, 1) := by decide +kernel
theorem d_Mo_bits_70 : decode prog_15_method_52_code 70 = .ok (.invokevirtual 262, 3) := by decide +kernel
theorem d_Mo_bits_73 : decode prog_15_method_52_code 73 = .ok (.ireturn, 1) := by decide +kernel
theorem d_Mo_bits_54 : decode prog_15_method_52_code 54 = .ok (.aload_n 0, 1) := by decide +kernel
theorem d_Mo_bits_55 : decode prog_15_method_52_code 55 = .ok (.getfield 7, 3) := by decide +kernel
theorem d_Mo_bits_58 : decode prog_15_method_52_code 58 = .ok (.iload_n 2, 1) := by decide +kernel
theorem d_Mo_bits_59 : decode prog_15_method_52_code 59 = .ok (.iaload, 1) := by decide +kernel
theorem d_Mo_bits_60 : decode prog_15_method_52_code 60 = .ok (.bipush 7, 2) := by decide +kernel
theorem d_Mo_bits_62 : decode prog_15_method_52_code 62 = .ok (.if_icmp .le 7, 3) := by decide +kernel
theorem d_Mo_bits_69 : decode prog_15_method_52_code 69 = .ok (.lconst 0, 1) := by decide +kernel
theorem d_Mo_bits_65 : decode prog_15_method_52_code 65 = .ok (.lconst 1, 1) := by decide +kernel
theorem d_Mo_bits_66 : decode prog_15_method_52_code 66 = .ok (.goto 4, 3) := by decide +kernel
theorem d_Mo_bits_13 : decode prog_15_method_52_code 13 = .ok (.aload_n 0, 1) := by decide +kernel
theorem d_Mo_bits_14 : decode prog_15_method_52_code 14 = .ok (.iconst 1, 1) := by decide +kernel
theorem d_Mo_bits_15 : decode prog_15_method_52_code 15 = .ok (.aload_n 0, 1) := by decide +kernel
theorem d_Mo_bits_16 : decode prog_15_method_52_code 16 = .ok (.getfield 7, 3) := by decide +kernel
theorem d_Mo_bits_19 : decode prog_15_method_52_code 19 = .ok (.iload_n 2, 1) := by decide +kernel
theorem d_Mo_bits_20 : decode prog_15_method_52_code 20 = .ok (.iaload, 1) := by decide +kernel
theorem d_Mo_bits_41 : decode prog_15_method_52_code 41 = .ok (.invokevirtual 262, 3) := by decide +kernel
theorem d_Mo_bits_44 : decode prog_15_method_52_code 44 = .ok (.ireturn, 1) := by decide +kernel
theorem d_Mo_bits_21 : decode prog_15_method_52_code 21 = .ok (.aload_n 0, 1) := by decide +kernel
theorem d_Mo_bits_22 : decode prog_15_method_52_code 22 = .ok (.getfield 7, 3) := by decide +kernel
theorem d_Mo_bits_25 : decode prog_15_method_52_code 25 = .ok (.iload_n 2, 1) := by decide +kernel
theorem d_Mo_bits_26 : decode prog_15_method_52_code 26 = .ok (.iaload, 1) := by decide +kernel
theorem d_Mo_bits_27 : decode prog_15_method_52_code 27 = .ok (.ifCond .ne 11, 3) := by decide +kernel
theorem d_Mo_bits_38 : decode prog_15_method_52_code 38 = .ok (.lconst 1, 1) := by decide +kernel
theorem d_Mo_bits_39 : decode prog_15_method_52_code 39 = .ok (.lload_n 3, 1) := by decide +kernel
theorem d_Mo_bits_40 : decode prog_15_method_52_code 40 = .ok (.lsub, 1) := by decide +kernel
theorem d_Mo_bits_30 : decode prog_15_method_52_code 30 = .ok (.ldc2_w 400, 3) := by decide +kernel
theorem k_7_238 : Cond.constantLong "PageScribeModel" 400 (-1 : Int64) ∈ gw := gw_of (tb_7 (List.mem_of_getElem? (i := 238) (by decide +kernel))) (by decide +kernel)
theorem d_Mo_bits_33 : decode prog_15_method_52_code 33 = .ok (.lload_n 3, 1) := by decide +kernel
theorem d_Mo_bits_34 : decode prog_15_method_52_code 34 = .ok (.lsub, 1) := by decide +kernel
theorem tJ_m1 : (-1 : Int64).toInt = -1 := by decide +kernel
theorem d_Mo_bits_35 : decode prog_15_method_52_code 35 = .ok (.goto 6, 3) := by decide +kernel
set_option maxHeartbeats 4000000 in
set_option maxRecDepth 100000 in
theorem m_bits (l : Launch) (D : va_G) (T : Nat → ClassId) (h0 : Nat) (ar : Nat → Nat) (S : MS) (p0 : Int32) (p1 : Int32) (sz : Nat) (hI : MI S) (h1 : 29 ≤ p0.toInt ∧ p0.toInt ≤ 36) (h3 : p1.toInt = (f_size S).toInt - 1 ∧ 1 ≤ (f_size S).toInt ∧ ((p0.toInt = 29 ∨ p0.toInt = 30 ∨ p0.toInt = 32) → 2 ≤ (f_size S).toInt)) (h2 : bitP p0 ((a_kinds S) ((f_size S).toInt - 1).toNat) ((a_kinds S) ((f_size S).toInt - 2).toNat)) : Met l ⟨"PageScribeModel", "bits", "(II)I"⟩ (wy ⟨"PageScribeModel", "bits", "(II)I"⟩ prog_15_method_52_code 7 (some .int)) ({ frames := 2, cells := 0, slots := 0, locals := 140 }) (va_Pc [.ref h0, .int p0, .int p1] (Pw D T (mW T h0 ar S) sz E0)) (va_Qi (fun (r : Int32) (u : MS) => MI u ∧ kA S u ∧ kF S u ∧ (r.toInt = 0)) (fun u t => Bw D T (va_A (mW T h0 ar S) sz) (mW T h0 ar u) t) (va_A (mW T h0 ar S) sz)) 0 0 (va_A (mW T h0 ar S) sz) := by
  refine j_met (y := ⟨"PageScribeModel", "bits", "(II)I"⟩) (b := prog_15_method_52_code) (n := 7) (ret := (some .int)) (av := [.ref h0, .int p0, .int p1]) (Qc := fun A => va_Qi (fun (r : Int32) (u : MS) => MI u ∧ kA S u ∧ kF S u ∧ (r.toInt = 0)) (fun u t => Bw D T A (mW T h0 ar u) t) A) (by decide +kernel) (Nat.le_of_ble_eq_true rfl) (fun p e s m args below meth c A ls F hr hlocks hnm hK hP hD hS hA hN hE hl => ?_)
  obtain ⟨hx, hb, hml, hown, hts⟩ := id F
  have hl : lv_has ls 7 [(0, .ref h0), (1, .int p0), (2, .int p1)] := hl
  obtain ⟨i_size, i_taken, i_vals, i_room, i_dicts, i_deep, i_open, i_cells, i_points, i_part, i_length, i_knows, i_page, i_text, i_pats, i_fuel, i_fr, i_ink⟩ := id hI
  have kt := i_vals (((f_size S).toInt - 1).toNat) (by omega)
  have rt := vk_rng kt
  refine lv_aload_n hx hb d_Mo_bits_0 rfl (lv_at hl 0 rfl) ?_
  refine va_get (D := D) (ci := 11) (v := .ref (ar 1)) (C := "PageScribeModel") (T := F_Mo) (N := 45) hx hb hts i_Mo hown hK hP 0 mW_0 cl_11 2 (by decide) (hts _ k_6_162) (fun _ h9 => h9) (mg_codes _ _) d_Mo_bits_1 ?_
  refine lv_iload_n hx hb d_Mo_bits_4 rfl (lv_at hl 2 rfl) ?_
  refine va_lald hx hb hK hP 2 1 (ma_codes _ _ _ _) rfl (zt_in h3.1 (by omega) (by omega)) d_Mo_bits_5 ?_
  refine lv_topl (fun x1 ex1 => ?_)
  have gx1 : x1 = (a_codes S) ((f_size S).toInt - 1).toNat := ex1.trans (congrArg _ (zt_ix h3.1))
  have fx1 : x1.toInt = ((a_codes S) ((f_size S).toInt - 1).toNat).toInt := by rw [gx1]
  have kx1 : vOk ((a_kinds S) ((f_size S).toInt - 1).toNat) ((a_codes S) ((f_size S).toInt - 1).toNat) ((a_reals S) ((f_size S).toInt - 1).toNat) := i_vals (((f_size S).toInt - 1).toNat) (by omega)
  refine lv_lstore_n (lv' := [(3, .long x1), (0, .ref h0), (1, .int p0), (2, .int p1)]) hx hb d_Mo_bits_6 rfl hl (by decide) rfl (fun ls hl => ?_)
  refine lv_iload_n hx hb d_Mo_bits_7 rfl (lv_at hl 2 rfl) ?_
  refine lv_bipush (v := 31) hx hb d_Mo_bits_8 (by decide) ?_
  refine lv_icmp_ne (tgt := 45) hx hb d_Mo_bits_10 (by decide) (fun c10_1 => ?_) (fun c10_1 => ?_)
  · have fc10_1 : ¬ p0.toInt = 31 := zt_ne (show p0.toInt = _ from rfl) tI_31 c10_1
    refine lv_iload_n hx hb d_Mo_bits_45 rfl (lv_at hl 2 rfl) ?_
    refine lv_bipush (v := 35) hx hb d_Mo_bits_46 (by decide) ?_
    refine lv_icmp_ne (tgt := 74) hx hb d_Mo_bits_48 (by decide) (fun c48_1 => ?_) (fun c48_1 => ?_)
    · have fc48_1 : ¬ p0.toInt = 35 := zt_ne (show p0.toInt = _ from rfl) tI_35 c48_1
      refine lv_iload_n hx hb d_Mo_bits_74 rfl (lv_at hl 2 rfl) ?_
      refine lv_bipush (v := 36) hx hb d_Mo_bits_75 (by decide) ?_
      refine lv_icmp_ne (tgt := 93) hx hb d_Mo_bits_77 (by decide) (fun c77_1 => ?_) (fun c77_1 => ?_)
      · have fc77_1 : ¬ p0.toInt = 36 := zt_ne (show p0.toInt = _ from rfl) tI_36 c77_1
        refine lv_iload_n hx hb d_Mo_bits_93 rfl (lv_at hl 2 rfl) ?_
        refine lv_bipush (v := 33) hx hb d_Mo_bits_94 (by decide) ?_
        refine lv_icmp_eq (tgt := 105) hx hb d_Mo_bits_96 (by decide) (fun c96_1 => ?_) (fun c96_1 => ?_)
        · have fc96_1 : p0.toInt = 33 := zt_eq (show p0.toInt = _ from rfl) tI_33 c96_1
          refine lv_aload_n hx hb d_Mo_bits_105 rfl (lv_at hl 1 rfl) ?_
          refine lv_iload_n hx hb d_Mo_bits_106 rfl (lv_at hl 3 rfl) ?_
          have kv1 : vOk ((a_kinds S) (((f_size S).toInt - 1).toNat)) ((a_codes S) (((f_size S).toInt - 1).toNat)) ((a_reals S) (((f_size S).toInt - 1).toNat)) := i_vals (((f_size S).toInt - 1).toNat) (by omega)
          have rkv1 := vk_rng kv1
          refine jm_ci (w := (fun _ => S)) hK hP hD hS hA (va_runV (As := [.int p1]) (rest := []) F (m_kindOf l D T h0 ar S p1 s.heap.size (show 0 ≤ p1.toInt ∧ p1.toInt < 1300 by first | omega | (simp only [h3.1]; omega)) (show 0 ≤ ((a_kinds S) p1.toInt.toNat).toInt by first | omega | (simp only [h3.1]; omega))) (j_cV (k := 1) (C := "PageScribeModel") hts k_7_174 k_1_12 k_7_171 k_7_173 k_0_102 (by decide +kernel) ⟨Nat.le_of_ble_eq_true rfl, Nat.le_of_ble_eq_true rfl⟩) (jm_pre hK hP hD) rfl rfl hl.1 rfl (lv_room (Nat.le_of_ble_eq_true rfl)) d_Mo_bits_107 ⟨Nat.le_of_ble_eq_true rfl, Nat.le_of_ble_eq_true rfl⟩) (fun rv1 u1 H locs hw1 hP hD hS => ?_)
          have hP : va_P D classes (mW T h0 ar S) H := hP
          have hD : va_D A (mW T h0 ar S) := hD
          have qhw1 : rv1.toInt = ((a_kinds S) ((f_size S).toInt - 1).toNat).toInt % 8 := by simpa only [h3.1] using hw1
          refine lv_istore (lv' := [(5, .int rv1), (3, .long x1), (0, .ref h0), (1, .int p0), (2, .int p1)]) hx hb d_Mo_bits_110 hl (by decide) rfl (fun ls hl => ?_)
          refine lv_iload hx hb d_Mo_bits_112 (lv_at hl 0 rfl) ?_
          refine lv_iconst (v := 3) hx hb d_Mo_bits_114 (by decide) ?_
          refine lv_icmp_eq (tgt := 124) hx hb d_Mo_bits_115 (by decide) (fun c115_1 => ?_) (fun c115_1 => ?_)
          · have fc115_1 : rv1.toInt = 3 := zt_eq (show rv1.toInt = _ from rfl) tI_3 c115_1
            refine lv_aload_n hx hb d_Mo_bits_124 rfl (lv_at hl 2 rfl) ?_
            refine va_get (D := D) (ci := 11) (v := .ref (ar 0)) (C := "PageScribeModel") (T := F_Mo) (N := 45) hx hb hts i_Mo hown hK hP 0 mW_0 cl_11 1 (by decide) (hts _ k_6_161) (fun _ h9 => h9) (mg_kinds _ _) d_Mo_bits_125 ?_
            refine lv_iload_n hx hb d_Mo_bits_128 rfl (lv_at hl 4 rfl) ?_
            refine j_joinH (α := Int32) (fun x H locs ls => (x.toInt = rv1.toInt ∨ x.toInt = rv1.toInt + 8) ∧ va_P D classes (mW T h0 ar S) H ∧ va_D A (mW T h0 ar S) ∧ va_S A s.heap H locs ∧ lv_has ls 7 [(5, .int rv1), (3, .long x1), (0, .ref h0), (1, .int p0), (2, .int p1)]) (fun x ls => F0 m 145 ls (.int x :: [.int p1, .ref (ar 0)])) (fun x H locs ls hI9 => ?_) (fun key1 => ?_)
            · obtain ⟨j1, rfl⟩ : ∃ z, z = x := ⟨_, rfl⟩
              obtain ⟨hj1, hP, hD, hS, hl⟩ := hI9
              have hj1 : j1.toInt = rv1.toInt ∨ j1.toInt = rv1.toInt + 8 := hj1
              have hP : va_P D classes (mW T h0 ar S) H := hP
              have hD : va_D A (mW T h0 ar S) := hD
              have hl : lv_has ls 7 [(5, .int rv1), (3, .long x1), (0, .ref h0), (1, .int p0), (2, .int p1)] := hl
              refine va_iast hx hb hK hP hD hS 1 0 (ma_kinds _ _ _ _) rfl (zt_in h3.1 (by omega) (by omega)) d_Mo_bits_145 (fun H locs hP hD hS => ?_)
              rw [ms_kinds] at hP hD
              rw [zt_ix h3.1] at hP hD
              have hP : va_P D classes (mW T h0 ar ((((f_thrown S), (upd (a_kinds S) (((f_size S).toInt - 1).toNat) j1), (a_codes S), (a_reals S), (f_size S), (f_taken S), (a_words S), (a_many S)), S.2.1, S.2.2.1, S.2.2.2.1, S.2.2.2.2.1, S.2.2.2.2.2) : MS)) H := hP
              have hD : va_D A (mW T h0 ar ((((f_thrown S), (upd (a_kinds S) (((f_size S).toInt - 1).toNat) j1), (a_codes S), (a_reals S), (f_size S), (f_taken S), (a_words S), (a_many S)), S.2.1, S.2.2.1, S.2.2.2.1, S.2.2.2.2.1, S.2.2.2.2.2) : MS)) := hD
              refine lv_iconst (v := 0) hx hb d_Mo_bits_146 (by decide) ?_
              exact j_iret F hr hlocks hK hS ((((f_thrown S), (upd (a_kinds S) (((f_size S).toInt - 1).toNat) j1), (a_codes S), (a_reals S), (f_size S), (f_taken S), (a_words S), (a_many S)), S.2.1, S.2.2.1, S.2.2.2.1, S.2.2.2.2.1, S.2.2.2.2.2) : MS) ⟨⟨i_size, i_taken, (vOk_updK i_vals ⟨by omega, by omega, fun _ => vk_ar8 kt (by omega), by omega, vk_real kt⟩), i_room, i_dicts, i_deep, i_open, i_cells, i_points, i_part, i_length, i_knows, i_page, i_text, i_pats, i_fuel, i_fr, i_ink⟩, (kA_r S), (kF_r S), (show (0 : Int32).toInt = 0 by have := tI_0; omega)⟩ hP hD d_Mo_bits_147
            · refine lv_iload_n hx hb d_Mo_bits_129 rfl (lv_at hl 3 rfl) ?_
              refine lv_bipush (v := 33) hx hb d_Mo_bits_130 (by decide) ?_
              refine lv_icmp_ne (tgt := 143) hx hb d_Mo_bits_132 (by decide) (fun c132_1 => ?_) (fun c132_1 => ?_)
              · first | have fc132_1 : p0.toInt < 33 := (by have := zt_ne (show p0.toInt = _ from rfl) tI_33 c132_1; omega) | have fc132_1 : 33 < p0.toInt := (by have := zt_ne (show p0.toInt = _ from rfl) tI_33 c132_1; omega) | skip
                refine lv_iload hx hb d_Mo_bits_143 (lv_at hl 0 rfl) ?_
                exact key1 (rv1) _ _ _ ⟨(show rv1.toInt = rv1.toInt ∨ rv1.toInt = rv1.toInt + 8 by omega), hP, hD, hS, lv_sub hl [0, 1, 2, 3, 4] rfl⟩
              · have fc132_1 : p0.toInt = 33 := zt_eq (show p0.toInt = _ from rfl) tI_33 c132_1
                refine lv_iload hx hb d_Mo_bits_135 (lv_at hl 0 rfl) ?_
                refine lv_bipush (v := 8) hx hb d_Mo_bits_137 (by decide) ?_
                refine lv_iadd hx hb d_Mo_bits_139 ?_
                refine lv_topi (fun x2 ex2 => ?_)
                have fx2 : x2.toInt = (rv1.toInt + 8) := by rw [ex2]; exact (zt_add (show rv1.toInt = _ from rfl) tI_8 (by omega) (by omega)).trans (by omega)
                refine lv_goto (tgt := 145) hx hb d_Mo_bits_140 (by decide) ?_
                exact key1 (x2) _ _ _ ⟨(show x2.toInt = rv1.toInt ∨ x2.toInt = rv1.toInt + 8 by omega), hP, hD, hS, lv_sub hl [0, 1, 2, 3, 4] rfl⟩
          · first | have fc115_1 : rv1.toInt < 3 := (by have := zt_ne (show rv1.toInt = _ from rfl) tI_3 c115_1; omega) | have fc115_1 : 3 < rv1.toInt := (by have := zt_ne (show rv1.toInt = _ from rfl) tI_3 c115_1; omega) | skip
            refine lv_iload hx hb d_Mo_bits_118 (lv_at hl 0 rfl) ?_
            refine lv_iconst (v := 5) hx hb d_Mo_bits_120 (by decide) ?_
            refine lv_icmp_ne (tgt := 146) hx hb d_Mo_bits_121 (by decide) (fun c121_1 => ?_) (fun c121_1 => ?_)
            · first | have fc121_1 : rv1.toInt < 5 := (by have := zt_ne (show rv1.toInt = _ from rfl) tI_5 c121_1; omega) | have fc121_1 : 5 < rv1.toInt := (by have := zt_ne (show rv1.toInt = _ from rfl) tI_5 c121_1; omega) | skip
              refine lv_iconst (v := 0) hx hb d_Mo_bits_146 (by decide) ?_
              exact j_iret F hr hlocks hK hS S ⟨⟨i_size, i_taken, i_vals, i_room, i_dicts, i_deep, i_open, i_cells, i_points, i_part, i_length, i_knows, i_page, i_text, i_pats, i_fuel, i_fr, i_ink⟩, (kA_r S), (kF_r S), (show (0 : Int32).toInt = 0 by have := tI_0; omega)⟩ hP hD d_Mo_bits_147
            · have fc121_1 : rv1.toInt = 5 := zt_eq (show rv1.toInt = _ from rfl) tI_5 c121_1
              refine lv_aload_n hx hb d_Mo_bits_124 rfl (lv_at hl 2 rfl) ?_
              refine va_get (D := D) (ci := 11) (v := .ref (ar 0)) (C := "PageScribeModel") (T := F_Mo) (N := 45) hx hb hts i_Mo hown hK hP 0 mW_0 cl_11 1 (by decide) (hts _ k_6_161) (fun _ h9 => h9) (mg_kinds _ _) d_Mo_bits_125 ?_
              refine lv_iload_n hx hb d_Mo_bits_128 rfl (lv_at hl 4 rfl) ?_
              refine j_joinH (α := Int32) (fun x H locs ls => (x.toInt = rv1.toInt ∨ x.toInt = rv1.toInt + 8) ∧ va_P D classes (mW T h0 ar S) H ∧ va_D A (mW T h0 ar S) ∧ va_S A s.heap H locs ∧ lv_has ls 7 [(5, .int rv1), (3, .long x1), (0, .ref h0), (1, .int p0), (2, .int p1)]) (fun x ls => F0 m 145 ls (.int x :: [.int p1, .ref (ar 0)])) (fun x H locs ls hI9 => ?_) (fun key2 => ?_)
              · obtain ⟨j2, rfl⟩ : ∃ z, z = x := ⟨_, rfl⟩
                obtain ⟨hj2, hP, hD, hS, hl⟩ := hI9
                have hj2 : j2.toInt = rv1.toInt ∨ j2.toInt = rv1.toInt + 8 := hj2
                have hP : va_P D classes (mW T h0 ar S) H := hP
                have hD : va_D A (mW T h0 ar S) := hD
                have hl : lv_has ls 7 [(5, .int rv1), (3, .long x1), (0, .ref h0), (1, .int p0), (2, .int p1)] := hl
                refine va_iast hx hb hK hP hD hS 1 0 (ma_kinds _ _ _ _) rfl (zt_in h3.1 (by omega) (by omega)) d_Mo_bits_145 (fun H locs hP hD hS => ?_)
                rw [ms_kinds] at hP hD
                rw [zt_ix h3.1] at hP hD
                have hP : va_P D classes (mW T h0 ar ((((f_thrown S), (upd (a_kinds S) (((f_size S).toInt - 1).toNat) j2), (a_codes S), (a_reals S), (f_size S), (f_taken S), (a_words S), (a_many S)), S.2.1, S.2.2.1, S.2.2.2.1, S.2.2.2.2.1, S.2.2.2.2.2) : MS)) H := hP
                have hD : va_D A (mW T h0 ar ((((f_thrown S), (upd (a_kinds S) (((f_size S).toInt - 1).toNat) j2), (a_codes S), (a_reals S), (f_size S), (f_taken S), (a_words S), (a_many S)), S.2.1, S.2.2.1, S.2.2.2.1, S.2.2.2.2.1, S.2.2.2.2.2) : MS)) := hD
                refine lv_iconst (v := 0) hx hb d_Mo_bits_146 (by decide) ?_
                exact j_iret F hr hlocks hK hS ((((f_thrown S), (upd (a_kinds S) (((f_size S).toInt - 1).toNat) j2), (a_codes S), (a_reals S), (f_size S), (f_taken S), (a_words S), (a_many S)), S.2.1, S.2.2.1, S.2.2.2.1, S.2.2.2.2.1, S.2.2.2.2.2) : MS) ⟨⟨i_size, i_taken, (vOk_updK i_vals ⟨by omega, by omega, fun _ => vk_ar8 kt (by omega), by omega, vk_real kt⟩), i_room, i_dicts, i_deep, i_open, i_cells, i_points, i_part, i_length, i_knows, i_page, i_text, i_pats, i_fuel, i_fr, i_ink⟩, (kA_r S), (kF_r S), (show (0 : Int32).toInt = 0 by have := tI_0; omega)⟩ hP hD d_Mo_bits_147
              · refine lv_iload_n hx hb d_Mo_bits_129 rfl (lv_at hl 3 rfl) ?_
                refine lv_bipush (v := 33) hx hb d_Mo_bits_130 (by decide) ?_
                refine lv_icmp_ne (tgt := 143) hx hb d_Mo_bits_132 (by decide) (fun c132_2 => ?_) (fun c132_2 => ?_)
                · first | have fc132_2 : p0.toInt < 33 := (by have := zt_ne (show p0.toInt = _ from rfl) tI_33 c132_2; omega) | have fc132_2 : 33 < p0.toInt := (by have := zt_ne (show p0.toInt = _ from rfl) tI_33 c132_2; omega) | skip
                  refine lv_iload hx hb d_Mo_bits_143 (lv_at hl 0 rfl) ?_
                  exact key2 (rv1) _ _ _ ⟨(show rv1.toInt = rv1.toInt ∨ rv1.toInt = rv1.toInt + 8 by omega), hP, hD, hS, lv_sub hl [0, 1, 2, 3, 4] rfl⟩
                · have fc132_2 : p0.toInt = 33 := zt_eq (show p0.toInt = _ from rfl) tI_33 c132_2
                  refine lv_iload hx hb d_Mo_bits_135 (lv_at hl 0 rfl) ?_
                  refine lv_bipush (v := 8) hx hb d_Mo_bits_137 (by decide) ?_
                  refine lv_iadd hx hb d_Mo_bits_139 ?_
                  refine lv_topi (fun x3 ex3 => ?_)
                  have fx3 : x3.toInt = (rv1.toInt + 8) := by rw [ex3]; exact (zt_add (show rv1.toInt = _ from rfl) tI_8 (by omega) (by omega)).trans (by omega)
                  refine lv_goto (tgt := 145) hx hb d_Mo_bits_140 (by decide) ?_
                  exact key2 (x3) _ _ _ ⟨(show x3.toInt = rv1.toInt ∨ x3.toInt = rv1.toInt + 8 by omega), hP, hD, hS, lv_sub hl [0, 1, 2, 3, 4] rfl⟩
        · have fc96_1 : ¬ p0.toInt = 33 := zt_ne (show p0.toInt = _ from rfl) tI_33 c96_1
          refine lv_iload_n hx hb d_Mo_bits_99 rfl (lv_at hl 2 rfl) ?_
          refine lv_bipush (v := 34) hx hb d_Mo_bits_100 (by decide) ?_
          refine lv_icmp_ne (tgt := 148) hx hb d_Mo_bits_102 (by decide) (fun c102_1 => ?_) (fun c102_1 => ?_)
          · have fc102_1 : ¬ p0.toInt = 34 := zt_ne (show p0.toInt = _ from rfl) tI_34 c102_1
            have o3 : 2 ≤ (f_size S).toInt := by omega
            refine lv_aload_n hx hb d_Mo_bits_148 rfl (lv_at hl 1 rfl) ?_
            refine va_get (D := D) (ci := 11) (v := .ref (ar 1)) (C := "PageScribeModel") (T := F_Mo) (N := 45) hx hb hts i_Mo hown hK hP 0 mW_0 cl_11 2 (by decide) (hts _ k_6_162) (fun _ h9 => h9) (mg_codes _ _) d_Mo_bits_149 ?_
            refine lv_iload_n hx hb d_Mo_bits_152 rfl (lv_at hl 3 rfl) ?_
            refine lv_iconst (v := 1) hx hb d_Mo_bits_153 (by decide) ?_
            refine lv_isub hx hb d_Mo_bits_154 ?_
            refine lv_topi (fun x4 ex4 => ?_)
            have fx4 : x4.toInt = ((f_size S).toInt - 2) := by rw [ex4]; exact (zt_sub h3.1 tI_1 (by omega) (by omega)).trans (by omega)
            refine va_lald hx hb hK hP 2 1 (ma_codes _ _ _ _) rfl (zt_in fx4 (by omega) (by omega)) d_Mo_bits_155 ?_
            refine lv_topl (fun x5 ex5 => ?_)
            have gx5 : x5 = (a_codes S) ((f_size S).toInt - 2).toNat := ex5.trans (congrArg _ (zt_ix fx4))
            have fx5 : x5.toInt = ((a_codes S) ((f_size S).toInt - 2).toNat).toInt := by rw [gx5]
            have kx5 : vOk ((a_kinds S) ((f_size S).toInt - 2).toNat) ((a_codes S) ((f_size S).toInt - 2).toNat) ((a_reals S) ((f_size S).toInt - 2).toNat) := i_vals (((f_size S).toInt - 2).toNat) (by omega)
            refine lv_l2i (v := (x5).toInt32) hx hb d_Mo_bits_156 rfl ?_
            refine lv_topi (fun x6 ex6 => ?_)
            have wx6 := zt_rng x6
            refine lv_istore (lv' := [(5, .int x6), (3, .long x1), (0, .ref h0), (1, .int p0), (2, .int p1)]) hx hb d_Mo_bits_157 hl (by decide) rfl (fun ls hl => ?_)
            refine lv_iload_n hx hb d_Mo_bits_159 rfl (lv_at hl 3 rfl) ?_
            refine lv_bipush (v := 29) hx hb d_Mo_bits_160 (by decide) ?_
            refine lv_icmp_ne (tgt := 187) hx hb d_Mo_bits_162 (by decide) (fun c162_1 => ?_) (fun c162_1 => ?_)
            · first | have fc162_1 : p0.toInt < 29 := (by have := zt_ne (show p0.toInt = _ from rfl) tI_29 c162_1; omega) | have fc162_1 : 29 < p0.toInt := (by have := zt_ne (show p0.toInt = _ from rfl) tI_29 c162_1; omega) | skip
              refine lv_iload_n hx hb d_Mo_bits_187 rfl (lv_at hl 3 rfl) ?_
              refine lv_bipush (v := 30) hx hb d_Mo_bits_188 (by decide) ?_
              refine lv_icmp_ne (tgt := 215) hx hb d_Mo_bits_190 (by decide) (fun c190_1 => ?_) (fun c190_1 => ?_)
              · first | have fc190_1 : p0.toInt < 30 := (by have := zt_ne (show p0.toInt = _ from rfl) tI_30 c190_1; omega) | have fc190_1 : 30 < p0.toInt := (by have := zt_ne (show p0.toInt = _ from rfl) tI_30 c190_1; omega) | skip
                refine j_joinH (α := Int32) (fun x H locs ls => (x.toInt = 1 ∨ (x.toInt = 0 ∧ -31 ≤ x1.toInt ∧ x1.toInt ≤ 31)) ∧ va_P D classes (mW T h0 ar S) H ∧ va_D A (mW T h0 ar S) ∧ va_S A s.heap H locs ∧ lv_has ls 7 [(5, .int x6), (3, .long x1), (0, .ref h0), (1, .int p0), (2, .int p1)]) (fun x ls => F0 m 236 ls (.int x :: [])) (fun x H locs ls hI9 => ?_) (fun key3 => ?_)
                · obtain ⟨j3, rfl⟩ : ∃ z, z = x := ⟨_, rfl⟩
                  obtain ⟨hj3, hP, hD, hS, hl⟩ := hI9
                  have hj3 : j3.toInt = 1 ∨ (j3.toInt = 0 ∧ -31 ≤ x1.toInt ∧ x1.toInt ≤ 31) := hj3
                  have hP : va_P D classes (mW T h0 ar S) H := hP
                  have hD : va_D A (mW T h0 ar S) := hD
                  have hl : lv_has ls 7 [(5, .int x6), (3, .long x1), (0, .ref h0), (1, .int p0), (2, .int p1)] := hl
                  refine lv_istore (lv' := [(6, .int j3), (5, .int x6), (3, .long x1), (0, .ref h0), (1, .int p0), (2, .int p1)]) hx hb d_Mo_bits_236 hl (by decide) rfl (fun ls hl => ?_)
                  refine lv_aload_n hx hb d_Mo_bits_238 rfl (lv_at hl 3 rfl) ?_
                  refine lv_iconst (v := 2) hx hb d_Mo_bits_239 (by decide) ?_
                  refine lv_iconst (v := 0) hx hb d_Mo_bits_240 (by decide) ?_
                  refine j_joinH (α := Int64) (fun x H locs ls => (-2147483648 ≤ x.toInt ∧ x.toInt ≤ 2147483647) ∧ va_P D classes (mW T h0 ar S) H ∧ va_D A (mW T h0 ar S) ∧ va_S A s.heap H locs ∧ lv_has ls 7 [(6, .int j3), (5, .int x6), (3, .long x1), (0, .ref h0), (1, .int p0), (2, .int p1)]) (fun x ls => F0 m 272 ls (.long x :: [.int 0, .int 2, .ref h0])) (fun x H locs ls hI9 => ?_) (fun key4 => ?_)
                  · obtain ⟨j4, rfl⟩ : ∃ z, z = x := ⟨_, rfl⟩
                    obtain ⟨hj4, hP, hD, hS, hl⟩ := hI9
                    have hj4 : -2147483648 ≤ j4.toInt ∧ j4.toInt ≤ 2147483647 := hj4
                    have hP : va_P D classes (mW T h0 ar S) H := hP
                    have hD : va_D A (mW T h0 ar S) := hD
                    have hl : lv_has ls 7 [(6, .int j3), (5, .int x6), (3, .long x1), (0, .ref h0), (1, .int p0), (2, .int p1)] := hl
                    refine jm_ci (w := (fun u => u)) hK hP hD hS hA (va_runV (As := [.int 2, .int 0, .long j4]) (rest := []) F (m_give l D T h0 ar S (2 : Int32) (0 : Int32) j4 H.size ⟨i_size, i_taken, i_vals, i_room, i_dicts, i_deep, i_open, i_cells, i_points, i_part, i_length, i_knows, i_page, i_text, i_pats, i_fuel, i_fr, i_ink⟩ (show 0 ≤ (2 : Int32).toInt ∧ (2 : Int32).toInt ≤ (f_size S).toInt ∧ (f_size S).toInt - (2 : Int32).toInt ≤ 39 by have := tI_2; have := tI_0; omega) (vO_int (by omega))) (j_cV (k := 3) (C := "PageScribeModel") hts k_7_221 k_1_12 k_7_218 k_7_220 k_0_113 (by decide +kernel) ⟨Nat.le_of_ble_eq_true rfl, Nat.le_of_ble_eq_true rfl⟩) (jm_pre hK hP hD) rfl rfl hl.1 rfl (lv_room (Nat.le_of_ble_eq_true rfl)) d_Mo_bits_272 ⟨Nat.le_of_ble_eq_true rfl, Nat.le_of_ble_eq_true rfl⟩) (fun rv2 S1 H locs hw2 hP hD hS => ?_)
                    have hP : va_P D classes (mW T h0 ar S1) H := hP
                    have hD : va_D A (mW T h0 ar S1) := hD
                    obtain ⟨⟨i_size, i_taken, i_vals, i_room, i_dicts, i_deep, i_open, i_cells, i_points, i_part, i_length, i_knows, i_page, i_text, i_pats, i_fuel, i_fr, i_ink⟩, kpA_S1, kpF_S1, qqhw2⟩ := hw2
                    have kSA_S1 : kA S S1 := kA_t (show kA S S from (kA_r S)) kpA_S1
                    have kSF_S1 : kF S S1 := kF_t (show kF S S from (kF_r S)) kpF_S1
                    have kST_S1 : kT S S1 := kT_t (show kT S S from (kT_r S)) (kT_A kpA_S1)
                    have qhw2 : rv2.toInt = 0 ∧ (f_taken S1).toInt = (f_taken S).toInt := by simpa only [tI_0, tI_2] using qqhw2
                    exact j_iret F hr hlocks hK hS S1 ⟨⟨i_size, i_taken, i_vals, i_room, i_dicts, i_deep, i_open, i_cells, i_points, i_part, i_length, i_knows, i_page, i_text, i_pats, i_fuel, i_fr, i_ink⟩, kSA_S1, kSF_S1, (show rv2.toInt = 0 by omega)⟩ hP hD d_Mo_bits_275
                  · refine lv_iload hx hb d_Mo_bits_241 (lv_at hl 0 rfl) ?_
                    refine lv_if_eq (tgt := 250) hx hb d_Mo_bits_243 (by decide) (fun c243_1 => ?_) (fun c243_1 => ?_)
                    · have fc243_1 : j3.toInt = 0 := zt_eq (show j3.toInt = _ from rfl) tI_0 c243_1
                      refine lv_lload_n hx hb d_Mo_bits_250 rfl (lv_at hl 2 rfl) ?_
                      refine lv_lconst (v := 0) hx hb d_Mo_bits_251 (by decide) ?_
                      refine W.lcmp hx hb d_Mo_bits_252 ?_
                      refine lv_topi (fun x7 ex7 => ?_)
                      refine lv_if_ge (tgt := 266) hx hb d_Mo_bits_253 (by decide) (fun c253_1 => ?_) (fun c253_1 => ?_)
                      · have fc253_1 : 0 ≤ x7.toInt := zt_le tI_0 (show x7.toInt = _ from rfl) c253_1
                        have vc253_1 : x1.toInt ≥ 0 := by have := zr_cmp ex7 (show x1.toInt = _ from rfl) tJ_0; have := zt_le tI_0 (show x7.toInt = _ from rfl) c253_1; omega
                        refine lv_iload hx hb d_Mo_bits_266 (lv_at hl 1 rfl) ?_
                        refine lv_lload_n hx hb d_Mo_bits_268 rfl (lv_at hl 2 rfl) ?_
                        refine lv_l2i (v := (x1).toInt32) hx hb d_Mo_bits_269 rfl ?_
                        refine lv_topi (fun x8 ex8 => ?_)
                        have wx8 := zt_rng x8
                        refine lv_ishl hx hb d_Mo_bits_270 ?_
                        refine lv_topi (fun x9 ex9 => ?_)
                        have wx9 := zt_rng x9
                        refine lv_i2l (v := (x9).toInt64) hx hb d_Mo_bits_271 rfl ?_
                        refine lv_topl (fun x10 ex10 => ?_)
                        have fx10 : x10.toInt = x9.toInt := by rw [ex10]; exact zu_i2l (show x9.toInt = _ from rfl)
                        exact key4 (x10) _ _ _ ⟨(show -2147483648 ≤ x10.toInt ∧ x10.toInt ≤ 2147483647 by omega), hP, hD, hS, lv_sub hl [0, 1, 2, 3, 4, 5] rfl⟩
                      · have fc253_1 : x7.toInt < 0 := Int.not_le.mp (zt_nle tI_0 (show x7.toInt = _ from rfl) c253_1)
                        have vc253_1 : x1.toInt < 0 := by have := zr_cmp ex7 (show x1.toInt = _ from rfl) tJ_0; have := Int.not_le.mp (zt_nle tI_0 (show x7.toInt = _ from rfl) c253_1); omega
                        refine lv_iload hx hb d_Mo_bits_256 (lv_at hl 1 rfl) ?_
                        refine lv_lload_n hx hb d_Mo_bits_258 rfl (lv_at hl 2 rfl) ?_
                        refine lv_lneg hx hb d_Mo_bits_259 ?_
                        refine lv_topl (fun x11 ex11 => ?_)
                        have fx11 : x11.toInt = (-x1.toInt) := by rw [ex11]; exact (zu_neg (show x1.toInt = _ from rfl) (by omega) (by omega)).trans (by omega)
                        refine lv_l2i (v := (x11).toInt32) hx hb d_Mo_bits_260 rfl ?_
                        refine lv_topi (fun x12 ex12 => ?_)
                        have wx12 := zt_rng x12
                        refine lv_iushr (v := ((x6 : Int32).toUInt32 >>> ((x12 : Int32).toUInt32 &&& Int32.toUInt32 31)).toInt32) hx hb d_Mo_bits_261 rfl ?_
                        refine lv_topi (fun x13 ex13 => ?_)
                        have wx13 := zt_rng x13
                        refine lv_i2l (v := (x13).toInt64) hx hb d_Mo_bits_262 rfl ?_
                        refine lv_topl (fun x14 ex14 => ?_)
                        have fx14 : x14.toInt = x13.toInt := by rw [ex14]; exact zu_i2l (show x13.toInt = _ from rfl)
                        refine lv_goto (tgt := 272) hx hb d_Mo_bits_263 (by decide) ?_
                        exact key4 (x14) _ _ _ ⟨(show -2147483648 ≤ x14.toInt ∧ x14.toInt ≤ 2147483647 by omega), hP, hD, hS, lv_sub hl [0, 1, 2, 3, 4, 5] rfl⟩
                    · first | have fc243_1 : j3.toInt < 0 := (by have := zt_ne (show j3.toInt = _ from rfl) tI_0 c243_1; omega) | have fc243_1 : 0 < j3.toInt := (by have := zt_ne (show j3.toInt = _ from rfl) tI_0 c243_1; omega) | skip
                      refine lv_lconst (v := 0) hx hb d_Mo_bits_246 (by decide) ?_
                      refine lv_goto (tgt := 272) hx hb d_Mo_bits_247 (by decide) ?_
                      exact key4 (0 : Int64) _ _ _ ⟨(show -2147483648 ≤ (0 : Int64).toInt ∧ (0 : Int64).toInt ≤ 2147483647 by have := tJ_0; omega), hP, hD, hS, lv_sub hl [0, 1, 2, 3, 4, 5] rfl⟩
                · refine lv_lload_n hx hb d_Mo_bits_215 rfl (lv_at hl 1 rfl) ?_
                  refine lv_ldc2 (v := (31)) hx hb hown (hts _ k_7_239) d_Mo_bits_216 ?_
                  refine W.lcmp hx hb d_Mo_bits_219 ?_
                  refine lv_topi (fun x15 ex15 => ?_)
                  refine lv_if_gt (tgt := 231) hx hb d_Mo_bits_220 (by decide) (fun c220_1 => ?_) (fun c220_1 => ?_)
                  · have fc220_1 : 0 < x15.toInt := zt_lt tI_0 (show x15.toInt = _ from rfl) c220_1
                    have vc220_1 : x1.toInt > 31 := by have := zr_cmp ex15 (show x1.toInt = _ from rfl) tJ_31; have := zt_lt tI_0 (show x15.toInt = _ from rfl) c220_1; omega
                    refine lv_iconst (v := 1) hx hb d_Mo_bits_231 (by decide) ?_
                    refine lv_goto (tgt := 236) hx hb d_Mo_bits_232 (by decide) ?_
                    exact key3 (1 : Int32) _ _ _ ⟨(show (1 : Int32).toInt = 1 ∨ ((1 : Int32).toInt = 0 ∧ -31 ≤ x1.toInt ∧ x1.toInt ≤ 31) by have := tI_1; omega), hP, hD, hS, lv_sub hl [0, 1, 2, 3, 4] rfl⟩
                  · have fc220_1 : x15.toInt ≤ 0 := Int.not_lt.mp (zt_nlt tI_0 (show x15.toInt = _ from rfl) c220_1)
                    have vc220_1 : x1.toInt ≤ 31 := by have := zr_cmp ex15 (show x1.toInt = _ from rfl) tJ_31; have := Int.not_lt.mp (zt_nlt tI_0 (show x15.toInt = _ from rfl) c220_1); omega
                    refine lv_lload_n hx hb d_Mo_bits_223 rfl (lv_at hl 1 rfl) ?_
                    refine lv_ldc2 (v := (-31)) hx hb hown (hts _ k_8_0) d_Mo_bits_224 ?_
                    refine W.lcmp hx hb d_Mo_bits_227 ?_
                    refine lv_topi (fun x16 ex16 => ?_)
                    refine lv_if_ge (tgt := 235) hx hb d_Mo_bits_228 (by decide) (fun c228_1 => ?_) (fun c228_1 => ?_)
                    · have fc228_1 : 0 ≤ x16.toInt := zt_le tI_0 (show x16.toInt = _ from rfl) c228_1
                      have vc228_1 : x1.toInt ≥ (-31) := by have := zr_cmp ex16 (show x1.toInt = _ from rfl) tJ_m31; have := zt_le tI_0 (show x16.toInt = _ from rfl) c228_1; omega
                      refine lv_iconst (v := 0) hx hb d_Mo_bits_235 (by decide) ?_
                      exact key3 (0 : Int32) _ _ _ ⟨(show (0 : Int32).toInt = 1 ∨ ((0 : Int32).toInt = 0 ∧ -31 ≤ x1.toInt ∧ x1.toInt ≤ 31) by have := tI_0; omega), hP, hD, hS, lv_sub hl [0, 1, 2, 3, 4] rfl⟩
                    · have fc228_1 : x16.toInt < 0 := Int.not_le.mp (zt_nle tI_0 (show x16.toInt = _ from rfl) c228_1)
                      have vc228_1 : x1.toInt < (-31) := by have := zr_cmp ex16 (show x1.toInt = _ from rfl) tJ_m31; have := Int.not_le.mp (zt_nle tI_0 (show x16.toInt = _ from rfl) c228_1); omega
                      refine lv_iconst (v := 1) hx hb d_Mo_bits_231 (by decide) ?_
                      refine lv_goto (tgt := 236) hx hb d_Mo_bits_232 (by decide) ?_
                      exact key3 (1 : Int32) _ _ _ ⟨(show (1 : Int32).toInt = 1 ∨ ((1 : Int32).toInt = 0 ∧ -31 ≤ x1.toInt ∧ x1.toInt ≤ 31) by have := tI_1; omega), hP, hD, hS, lv_sub hl [0, 1, 2, 3, 4] rfl⟩
              · have fc190_1 : p0.toInt = 30 := zt_eq (show p0.toInt = _ from rfl) tI_30 c190_1
                refine lv_aload_n hx hb d_Mo_bits_193 rfl (lv_at hl 2 rfl) ?_
                refine lv_iconst (v := 2) hx hb d_Mo_bits_194 (by decide) ?_
                refine lv_aload_n hx hb d_Mo_bits_195 rfl (lv_at hl 2 rfl) ?_
                refine va_get (D := D) (ci := 11) (v := .ref (ar 0)) (C := "PageScribeModel") (T := F_Mo) (N := 45) hx hb hts i_Mo hown hK hP 0 mW_0 cl_11 1 (by decide) (hts _ k_6_161) (fun _ h9 => h9) (mg_kinds _ _) d_Mo_bits_196 ?_
                refine lv_iload_n hx hb d_Mo_bits_199 rfl (lv_at hl 4 rfl) ?_
                refine va_iald hx hb hK hP 1 0 (ma_kinds _ _ _ _) rfl (zt_in h3.1 (by omega) (by omega)) d_Mo_bits_200 ?_
                refine lv_topi (fun x17 ex17 => ?_)
                have gx17 : x17 = (a_kinds S) ((f_size S).toInt - 1).toNat := ex17.trans (congrArg _ (zt_ix h3.1))
                have fx17 : x17.toInt = ((a_kinds S) ((f_size S).toInt - 1).toNat).toInt := by rw [gx17]
                have kx17 : vOk ((a_kinds S) ((f_size S).toInt - 1).toNat) ((a_codes S) ((f_size S).toInt - 1).toNat) ((a_reals S) ((f_size S).toInt - 1).toNat) := i_vals (((f_size S).toInt - 1).toNat) (by omega)
                have rx17 := vk_rng kx17
                refine lv_aload_n hx hb d_Mo_bits_201 rfl (lv_at hl 2 rfl) ?_
                refine va_get (D := D) (ci := 11) (v := .ref (ar 1)) (C := "PageScribeModel") (T := F_Mo) (N := 45) hx hb hts i_Mo hown hK hP 0 mW_0 cl_11 2 (by decide) (hts _ k_6_162) (fun _ h9 => h9) (mg_codes _ _) d_Mo_bits_202 ?_
                refine lv_iload_n hx hb d_Mo_bits_205 rfl (lv_at hl 4 rfl) ?_
                refine lv_iconst (v := 1) hx hb d_Mo_bits_206 (by decide) ?_
                refine lv_isub hx hb d_Mo_bits_207 ?_
                refine j_eqi (y := x4) ex4.symm ?_
                refine va_lald hx hb hK hP 2 1 (ma_codes _ _ _ _) rfl (zt_in fx4 (by omega) (by omega)) d_Mo_bits_208 ?_
                refine lv_topl (fun x18 ex18 => ?_)
                have gx18 : x18 = (a_codes S) ((f_size S).toInt - 2).toNat := ex18.trans (congrArg _ (zt_ix fx4))
                have fx18 : x18.toInt = ((a_codes S) ((f_size S).toInt - 2).toNat).toInt := by rw [gx18]
                have kx18 : vOk ((a_kinds S) ((f_size S).toInt - 2).toNat) ((a_codes S) ((f_size S).toInt - 2).toNat) ((a_reals S) ((f_size S).toInt - 2).toNat) := i_vals (((f_size S).toInt - 2).toNat) (by omega)
                refine lv_lload_n hx hb d_Mo_bits_209 rfl (lv_at hl 1 rfl) ?_
                refine lv_lor hx hb d_Mo_bits_210 ?_
                refine lv_topl (fun x19 ex19 => ?_)
                refine jm_ci (w := (fun u => u)) hK hP hD hS hA (va_runV (As := [.int 2, .int x17, .long x19]) (rest := []) F (m_give l D T h0 ar S (2 : Int32) x17 x19 s.heap.size ⟨i_size, i_taken, i_vals, i_room, i_dicts, i_deep, i_open, i_cells, i_points, i_part, i_length, i_knows, i_page, i_text, i_pats, i_fuel, i_fr, i_ink⟩ (show 0 ≤ (2 : Int32).toInt ∧ (2 : Int32).toInt ≤ (f_size S).toInt ∧ (f_size S).toInt - (2 : Int32).toInt ≤ 39 by have := tI_2; omega) (by rw [gx17, ex19, gx18, gx1]; exact (vk_and h2 (by omega) kt kx18).2)) (j_cV (k := 3) (C := "PageScribeModel") hts k_7_221 k_1_12 k_7_218 k_7_220 k_0_113 (by decide +kernel) ⟨Nat.le_of_ble_eq_true rfl, Nat.le_of_ble_eq_true rfl⟩) (jm_pre hK hP hD) rfl rfl hl.1 rfl (lv_room (Nat.le_of_ble_eq_true rfl)) d_Mo_bits_211 ⟨Nat.le_of_ble_eq_true rfl, Nat.le_of_ble_eq_true rfl⟩) (fun rv3 S2 H locs hw3 hP hD hS => ?_)
                have hP : va_P D classes (mW T h0 ar S2) H := hP
                have hD : va_D A (mW T h0 ar S2) := hD
                obtain ⟨⟨i_size, i_taken, i_vals, i_room, i_dicts, i_deep, i_open, i_cells, i_points, i_part, i_length, i_knows, i_page, i_text, i_pats, i_fuel, i_fr, i_ink⟩, kpA_S2, kpF_S2, qqhw3⟩ := hw3
                have kSA_S2 : kA S S2 := kA_t (show kA S S from (kA_r S)) kpA_S2
                have kSF_S2 : kF S S2 := kF_t (show kF S S from (kF_r S)) kpF_S2
                have kST_S2 : kT S S2 := kT_t (show kT S S from (kT_r S)) (kT_A kpA_S2)
                have qhw3 : rv3.toInt = 0 ∧ (f_taken S2).toInt = (f_taken S).toInt := by simpa only [tI_2] using qqhw3
                exact j_iret F hr hlocks hK hS S2 ⟨⟨i_size, i_taken, i_vals, i_room, i_dicts, i_deep, i_open, i_cells, i_points, i_part, i_length, i_knows, i_page, i_text, i_pats, i_fuel, i_fr, i_ink⟩, kSA_S2, kSF_S2, (show rv3.toInt = 0 by omega)⟩ hP hD d_Mo_bits_214
            · have fc162_1 : p0.toInt = 29 := zt_eq (show p0.toInt = _ from rfl) tI_29 c162_1
              refine lv_aload_n hx hb d_Mo_bits_165 rfl (lv_at hl 2 rfl) ?_
              refine lv_iconst (v := 2) hx hb d_Mo_bits_166 (by decide) ?_
              refine lv_aload_n hx hb d_Mo_bits_167 rfl (lv_at hl 2 rfl) ?_
              refine va_get (D := D) (ci := 11) (v := .ref (ar 0)) (C := "PageScribeModel") (T := F_Mo) (N := 45) hx hb hts i_Mo hown hK hP 0 mW_0 cl_11 1 (by decide) (hts _ k_6_161) (fun _ h9 => h9) (mg_kinds _ _) d_Mo_bits_168 ?_
              refine lv_iload_n hx hb d_Mo_bits_171 rfl (lv_at hl 4 rfl) ?_
              refine va_iald hx hb hK hP 1 0 (ma_kinds _ _ _ _) rfl (zt_in h3.1 (by omega) (by omega)) d_Mo_bits_172 ?_
              refine lv_topi (fun x20 ex20 => ?_)
              have gx20 : x20 = (a_kinds S) ((f_size S).toInt - 1).toNat := ex20.trans (congrArg _ (zt_ix h3.1))
              have fx20 : x20.toInt = ((a_kinds S) ((f_size S).toInt - 1).toNat).toInt := by rw [gx20]
              have kx20 : vOk ((a_kinds S) ((f_size S).toInt - 1).toNat) ((a_codes S) ((f_size S).toInt - 1).toNat) ((a_reals S) ((f_size S).toInt - 1).toNat) := i_vals (((f_size S).toInt - 1).toNat) (by omega)
              have rx20 := vk_rng kx20
              refine lv_aload_n hx hb d_Mo_bits_173 rfl (lv_at hl 2 rfl) ?_
              refine va_get (D := D) (ci := 11) (v := .ref (ar 1)) (C := "PageScribeModel") (T := F_Mo) (N := 45) hx hb hts i_Mo hown hK hP 0 mW_0 cl_11 2 (by decide) (hts _ k_6_162) (fun _ h9 => h9) (mg_codes _ _) d_Mo_bits_174 ?_
              refine lv_iload_n hx hb d_Mo_bits_177 rfl (lv_at hl 4 rfl) ?_
              refine lv_iconst (v := 1) hx hb d_Mo_bits_178 (by decide) ?_
              refine lv_isub hx hb d_Mo_bits_179 ?_
              refine j_eqi (y := x4) ex4.symm ?_
              refine va_lald hx hb hK hP 2 1 (ma_codes _ _ _ _) rfl (zt_in fx4 (by omega) (by omega)) d_Mo_bits_180 ?_
              refine lv_topl (fun x21 ex21 => ?_)
              have gx21 : x21 = (a_codes S) ((f_size S).toInt - 2).toNat := ex21.trans (congrArg _ (zt_ix fx4))
              have fx21 : x21.toInt = ((a_codes S) ((f_size S).toInt - 2).toNat).toInt := by rw [gx21]
              have kx21 : vOk ((a_kinds S) ((f_size S).toInt - 2).toNat) ((a_codes S) ((f_size S).toInt - 2).toNat) ((a_reals S) ((f_size S).toInt - 2).toNat) := i_vals (((f_size S).toInt - 2).toNat) (by omega)
              refine lv_lload_n hx hb d_Mo_bits_181 rfl (lv_at hl 1 rfl) ?_
              refine lv_land hx hb d_Mo_bits_182 ?_
              refine lv_topl (fun x22 ex22 => ?_)
              refine jm_ci (w := (fun u => u)) hK hP hD hS hA (va_runV (As := [.int 2, .int x20, .long x22]) (rest := []) F (m_give l D T h0 ar S (2 : Int32) x20 x22 s.heap.size ⟨i_size, i_taken, i_vals, i_room, i_dicts, i_deep, i_open, i_cells, i_points, i_part, i_length, i_knows, i_page, i_text, i_pats, i_fuel, i_fr, i_ink⟩ (show 0 ≤ (2 : Int32).toInt ∧ (2 : Int32).toInt ≤ (f_size S).toInt ∧ (f_size S).toInt - (2 : Int32).toInt ≤ 39 by have := tI_2; omega) (by rw [gx20, ex22, gx21, gx1]; exact (vk_and h2 (by omega) kt kx21).1)) (j_cV (k := 3) (C := "PageScribeModel") hts k_7_221 k_1_12 k_7_218 k_7_220 k_0_113 (by decide +kernel) ⟨Nat.le_of_ble_eq_true rfl, Nat.le_of_ble_eq_true rfl⟩) (jm_pre hK hP hD) rfl rfl hl.1 rfl (lv_room (Nat.le_of_ble_eq_true rfl)) d_Mo_bits_183 ⟨Nat.le_of_ble_eq_true rfl, Nat.le_of_ble_eq_true rfl⟩) (fun rv4 S3 H locs hw4 hP hD hS => ?_)
              have hP : va_P D classes (mW T h0 ar S3) H := hP
              have hD : va_D A (mW T h0 ar S3) := hD
              obtain ⟨⟨i_size, i_taken, i_vals, i_room, i_dicts, i_deep, i_open, i_cells, i_points, i_part, i_length, i_knows, i_page, i_text, i_pats, i_fuel, i_fr, i_ink⟩, kpA_S3, kpF_S3, qqhw4⟩ := hw4
              have kSA_S3 : kA S S3 := kA_t (show kA S S from (kA_r S)) kpA_S3
              have kSF_S3 : kF S S3 := kF_t (show kF S S from (kF_r S)) kpF_S3
              have kST_S3 : kT S S3 := kT_t (show kT S S from (kT_r S)) (kT_A kpA_S3)
              have qhw4 : rv4.toInt = 0 ∧ (f_taken S3).toInt = (f_taken S).toInt := by simpa only [tI_2] using qqhw4
              exact j_iret F hr hlocks hK hS S3 ⟨⟨i_size, i_taken, i_vals, i_room, i_dicts, i_deep, i_open, i_cells, i_points, i_part, i_length, i_knows, i_page, i_text, i_pats, i_fuel, i_fr, i_ink⟩, kSA_S3, kSF_S3, (show rv4.toInt = 0 by omega)⟩ hP hD d_Mo_bits_186
          · have fc102_1 : p0.toInt = 34 := zt_eq (show p0.toInt = _ from rfl) tI_34 c102_1
            refine lv_aload_n hx hb d_Mo_bits_105 rfl (lv_at hl 1 rfl) ?_
            refine lv_iload_n hx hb d_Mo_bits_106 rfl (lv_at hl 3 rfl) ?_
            have kv2 : vOk ((a_kinds S) (((f_size S).toInt - 1).toNat)) ((a_codes S) (((f_size S).toInt - 1).toNat)) ((a_reals S) (((f_size S).toInt - 1).toNat)) := i_vals (((f_size S).toInt - 1).toNat) (by omega)
            have rkv2 := vk_rng kv2
            refine jm_ci (w := (fun _ => S)) hK hP hD hS hA (va_runV (As := [.int p1]) (rest := []) F (m_kindOf l D T h0 ar S p1 s.heap.size (show 0 ≤ p1.toInt ∧ p1.toInt < 1300 by first | omega | (simp only [h3.1]; omega)) (show 0 ≤ ((a_kinds S) p1.toInt.toNat).toInt by first | omega | (simp only [h3.1]; omega))) (j_cV (k := 1) (C := "PageScribeModel") hts k_7_174 k_1_12 k_7_171 k_7_173 k_0_102 (by decide +kernel) ⟨Nat.le_of_ble_eq_true rfl, Nat.le_of_ble_eq_true rfl⟩) (jm_pre hK hP hD) rfl rfl hl.1 rfl (lv_room (Nat.le_of_ble_eq_true rfl)) d_Mo_bits_107 ⟨Nat.le_of_ble_eq_true rfl, Nat.le_of_ble_eq_true rfl⟩) (fun rv5 u2 H locs hw5 hP hD hS => ?_)
            have hP : va_P D classes (mW T h0 ar S) H := hP
            have hD : va_D A (mW T h0 ar S) := hD
            have qhw5 : rv5.toInt = ((a_kinds S) ((f_size S).toInt - 1).toNat).toInt % 8 := by simpa only [h3.1] using hw5
            refine lv_istore (lv' := [(5, .int rv5), (3, .long x1), (0, .ref h0), (1, .int p0), (2, .int p1)]) hx hb d_Mo_bits_110 hl (by decide) rfl (fun ls hl => ?_)
            refine lv_iload hx hb d_Mo_bits_112 (lv_at hl 0 rfl) ?_
            refine lv_iconst (v := 3) hx hb d_Mo_bits_114 (by decide) ?_
            refine lv_icmp_eq (tgt := 124) hx hb d_Mo_bits_115 (by decide) (fun c115_2 => ?_) (fun c115_2 => ?_)
            · have fc115_2 : rv5.toInt = 3 := zt_eq (show rv5.toInt = _ from rfl) tI_3 c115_2
              refine lv_aload_n hx hb d_Mo_bits_124 rfl (lv_at hl 2 rfl) ?_
              refine va_get (D := D) (ci := 11) (v := .ref (ar 0)) (C := "PageScribeModel") (T := F_Mo) (N := 45) hx hb hts i_Mo hown hK hP 0 mW_0 cl_11 1 (by decide) (hts _ k_6_161) (fun _ h9 => h9) (mg_kinds _ _) d_Mo_bits_125 ?_
              refine lv_iload_n hx hb d_Mo_bits_128 rfl (lv_at hl 4 rfl) ?_
              refine j_joinH (α := Int32) (fun x H locs ls => (x.toInt = rv5.toInt ∨ x.toInt = rv5.toInt + 8) ∧ va_P D classes (mW T h0 ar S) H ∧ va_D A (mW T h0 ar S) ∧ va_S A s.heap H locs ∧ lv_has ls 7 [(5, .int rv5), (3, .long x1), (0, .ref h0), (1, .int p0), (2, .int p1)]) (fun x ls => F0 m 145 ls (.int x :: [.int p1, .ref (ar 0)])) (fun x H locs ls hI9 => ?_) (fun key5 => ?_)
              · obtain ⟨j5, rfl⟩ : ∃ z, z = x := ⟨_, rfl⟩
                obtain ⟨hj5, hP, hD, hS, hl⟩ := hI9
                have hj5 : j5.toInt = rv5.toInt ∨ j5.toInt = rv5.toInt + 8 := hj5
                have hP : va_P D classes (mW T h0 ar S) H := hP
                have hD : va_D A (mW T h0 ar S) := hD
                have hl : lv_has ls 7 [(5, .int rv5), (3, .long x1), (0, .ref h0), (1, .int p0), (2, .int p1)] := hl
                refine va_iast hx hb hK hP hD hS 1 0 (ma_kinds _ _ _ _) rfl (zt_in h3.1 (by omega) (by omega)) d_Mo_bits_145 (fun H locs hP hD hS => ?_)
                rw [ms_kinds] at hP hD
                rw [zt_ix h3.1] at hP hD
                have hP : va_P D classes (mW T h0 ar ((((f_thrown S), (upd (a_kinds S) (((f_size S).toInt - 1).toNat) j5), (a_codes S), (a_reals S), (f_size S), (f_taken S), (a_words S), (a_many S)), S.2.1, S.2.2.1, S.2.2.2.1, S.2.2.2.2.1, S.2.2.2.2.2) : MS)) H := hP
                have hD : va_D A (mW T h0 ar ((((f_thrown S), (upd (a_kinds S) (((f_size S).toInt - 1).toNat) j5), (a_codes S), (a_reals S), (f_size S), (f_taken S), (a_words S), (a_many S)), S.2.1, S.2.2.1, S.2.2.2.1, S.2.2.2.2.1, S.2.2.2.2.2) : MS)) := hD
                refine lv_iconst (v := 0) hx hb d_Mo_bits_146 (by decide) ?_
                exact j_iret F hr hlocks hK hS ((((f_thrown S), (upd (a_kinds S) (((f_size S).toInt - 1).toNat) j5), (a_codes S), (a_reals S), (f_size S), (f_taken S), (a_words S), (a_many S)), S.2.1, S.2.2.1, S.2.2.2.1, S.2.2.2.2.1, S.2.2.2.2.2) : MS) ⟨⟨i_size, i_taken, (vOk_updK i_vals ⟨by omega, by omega, fun _ => vk_ar8 kt (by omega), by omega, vk_real kt⟩), i_room, i_dicts, i_deep, i_open, i_cells, i_points, i_part, i_length, i_knows, i_page, i_text, i_pats, i_fuel, i_fr, i_ink⟩, (kA_r S), (kF_r S), (show (0 : Int32).toInt = 0 by have := tI_0; omega)⟩ hP hD d_Mo_bits_147
              · refine lv_iload_n hx hb d_Mo_bits_129 rfl (lv_at hl 3 rfl) ?_
                refine lv_bipush (v := 33) hx hb d_Mo_bits_130 (by decide) ?_
                refine lv_icmp_ne (tgt := 143) hx hb d_Mo_bits_132 (by decide) (fun c132_3 => ?_) (fun c132_3 => ?_)
                · first | have fc132_3 : p0.toInt < 33 := (by have := zt_ne (show p0.toInt = _ from rfl) tI_33 c132_3; omega) | have fc132_3 : 33 < p0.toInt := (by have := zt_ne (show p0.toInt = _ from rfl) tI_33 c132_3; omega) | skip
                  refine lv_iload hx hb d_Mo_bits_143 (lv_at hl 0 rfl) ?_
                  exact key5 (rv5) _ _ _ ⟨(show rv5.toInt = rv5.toInt ∨ rv5.toInt = rv5.toInt + 8 by omega), hP, hD, hS, lv_sub hl [0, 1, 2, 3, 4] rfl⟩
                · have fc132_3 : p0.toInt = 33 := zt_eq (show p0.toInt = _ from rfl) tI_33 c132_3
                  refine lv_iload hx hb d_Mo_bits_135 (lv_at hl 0 rfl) ?_
                  refine lv_bipush (v := 8) hx hb d_Mo_bits_137 (by decide) ?_
                  refine lv_iadd hx hb d_Mo_bits_139 ?_
                  refine lv_topi (fun x23 ex23 => ?_)
                  have fx23 : x23.toInt = (rv5.toInt + 8) := by rw [ex23]; exact (zt_add (show rv5.toInt = _ from rfl) tI_8 (by omega) (by omega)).trans (by omega)
                  refine lv_goto (tgt := 145) hx hb d_Mo_bits_140 (by decide) ?_
                  exact key5 (x23) _ _ _ ⟨(show x23.toInt = rv5.toInt ∨ x23.toInt = rv5.toInt + 8 by omega), hP, hD, hS, lv_sub hl [0, 1, 2, 3, 4] rfl⟩
            · first | have fc115_2 : rv5.toInt < 3 := (by have := zt_ne (show rv5.toInt = _ from rfl) tI_3 c115_2; omega) | have fc115_2 : 3 < rv5.toInt := (by have := zt_ne (show rv5.toInt = _ from rfl) tI_3 c115_2; omega) | skip
              refine lv_iload hx hb d_Mo_bits_118 (lv_at hl 0 rfl) ?_
              refine lv_iconst (v := 5) hx hb d_Mo_bits_120 (by decide) ?_
              refine lv_icmp_ne (tgt := 146) hx hb d_Mo_bits_121 (by decide) (fun c121_2 => ?_) (fun c121_2 => ?_)
              · first | have fc121_2 : rv5.toInt < 5 := (by have := zt_ne (show rv5.toInt = _ from rfl) tI_5 c121_2; omega) | have fc121_2 : 5 < rv5.toInt := (by have := zt_ne (show rv5.toInt = _ from rfl) tI_5 c121_2; omega) | skip
                refine lv_iconst (v := 0) hx hb d_Mo_bits_146 (by decide) ?_
                exact j_iret F hr hlocks hK hS S ⟨⟨i_size, i_taken, i_vals, i_room, i_dicts, i_deep, i_open, i_cells, i_points, i_part, i_length, i_knows, i_page, i_text, i_pats, i_fuel, i_fr, i_ink⟩, (kA_r S), (kF_r S), (show (0 : Int32).toInt = 0 by have := tI_0; omega)⟩ hP hD d_Mo_bits_147
              · have fc121_2 : rv5.toInt = 5 := zt_eq (show rv5.toInt = _ from rfl) tI_5 c121_2
                refine lv_aload_n hx hb d_Mo_bits_124 rfl (lv_at hl 2 rfl) ?_
                refine va_get (D := D) (ci := 11) (v := .ref (ar 0)) (C := "PageScribeModel") (T := F_Mo) (N := 45) hx hb hts i_Mo hown hK hP 0 mW_0 cl_11 1 (by decide) (hts _ k_6_161) (fun _ h9 => h9) (mg_kinds _ _) d_Mo_bits_125 ?_
                refine lv_iload_n hx hb d_Mo_bits_128 rfl (lv_at hl 4 rfl) ?_
                refine j_joinH (α := Int32) (fun x H locs ls => (x.toInt = rv5.toInt ∨ x.toInt = rv5.toInt + 8) ∧ va_P D classes (mW T h0 ar S) H ∧ va_D A (mW T h0 ar S) ∧ va_S A s.heap H locs ∧ lv_has ls 7 [(5, .int rv5), (3, .long x1), (0, .ref h0), (1, .int p0), (2, .int p1)]) (fun x ls => F0 m 145 ls (.int x :: [.int p1, .ref (ar 0)])) (fun x H locs ls hI9 => ?_) (fun key6 => ?_)
                · obtain ⟨j6, rfl⟩ : ∃ z, z = x := ⟨_, rfl⟩
                  obtain ⟨hj6, hP, hD, hS, hl⟩ := hI9
                  have hj6 : j6.toInt = rv5.toInt ∨ j6.toInt = rv5.toInt + 8 := hj6
                  have hP : va_P D classes (mW T h0 ar S) H := hP
                  have hD : va_D A (mW T h0 ar S) := hD
                  have hl : lv_has ls 7 [(5, .int rv5), (3, .long x1), (0, .ref h0), (1, .int p0), (2, .int p1)] := hl
                  refine va_iast hx hb hK hP hD hS 1 0 (ma_kinds _ _ _ _) rfl (zt_in h3.1 (by omega) (by omega)) d_Mo_bits_145 (fun H locs hP hD hS => ?_)
                  rw [ms_kinds] at hP hD
                  rw [zt_ix h3.1] at hP hD
                  have hP : va_P D classes (mW T h0 ar ((((f_thrown S), (upd (a_kinds S) (((f_size S).toInt - 1).toNat) j6), (a_codes S), (a_reals S), (f_size S), (f_taken S), (a_words S), (a_many S)), S.2.1, S.2.2.1, S.2.2.2.1, S.2.2.2.2.1, S.2.2.2.2.2) : MS)) H := hP
                  have hD : va_D A (mW T h0 ar ((((f_thrown S), (upd (a_kinds S) (((f_size S).toInt - 1).toNat) j6), (a_codes S), (a_reals S), (f_size S), (f_taken S), (a_words S), (a_many S)), S.2.1, S.2.2.1, S.2.2.2.1, S.2.2.2.2.1, S.2.2.2.2.2) : MS)) := hD
                  refine lv_iconst (v := 0) hx hb d_Mo_bits_146 (by decide) ?_
                  exact j_iret F hr hlocks hK hS ((((f_thrown S), (upd (a_kinds S) (((f_size S).toInt - 1).toNat) j6), (a_codes S), (a_reals S), (f_size S), (f_taken S), (a_words S), (a_many S)), S.2.1, S.2.2.1, S.2.2.2.1, S.2.2.2.2.1, S.2.2.2.2.2) : MS) ⟨⟨i_size, i_taken, (vOk_updK i_vals ⟨by omega, by omega, fun _ => vk_ar8 kt (by omega), by omega, vk_real kt⟩), i_room, i_dicts, i_deep, i_open, i_cells, i_points, i_part, i_length, i_knows, i_page, i_text, i_pats, i_fuel, i_fr, i_ink⟩, (kA_r S), (kF_r S), (show (0 : Int32).toInt = 0 by have := tI_0; omega)⟩ hP hD d_Mo_bits_147
                · refine lv_iload_n hx hb d_Mo_bits_129 rfl (lv_at hl 3 rfl) ?_
                  refine lv_bipush (v := 33) hx hb d_Mo_bits_130 (by decide) ?_
                  refine lv_icmp_ne (tgt := 143) hx hb d_Mo_bits_132 (by decide) (fun c132_4 => ?_) (fun c132_4 => ?_)
                  · first | have fc132_4 : p0.toInt < 33 := (by have := zt_ne (show p0.toInt = _ from rfl) tI_33 c132_4; omega) | have fc132_4 : 33 < p0.toInt := (by have := zt_ne (show p0.toInt = _ from rfl) tI_33 c132_4; omega) | skip
                    refine lv_iload hx hb d_Mo_bits_143 (lv_at hl 0 rfl) ?_
                    exact key6 (rv5) _ _ _ ⟨(show rv5.toInt = rv5.toInt ∨ rv5.toInt = rv5.toInt + 8 by omega), hP, hD, hS, lv_sub hl [0, 1, 2, 3, 4] rfl⟩
                  · have fc132_4 : p0.toInt = 33 := zt_eq (show p0.toInt = _ from rfl) tI_33 c132_4
                    refine lv_iload hx hb d_Mo_bits_135 (lv_at hl 0 rfl) ?_
                    refine lv_bipush (v := 8) hx hb d_Mo_bits_137 (by decide) ?_
                    refine lv_iadd hx hb d_Mo_bits_139 ?_
                    refine lv_topi (fun x24 ex24 => ?_)
                    have fx24 : x24.toInt = (rv5.toInt + 8) := by rw [ex24]; exact (zt_add (show rv5.toInt = _ from rfl) tI_8 (by omega) (by omega)).trans (by omega)
                    refine lv_goto (tgt := 145) hx hb d_Mo_bits_140 (by decide) ?_
                    exact key6 (x24) _ _ _ ⟨(show x24.toInt = rv5.toInt ∨ x24.toInt = rv5.toInt + 8 by omega), hP, hD, hS, lv_sub hl [0, 1, 2, 3, 4] rfl⟩
      · have fc77_1 : p0.toInt = 36 := zt_eq (show p0.toInt = _ from rfl) tI_36 c77_1
        refine lv_aload_n hx hb d_Mo_bits_80 rfl (lv_at hl 1 rfl) ?_
        refine lv_iconst (v := 1) hx hb d_Mo_bits_81 (by decide) ?_
        refine lv_iconst (v := 0) hx hb d_Mo_bits_82 (by decide) ?_
        refine lv_aload_n hx hb d_Mo_bits_83 rfl (lv_at hl 1 rfl) ?_
        refine lv_iload_n hx hb d_Mo_bits_84 rfl (lv_at hl 3 rfl) ?_
        have kv3 : vOk ((a_kinds S) (((f_size S).toInt - 1).toNat)) ((a_codes S) (((f_size S).toInt - 1).toNat)) ((a_reals S) (((f_size S).toInt - 1).toNat)) := i_vals (((f_size S).toInt - 1).toNat) (by omega)
        have rkv3 := vk_rng kv3
        refine jm_ci (w := (fun _ => S)) hK hP hD hS hA (va_runV (As := [.int p1]) (rest := [.int 0, .int 1, .ref h0]) F (m_kindOf l D T h0 ar S p1 s.heap.size (show 0 ≤ p1.toInt ∧ p1.toInt < 1300 by first | omega | (simp only [h3.1]; omega)) (show 0 ≤ ((a_kinds S) p1.toInt.toNat).toInt by first | omega | (simp only [h3.1]; omega))) (j_cV (k := 1) (C := "PageScribeModel") hts k_7_174 k_1_12 k_7_171 k_7_173 k_0_102 (by decide +kernel) ⟨Nat.le_of_ble_eq_true rfl, Nat.le_of_ble_eq_true rfl⟩) (jm_pre hK hP hD) rfl rfl hl.1 rfl (lv_room (Nat.le_of_ble_eq_true rfl)) d_Mo_bits_85 ⟨Nat.le_of_ble_eq_true rfl, Nat.le_of_ble_eq_true rfl⟩) (fun rv6 u3 H locs hw6 hP hD hS => ?_)
        have hP : va_P D classes (mW T h0 ar S) H := hP
        have hD : va_D A (mW T h0 ar S) := hD
        have qhw6 : rv6.toInt = ((a_kinds S) ((f_size S).toInt - 1).toNat).toInt % 8 := by simpa only [h3.1] using hw6
        refine lv_i2l (v := (rv6).toInt64) hx hb d_Mo_bits_88 rfl ?_
        refine lv_topl (fun x25 ex25 => ?_)
        have fx25 : x25.toInt = rv6.toInt := by rw [ex25]; exact zu_i2l (show rv6.toInt = _ from rfl)
        refine jm_ci (w := (fun u => u)) hK hP hD hS hA (va_runV (As := [.int 1, .int 0, .long x25]) (rest := []) F (m_give l D T h0 ar S (1 : Int32) (0 : Int32) x25 H.size ⟨i_size, i_taken, i_vals, i_room, i_dicts, i_deep, i_open, i_cells, i_points, i_part, i_length, i_knows, i_page, i_text, i_pats, i_fuel, i_fr, i_ink⟩ (show 0 ≤ (1 : Int32).toInt ∧ (1 : Int32).toInt ≤ (f_size S).toInt ∧ (f_size S).toInt - (1 : Int32).toInt ≤ 39 by have := tI_1; have := tI_0; first | omega | (simp only [fx25]; omega)) (vO_int (by omega))) (j_cV (k := 3) (C := "PageScribeModel") hts k_7_221 k_1_12 k_7_218 k_7_220 k_0_113 (by decide +kernel) ⟨Nat.le_of_ble_eq_true rfl, Nat.le_of_ble_eq_true rfl⟩) (jm_pre hK hP hD) rfl rfl hl.1 rfl (lv_room (Nat.le_of_ble_eq_true rfl)) d_Mo_bits_89 ⟨Nat.le_of_ble_eq_true rfl, Nat.le_of_ble_eq_true rfl⟩) (fun rv7 S4 H locs hw7 hP hD hS => ?_)
        have hP : va_P D classes (mW T h0 ar S4) H := hP
        have hD : va_D A (mW T h0 ar S4) := hD
        obtain ⟨⟨i_size, i_taken, i_vals, i_room, i_dicts, i_deep, i_open, i_cells, i_points, i_part, i_length, i_knows, i_page, i_text, i_pats, i_fuel, i_fr, i_ink⟩, kpA_S4, kpF_S4, qqhw7⟩ := hw7
        have kSA_S4 : kA S S4 := kA_t (show kA S S from (kA_r S)) kpA_S4
        have kSF_S4 : kF S S4 := kF_t (show kF S S from (kF_r S)) kpF_S4
        have kST_S4 : kT S S4 := kT_t (show kT S S from (kT_r S)) (kT_A kpA_S4)
        have qhw7 : rv7.toInt = 0 ∧ (f_taken S4).toInt = (f_taken S).toInt := by simpa only [fx25, tI_0, tI_1] using qqhw7
        exact j_iret F hr hlocks hK hS S4 ⟨⟨i_size, i_taken, i_vals, i_room, i_dicts, i_deep, i_open, i_cells, i_points, i_part, i_length, i_knows, i_page, i_text, i_pats, i_fuel, i_fr, i_ink⟩, kSA_S4, kSF_S4, (show rv7.toInt = 0 by omega)⟩ hP hD d_Mo_bits_92
    · have fc48_1 : p0.toInt = 35 := zt_eq (show p0.toInt = _ from rfl) tI_35 c48_1
      refine lv_aload_n hx hb d_Mo_bits_51 rfl (lv_at hl 1 rfl) ?_
      refine lv_iconst (v := 1) hx hb d_Mo_bits_52 (by decide) ?_
      refine lv_iconst (v := 2) hx hb d_Mo_bits_53 (by decide) ?_
      refine j_joinH (α := Int64) (fun x H locs ls => (True) ∧ va_P D classes (mW T h0 ar S) H ∧ va_D A (mW T h0 ar S) ∧ va_S A s.heap H locs ∧ lv_has ls 7 [(3, .long x1), (0, .ref h0), (1, .int p0), (2, .int p1)]) (fun x ls => F0 m 70 ls (.long x :: [.int 2, .int 1, .ref h0])) (fun x H locs ls hI9 => ?_) (fun key7 => ?_)
      · obtain ⟨j7, rfl⟩ : ∃ z, z = x := ⟨_, rfl⟩
        obtain ⟨hj7, hP, hD, hS, hl⟩ := hI9
        have hP : va_P D classes (mW T h0 ar S) H := hP
        have hD : va_D A (mW T h0 ar S) := hD
        have hl : lv_has ls 7 [(3, .long x1), (0, .ref h0), (1, .int p0), (2, .int p1)] := hl
        refine jm_ci (w := (fun u => u)) hK hP hD hS hA (va_runV (As := [.int 1, .int 2, .long j7]) (rest := []) F (m_give l D T h0 ar S (1 : Int32) (2 : Int32) j7 H.size ⟨i_size, i_taken, i_vals, i_room, i_dicts, i_deep, i_open, i_cells, i_points, i_part, i_length, i_knows, i_page, i_text, i_pats, i_fuel, i_fr, i_ink⟩ (show 0 ≤ (1 : Int32).toInt ∧ (1 : Int32).toInt ≤ (f_size S).toInt ∧ (f_size S).toInt - (1 : Int32).toInt ≤ 39 by have := tI_1; have := tI_2; omega) (vO_of 2 tI_2 (by decide))) (j_cV (k := 3) (C := "PageScribeModel") hts k_7_221 k_1_12 k_7_218 k_7_220 k_0_113 (by decide +kernel) ⟨Nat.le_of_ble_eq_true rfl, Nat.le_of_ble_eq_true rfl⟩) (jm_pre hK hP hD) rfl rfl hl.1 rfl (lv_room (Nat.le_of_ble_eq_true rfl)) d_Mo_bits_70 ⟨Nat.le_of_ble_eq_true rfl, Nat.le_of_ble_eq_true rfl⟩) (fun rv8 S5 H locs hw8 hP hD hS => ?_)
        have hP : va_P D classes (mW T h0 ar S5) H := hP
        have hD : va_D A (mW T h0 ar S5) := hD
        obtain ⟨⟨i_size, i_taken, i_vals, i_room, i_dicts, i_deep, i_open, i_cells, i_points, i_part, i_length, i_knows, i_page, i_text, i_pats, i_fuel, i_fr, i_ink⟩, kpA_S5, kpF_S5, qqhw8⟩ := hw8
        have kSA_S5 : kA S S5 := kA_t (show kA S S from (kA_r S)) kpA_S5
        have kSF_S5 : kF S S5 := kF_t (show kF S S from (kF_r S)) kpF_S5
        have kST_S5 : kT S S5 := kT_t (show kT S S from (kT_r S)) (kT_A kpA_S5)
        have qhw8 : rv8.toInt = 0 ∧ (f_taken S5).toInt = (f_taken S).toInt := by simpa only [tI_1, tI_2] using qqhw8
        exact j_iret F hr hlocks hK hS S5 ⟨⟨i_size, i_taken, i_vals, i_room, i_dicts, i_deep, i_open, i_cells, i_points, i_part, i_length, i_knows, i_page, i_text, i_pats, i_fuel, i_fr, i_ink⟩, kSA_S5, kSF_S5, (show rv8.toInt = 0 by omega)⟩ hP hD d_Mo_bits_73
      · refine lv_aload_n hx hb d_Mo_bits_54 rfl (lv_at hl 1 rfl) ?_
        refine va_get (D := D) (ci := 11) (v := .ref (ar 0)) (C := "PageScribeModel") (T := F_Mo) (N := 45) hx hb hts i_Mo hown hK hP 0 mW_0 cl_11 1 (by decide) (hts _ k_6_161) (fun _ h9 => h9) (mg_kinds _ _) d_Mo_bits_55 ?_
        refine lv_iload_n hx hb d_Mo_bits_58 rfl (lv_at hl 3 rfl) ?_
        refine va_iald hx hb hK hP 1 0 (ma_kinds _ _ _ _) rfl (zt_in h3.1 (by omega) (by omega)) d_Mo_bits_59 ?_
        refine lv_topi (fun x26 ex26 => ?_)
        have gx26 : x26 = (a_kinds S) ((f_size S).toInt - 1).toNat := ex26.trans (congrArg _ (zt_ix h3.1))
        have fx26 : x26.toInt = ((a_kinds S) ((f_size S).toInt - 1).toNat).toInt := by rw [gx26]
        have kx26 : vOk ((a_kinds S) ((f_size S).toInt - 1).toNat) ((a_codes S) ((f_size S).toInt - 1).toNat) ((a_reals S) ((f_size S).toInt - 1).toNat) := i_vals (((f_size S).toInt - 1).toNat) (by omega)
        have rx26 := vk_rng kx26
        refine lv_bipush (v := 7) hx hb d_Mo_bits_60 (by decide) ?_
        refine lv_icmp_le (tgt := 69) hx hb d_Mo_bits_62 (by decide) (fun c62_1 => ?_) (fun c62_1 => ?_)
        · have fc62_1 : x26.toInt ≤ 7 := zt_le (show x26.toInt = _ from rfl) tI_7 c62_1
          refine lv_lconst (v := 0) hx hb d_Mo_bits_69 (by decide) ?_
          exact key7 (0 : Int64) _ _ _ ⟨trivial, hP, hD, hS, lv_sub hl [0, 1, 2, 3] rfl⟩
        · have fc62_1 : 7 < x26.toInt := Int.not_le.mp (zt_nle (show x26.toInt = _ from rfl) tI_7 c62_1)
          refine lv_lconst (v := 1) hx hb d_Mo_bits_65 (by decide) ?_
          refine lv_goto (tgt := 70) hx hb d_Mo_bits_66 (by decide) ?_
          exact key7 (1 : Int64) _ _ _ ⟨trivial, hP, hD, hS, lv_sub hl [0, 1, 2, 3] rfl⟩
  · have fc10_1 : p0.toInt = 31 := zt_eq (show p0.toInt = _ from rfl) tI_31 c10_1
    refine lv_aload_n hx hb d_Mo_bits_13 rfl (lv_at hl 1 rfl) ?_
    refine lv_iconst (v := 1) hx hb d_Mo_bits_14 (by decide) ?_
    refine lv_aload_n hx hb d_Mo_bits_15 rfl (lv_at hl 1 rfl) ?_
    refine va_get (D := D) (ci := 11) (v := .ref (ar 0)) (C := "PageScribeModel") (T := F_Mo) (N := 45) hx hb hts i_Mo hown hK hP 0 mW_0 cl_11 1 (by decide) (hts _ k_6_161) (fun _ h9 => h9) (mg_kinds _ _) d_Mo_bits_16 ?_
    refine lv_iload_n hx hb d_Mo_bits_19 rfl (lv_at hl 3 rfl) ?_
    refine va_iald hx hb hK hP 1 0 (ma_kinds _ _ _ _) rfl (zt_in h3.1 (by omega) (by omega)) d_Mo_bits_20 ?_
    refine lv_topi (fun x27 ex27 => ?_)
    have gx27 : x27 = (a_kinds S) ((f_size S).toInt - 1).toNat := ex27.trans (congrArg _ (zt_ix h3.1))
    have fx27 : x27.toInt = ((a_kinds S) ((f_size S).toInt - 1).toNat).toInt := by rw [gx27]
    have kx27 : vOk ((a_kinds S) ((f_size S).toInt - 1).toNat) ((a_codes S) ((f_size S).toInt - 1).toNat) ((a_reals S) ((f_size S).toInt - 1).toNat) := i_vals (((f_size S).toInt - 1).toNat) (by omega)
    have rx27 := vk_rng kx27
    refine j_joinH (α := Int64) (fun x H locs ls => (((a_kinds S) ((f_size S).toInt - 1).toNat).toInt = 0 → -2147483648 ≤ x.toInt ∧ x.toInt ≤ 2147483647) ∧ va_P D classes (mW T h0 ar S) H ∧ va_D A (mW T h0 ar S) ∧ va_S A s.heap H locs ∧ lv_has ls 7 [(3, .long x1), (0, .ref h0), (1, .int p0), (2, .int p1)]) (fun x ls => F0 m 41 ls (.long x :: [.int x27, .int 1, .ref h0])) (fun x H locs ls hI9 => ?_) (fun key8 => ?_)
    · obtain ⟨j8, rfl⟩ : ∃ z, z = x := ⟨_, rfl⟩
      obtain ⟨hj8, hP, hD, hS, hl⟩ := hI9
      have hj8 : ((a_kinds S) ((f_size S).toInt - 1).toNat).toInt = 0 → -2147483648 ≤ j8.toInt ∧ j8.toInt ≤ 2147483647 := hj8
      have hP : va_P D classes (mW T h0 ar S) H := hP
      have hD : va_D A (mW T h0 ar S) := hD
      have hl : lv_has ls 7 [(3, .long x1), (0, .ref h0), (1, .int p0), (2, .int p1)] := hl
      refine jm_ci (w := (fun u => u)) hK hP hD hS hA (va_runV (As := [.int 1, .int x27, .long j8]) (rest := []) F (m_give l D T h0 ar S (1 : Int32) x27 j8 H.size ⟨i_size, i_taken, i_vals, i_room, i_dicts, i_deep, i_open, i_cells, i_points, i_part, i_length, i_knows, i_page, i_text, i_pats, i_fuel, i_fr, i_ink⟩ (show 0 ≤ (1 : Int32).toInt ∧ (1 : Int32).toInt ≤ (f_size S).toInt ∧ (f_size S).toInt - (1 : Int32).toInt ≤ 39 by have := tI_1; omega) (by rw [gx27]; exact vk_not h2 (by omega) kt (by first | assumption | exact hj8))) (j_cV (k := 3) (C := "PageScribeModel") hts k_7_221 k_1_12 k_7_218 k_7_220 k_0_113 (by decide +kernel) ⟨Nat.le_of_ble_eq_true rfl, Nat.le_of_ble_eq_true rfl⟩) (jm_pre hK hP hD) rfl rfl hl.1 rfl (lv_room (Nat.le_of_ble_eq_true rfl)) d_Mo_bits_41 ⟨Nat.le_of_ble_eq_true rfl, Nat.le_of_ble_eq_true rfl⟩) (fun rv9 S6 H locs hw9 hP hD hS => ?_)
      have hP : va_P D classes (mW T h0 ar S6) H := hP
      have hD : va_D A (mW T h0 ar S6) := hD
      obtain ⟨⟨i_size, i_taken, i_vals, i_room, i_dicts, i_deep, i_open, i_cells, i_points, i_part, i_length, i_knows, i_page, i_text, i_pats, i_fuel, i_fr, i_ink⟩, kpA_S6, kpF_S6, qqhw9⟩ := hw9
      have kSA_S6 : kA S S6 := kA_t (show kA S S from (kA_r S)) kpA_S6
      have kSF_S6 : kF S S6 := kF_t (show kF S S from (kF_r S)) kpF_S6
      have kST_S6 : kT S S6 := kT_t (show kT S S from (kT_r S)) (kT_A kpA_S6)
      have qhw9 : rv9.toInt = 0 ∧ (f_taken S6).toInt = (f_taken S).toInt := by simpa only [tI_1] using qqhw9
      exact j_iret F hr hlocks hK hS S6 ⟨⟨i_size, i_taken, i_vals, i_room, i_dicts, i_deep, i_open, i_cells, i_points, i_part, i_length, i_knows, i_page, i_text, i_pats, i_fuel, i_fr, i_ink⟩, kSA_S6, kSF_S6, (show rv9.toInt = 0 by omega)⟩ hP hD d_Mo_bits_44
    · refine lv_aload_n hx hb d_Mo_bits_21 rfl (lv_at hl 1 rfl) ?_
      refine va_get (D := D) (ci := 11) (v := .ref (ar 0)) (C := "PageScribeModel") (T := F_Mo) (N := 45) hx hb hts i_Mo hown hK hP 0 mW_0 cl_11 1 (by decide) (hts _ k_6_161) (fun _ h9 => h9) (mg_kinds _ _) d_Mo_bits_22 ?_
      refine lv_iload_n hx hb d_Mo_bits_25 rfl (lv_at hl 3 rfl) ?_
      refine va_iald hx hb hK hP 1 0 (ma_kinds _ _ _ _) rfl (zt_in h3.1 (by omega) (by omega)) d_Mo_bits_26 ?_
      refine j_eqi (y := x27) ex27.symm ?_
      refine lv_if_ne (tgt := 38) hx hb d_Mo_bits_27 (by decide) (fun c27_1 => ?_) (fun c27_1 => ?_)
      · first | have fc27_1 : x27.toInt < 0 := (by have := zt_ne (show x27.toInt = _ from rfl) tI_0 c27_1; omega) | have fc27_1 : 0 < x27.toInt := (by have := zt_ne (show x27.toInt = _ from rfl) tI_0 c27_1; omega) | skip
        refine lv_lconst (v := 1) hx hb d_Mo_bits_38 (by decide) ?_
        refine lv_lload_n hx hb d_Mo_bits_39 rfl (lv_at hl 0 rfl) ?_
        refine lv_lsub hx hb d_Mo_bits_40 ?_
        refine lv_topl (fun x28 ex28 => ?_)
        exact key8 (x28) _ _ _ ⟨(show ((a_kinds S) ((f_size S).toInt - 1).toNat).toInt = 0 → -2147483648 ≤ x28.toInt ∧ x28.toInt ≤ 2147483647 by omega), hP, hD, hS, lv_sub hl [0, 1, 2, 3] rfl⟩
      · have fc27_1 : x27.toInt = 0 := zt_eq (show x27.toInt = _ from rfl) tI_0 c27_1
        have ij := vk_int kt (by omega)
        refine lv_ldc2 (v := (-1)) hx hb hown (hts _ k_7_238) d_Mo_bits_30 ?_
        refine lv_lload_n hx hb d_Mo_bits_33 rfl (lv_at hl 0 rfl) ?_
        refine lv_lsub hx hb d_Mo_bits_34 ?_
        refine lv_topl (fun x29 ex29 => ?_)
        have fx29 : x29.toInt = (-x1.toInt - 1) := by rw [ex29]; exact (zu_sub tJ_m1 (show x1.toInt = _ from rfl) (by omega) (by omega)).trans (by omega)
        refine lv_goto (tgt := 41) hx hb d_Mo_bits_35 (by decide) ?_
        exact key8 (x29) _ _ _ ⟨(show ((a_kinds S) ((f_size S).toInt - 1).toNat).toInt = 0 → -2147483648 ≤ x29.toInt ∧ x29.toInt ≤ 2147483647 by omega), hP, hD, hS, lv_sub hl [0, 1, 2, 3] rfl⟩
