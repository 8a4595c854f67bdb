theorem d_Lw_law_48 : decode code 48 = .ok (.iload 5, 2) := by decide +kernel
theorem d_Lw_law_50 : decode code 50 = .ok (.aload_n 0, 1) := by decide +kernel
theorem d_Lw_law_51 : decode code 51 = .ok (.arraylength, 1) := by decide +kernel
theorem d_Lw_law_52 : decode code 52 = .ok (.iconst 3, 1) := by decide +kernel
theorem d_Lw_law_53 : decode code 53 = .ok (.isub, 1) := by decide +kernel
theorem d_Lw_law_54 : decode code 54 = .ok (.if_icmp .gt 440, 3) := by decide +kernel
theorem d_Lw_law_494 : decode code 494 = .ok (.iconst 1, 1) := by decide +kernel
theorem d_Lw_law_495 : decode code 495 = .ok (.ireturn, 1) := by decide +kernel
theorem d_Lw_law_57 : decode code 57 = .ok (.aload_n 0, 1) := by decide +kernel
theorem d_Lw_law_58 : decode code 58 = .ok (.iload 5, 2) := by decide +kernel
theorem d_Lw_law_60 : decode code 60 = .ok (.iaload, 1) := by decide +kernel
theorem d_Lw_law_61 : decode code 61 = .ok (.bipush 15, 2) := by decide +kernel
theorem d_Lw_law_63 : decode code 63 = .ok (.iand, 1) := by decide +kernel
theorem d_Lw_law_64 : decode code 64 = .ok (.tableswitch 424 0 12 #[68, 125, 153, 166, 179, 214, 227, 255, 283, 312, 349, 374, 411], 68) := by decide +kernel
theorem d_Lw_law_132 : decode code 132 = .ok (.aload_n 1, 1) := by decide +kernel
theorem d_Lw_law_133 : decode code 133 = .ok (.aload_n 0, 1) := by decide +kernel
theorem d_Lw_law_134 : decode code 134 = .ok (.iload 5, 2) := by decide +kernel
theorem d_Lw_law_136 : decode code 136 = .ok (.iconst 1, 1) := by decide +kernel
theorem d_Lw_law_137 : decode code 137 = .ok (.iadd, 1) := by decide +kernel
theorem d_Lw_law_138 : decode code 138 = .ok (.iaload, 1) := by decide +kernel
theorem d_Lw_law_139 : decode code 139 = .ok (.i2l, 1) := by decide +kernel
theorem d_Lw_law_140 : decode code 140 = .ok (.bipush 32, 2) := by decide +kernel
theorem d_Lw_law_142 : decode code 142 = .ok (.lshl, 1) := by decide +kernel
theorem d_Lw_law_143 : decode code 143 = .ok (.aload_n 0, 1) := by decide +kernel
theorem d_Lw_law_144 : decode code 144 = .ok (.iload 5, 2) := by decide +kernel
theorem d_Lw_law_146 : decode code 146 = .ok (.iconst 2, 1) := by decide +kernel
theorem d_Lw_law_147 : decode code 147 = .ok (.iadd, 1) := by decide +kernel
theorem d_Lw_law_148 : decode code 148 = .ok (.iaload, 1) := by decide +kernel
theorem d_Lw_law_149 : decode code 149 = .ok (.i2l, 1) := by decide +kernel
theorem d_Lw_law_150 : decode code 150 = .ok (.ldc2_w 41, 3) := by decide +kernel
theorem k_8_169 : Cond.constantLong "PageScribeLaw" 41 (4294967295 : Int64) ∈ gw := gw_of (tb_8 (List.mem_of_getElem? (i := 169) (by decide +kernel))) (by decide +kernel)
theorem d_Lw_law_153 : decode code 153 = .ok (.land, 1) := by decide +kernel
theorem d_Lw_law_154 : decode code 154 = .ok (.lor, 1) := by decide +kernel
theorem d_Lw_law_155 : decode code 155 = .ok (.invokevirtual 43, 3) := by decide +kernel
theorem k_2_77 : Cond.methodLink "PageScribeLaw" 43 ⟨"PageScribe", "write", "(J)Z"⟩ ∈ gw := gw_of (tb_2 (List.mem_of_getElem? (i := 77) (by decide +kernel))) (by decide +kernel)
theorem k_2_80 : Cond.code ⟨"PageScribe", "write", "(J)Z"⟩ prog_1_method_2_code 3 (some .boolean) ∈ gw := gw_of (tb_2 (List.mem_of_getElem? (i := 80) (by decide +kernel))) (by decide +kernel)
theorem k_2_78 : Cond.instanceMethod ⟨"PageScribe", "write", "(J)Z"⟩ ∈ gw := gw_of (tb_2 (List.mem_of_getElem? (i := 78) (by decide +kernel))) (by decide +kernel)
theorem k_2_79 : Cond.selects "PageScribe" ⟨"PageScribe", "write", "(J)Z"⟩ ⟨"PageScribe", "write", "(J)Z"⟩ ∈ gw := gw_of (tb_2 (List.mem_of_getElem? (i := 79) (by decide +kernel))) (by decide +kernel)
theorem d_Lw_law_158 : decode code 158 = .ok (.aload_n 2, 1) := by decide +kernel
theorem d_Lw_law_159 : decode code 159 = .ok (.aload_n 0, 1) := by decide +kernel
theorem d_Lw_law_160 : decode code 160 = .ok (.iload 5, 2) := by decide +kernel
theorem d_Lw_law_162 : decode code 162 = .ok (.iconst 1, 1) := by decide +kernel
theorem d_Lw_law_163 : decode code 163 = .ok (.iadd, 1) := by decide +kernel
theorem d_Lw_law_164 : decode code 164 = .ok (.iaload, 1) := by decide +kernel
theorem d_Lw_law_165 : decode code 165 = .ok (.i2l, 1) := by decide +kernel
theorem d_Lw_law_166 : decode code 166 = .ok (.bipush 32, 2) := by decide +kernel
theorem d_Lw_law_168 : decode code 168 = .ok (.lshl, 1) := by decide +kernel
theorem d_Lw_law_169 : decode code 169 = .ok (.aload_n 0, 1) := by decide +kernel
theorem d_Lw_law_170 : decode code 170 = .ok (.iload 5, 2) := by decide +kernel
theorem d_Lw_law_172 : decode code 172 = .ok (.iconst 2, 1) := by decide +kernel
theorem d_Lw_law_173 : decode code 173 = .ok (.iadd, 1) := by decide +kernel
theorem d_Lw_law_174 : decode code 174 = .ok (.iaload, 1) := by decide +kernel
theorem d_Lw_law_175 : decode code 175 = .ok (.i2l, 1) := by decide +kernel
theorem d_Lw_law_176 : decode code 176 = .ok (.ldc2_w 41, 3) := by decide +kernel
theorem d_Lw_law_179 : decode code 179 = .ok (.land, 1) := by decide +kernel
theorem d_Lw_law_180 : decode code 180 = .ok (.lor, 1) := by decide +kernel
theorem d_Lw_law_181 : decode code 181 = .ok (.invokevirtual 47, 3) := by decide +kernel
theorem k_8_117 : Cond.methodLink "PageScribeLaw" 47 ⟨"PageScribeModel", "write", "(J)Z"⟩ ∈ gw := gw_of (tb_8 (List.mem_of_getElem? (i := 117) (by decide +kernel))) (by decide +kernel)
theorem k_8_120 : Cond.code ⟨"PageScribeModel", "write", "(J)Z"⟩ prog_15_method_74_code 6 (some .boolean) ∈ gw := gw_of (tb_8 (List.mem_of_getElem? (i := 120) (by decide +kernel))) (by decide +kernel)
theorem k_8_118 : Cond.instanceMethod ⟨"PageScribeModel", "write", "(J)Z"⟩ ∈ gw := gw_of (tb_8 (List.mem_of_getElem? (i := 118) (by decide +kernel))) (by decide +kernel)
theorem k_8_119 : Cond.selects "PageScribeModel" ⟨"PageScribeModel", "write", "(J)Z"⟩ ⟨"PageScribeModel", "write", "(J)Z"⟩ ∈ gw := gw_of (tb_8 (List.mem_of_getElem? (i := 119) (by decide +kernel))) (by decide +kernel)
theorem d_Lw_law_184 : decode code 184 = .ok (.if_icmp .eq 304, 3) := by decide +kernel
theorem d_Lw_law_488 : decode code 488 = .ok (.iinc 5 3, 3) := by decide +kernel
theorem d_Lw_law_491 : decode code 491 = .ok (.goto (-443), 3) := by decide +kernel
theorem d_Lw_law_189 : decode code 189 = .ok (.aload_n 1, 1) := by decide +kernel
theorem d_Lw_law_190 : decode code 190 = .ok (.aload_n 0, 1) := by decide +kernel
theorem d_Lw_law_191 : decode code 191 = .ok (.iload 5, 2) := by decide +kernel
theorem d_Lw_law_193 : decode code 193 = .ok (.iconst 1, 1) := by decide +kernel
theorem d_Lw_law_194 : decode code 194 = .ok (.iadd, 1) := by decide +kernel
theorem d_Lw_law_195 : decode code 195 = .ok (.iaload, 1) := by decide +kernel
theorem d_Lw_law_196 : decode code 196 = .ok (.aload_n 3, 1) := by decide +kernel
theorem d_Lw_law_197 : decode code 197 = .ok (.invokestatic 48, 3) := by decide +kernel
theorem k_1_0 : Cond.initialized "PageScribeLaw" ∈ gw := gw_of (tb_1 (List.mem_of_getElem? (i := 0) (by decide +kernel))) (by decide +kernel)
theorem k_2_222 : Cond.methodLink "PageScribeLaw" 48 ⟨"PageScribeLaw", "run", "(LPageScribe;I[J)I"⟩ ∈ gw := gw_of (tb_2 (List.mem_of_getElem? (i := 222) (by decide +kernel))) (by decide +kernel)
theorem k_2_224 : Cond.codeWith ⟨"PageScribeLaw", "run", "(LPageScribe;I[J)I"⟩ method_3_code 4 (some .int) [(0, 9, 12, 13)] ∈ gw := gw_of (tb_2 (List.mem_of_getElem? (i := 224) (by decide +kernel))) (by decide +kernel)
theorem k_2_223 : Cond.static ⟨"PageScribeLaw", "run", "(LPageScribe;I[J)I"⟩ ∈ gw := gw_of (tb_2 (List.mem_of_getElem? (i := 223) (by decide +kernel))) (by decide +kernel)
theorem d_Lw_law_200 : decode code 200 = .ok (.istore 6, 2) := by decide +kernel
theorem d_Lw_law_202 : decode code 202 = .ok (.aload_n 2, 1) := by decide +kernel
theorem d_Lw_law_203 : decode code 203 = .ok (.aload_n 0, 1) := by decide +kernel
theorem d_Lw_law_204 : decode code 204 = .ok (.iload 5, 2) := by decide +kernel
theorem d_Lw_law_206 : decode code 206 = .ok (.iconst 1, 1) := by decide +kernel
theorem d_Lw_law_207 : decode code 207 = .ok (.iadd, 1) := by decide +kernel
theorem d_Lw_law_208 : decode code 208 = .ok (.iaload, 1) := by decide +kernel
theorem d_Lw_law_209 : decode code 209 = .ok (.invokevirtual 51, 3) := by decide +kernel
theorem k_7_57 : Cond.methodLink "PageScribeLaw" 51 ⟨"PageScribeModel", "run", "(I)I"⟩ ∈ gw := gw_of (tb_7 (List.mem_of_getElem? (i := 57) (by decide +kernel))) (by decide +kernel)
theorem k_7_60 : Cond.code ⟨"PageScribeModel", "run", "(I)I"⟩ prog_15_method_38_code 4 (some .int) ∈ gw := gw_of (tb_7 (List.mem_of_getElem? (i := 60) (by decide +kernel))) (by decide +kernel)
theorem k_7_58 : Cond.instanceMethod ⟨"PageScribeModel", "run", "(I)I"⟩ ∈ gw := gw_of (tb_7 (List.mem_of_getElem? (i := 58) (by decide +kernel))) (by decide +kernel)
theorem k_7_59 : Cond.selects "PageScribeModel" ⟨"PageScribeModel", "run", "(I)I"⟩ ⟨"PageScribeModel", "run", "(I)I"⟩ ∈ gw := gw_of (tb_7 (List.mem_of_getElem? (i := 59) (by decide +kernel))) (by decide +kernel)
theorem d_Lw_law_212 : decode code 212 = .ok (.istore 7, 2) := by decide +kernel
theorem d_Lw_law_214 : decode code 214 = .ok (.goto 274, 3) := by decide +kernel
theorem d_Lw_law_217 : decode code 217 = .ok (.aload_n 1, 1) := by decide +kernel
theorem d_Lw_law_218 : decode code 218 = .ok (.invokevirtual 52, 3) := by decide +kernel
theorem k_2_85 : Cond.methodLink "PageScribeLaw" 52 ⟨"PageScribe", "steps", "()I"⟩ ∈ gw := gw_of (tb_2 (List.mem_of_getElem? (i := 85) (by decide +kernel))) (by decide +kernel)
theorem k_2_88 : Cond.code ⟨"PageScribe", "steps", "()I"⟩ prog_1_method_4_code 1 (some .int) ∈ gw := gw_of (tb_2 (List.mem_of_getElem? (i := 88) (by decide +kernel))) (by decide +kernel)
theorem k_2_86 : Cond.instanceMethod ⟨"PageScribe", "steps", "()I"⟩ ∈ gw := gw_of (tb_2 (List.mem_of_getElem? (i := 86) (by decide +kernel))) (by decide +kernel)
theorem k_2_87 : Cond.selects "PageScribe" ⟨"PageScribe", "steps", "()I"⟩ ⟨"PageScribe", "steps", "()I"⟩ ∈ gw := gw_of (tb_2 (List.mem_of_getElem? (i := 87) (by decide +kernel))) (by decide +kernel)
theorem d_Lw_law_221 : decode code 221 = .ok (.pop, 1) := by decide +kernel
theorem d_Lw_law_222 : decode code 222 = .ok (.aload_n 2, 1) := by decide +kernel
theorem d_Lw_law_223 : decode code 223 = .ok (.invokevirtual 56, 3) := by decide +kernel
theorem k_8_122 : Cond.methodLink "PageScribeLaw" 56 ⟨"PageScribeModel", "steps", "()I"⟩ ∈ gw := gw_of (tb_8 (List.mem_of_getElem? (i := 122) (by decide +kernel))) (by decide +kernel)
theorem k_8_125 : Cond.code ⟨"PageScribeModel", "steps", "()I"⟩ prog_15_method_75_code 1 (some .int) ∈ gw := gw_of (tb_8 (List.mem_of_getElem? (i := 125) (by decide +kernel))) (by decide +kernel)
theorem k_8_123 : Cond.instanceMethod ⟨"PageScribeModel", "steps", "()I"⟩ ∈ gw := gw_of (tb_8 (List.mem_of_getElem? (i := 123) (by decide +kernel))) (by decide +kernel)
theorem k_8_124 : Cond.selects "PageScribeModel" ⟨"PageScribeModel", "steps", "()I"⟩ ⟨"PageScribeModel", "steps", "()I"⟩ ∈ gw := gw_of (tb_8 (List.mem_of_getElem? (i := 124) (by decide +kernel))) (by decide +kernel)
theorem d_Lw_law_226 : decode code 226 = .ok (.pop, 1) := by decide +kernel
theorem d_Lw_law_227 : decode code 227 = .ok (.goto 261, 3) := by decide +kernel
theorem d_Lw_law_230 : decode code 230 = .ok (.aload_n 1, 1) := by decide +kernel
theorem d_Lw_law_231 : decode code 231 = .ok (.invokevirtual 57, 3) := by decide +kernel
theorem k_2_89 : Cond.methodLink "PageScribeLaw" 57 ⟨"PageScribe", "fault", "()I"⟩ ∈ gw := gw_of (tb_2 (List.mem_of_getElem? (i := 89) (by decide +kernel))) (by decide +kernel)
theorem k_2_92 : Cond.code ⟨"PageScribe", "fault", "()I"⟩ prog_1_method_5_code 1 (some .int) ∈ gw := gw_of (tb_2 (List.mem_of_getElem? (i := 92) (by decide +kernel))) (by decide +kernel)
theorem k_2_90 : Cond.instanceMethod ⟨"PageScribe", "fault", "()I"⟩ ∈ gw := gw_of (tb_2 (List.mem_of_getElem? (i := 90) (by decide +kernel))) (by decide +kernel)
theorem k_2_91 : Cond.selects "PageScribe" ⟨"PageScribe", "fault", "()I"⟩ ⟨"PageScribe", "fault", "()I"⟩ ∈ gw := gw_of (tb_2 (List.mem_of_getElem? (i := 91) (by decide +kernel))) (by decide +kernel)
theorem d_Lw_law_234 : decode code 234 = .ok (.pop, 1) := by decide +kernel
theorem d_Lw_law_235 : decode code 235 = .ok (.aload_n 2, 1) := by decide +kernel
theorem d_Lw_law_236 : decode code 236 = .ok (.invokevirtual 60, 3) := by decide +kernel
theorem k_8_126 : Cond.methodLink "PageScribeLaw" 60 ⟨"PageScribeModel", "fault", "()I"⟩ ∈ gw := gw_of (tb_8 (List.mem_of_getElem? (i := 126) (by decide +kernel))) (by decide +kernel)
theorem k_8_129 : Cond.code ⟨"PageScribeModel", "fault", "()I"⟩ prog_15_method_76_code 1 (some .int) ∈ gw := gw_of (tb_8 (List.mem_of_getElem? (i := 129) (by decide +kernel))) (by decide +kernel)
theorem k_8_127 : Cond.instanceMethod ⟨"PageScribeModel", "fault", "()I"⟩ ∈ gw := gw_of (tb_8 (List.mem_of_getElem? (i := 127) (by decide +kernel))) (by decide +kernel)
theorem k_8_128 : Cond.selects "PageScribeModel" ⟨"PageScribeModel", "fault", "()I"⟩ ⟨"PageScribeModel", "fault", "()I"⟩ ∈ gw := gw_of (tb_8 (List.mem_of_getElem? (i := 128) (by decide +kernel))) (by decide +kernel)
theorem d_Lw_law_239 : decode code 239 = .ok (.pop, 1) := by decide +kernel
theorem d_Lw_law_240 : decode code 240 = .ok (.goto 248, 3) := by decide +kernel
theorem d_Lw_law_243 : decode code 243 = .ok (.aload_n 1, 1) := by decide +kernel
theorem d_Lw_law_244 : decode code 244 = .ok (.aload_n 0, 1) := by decide +kernel
theorem d_Lw_law_245 : decode code 245 = .ok (.iload 5, 2) := by decide +kernel
theorem d_Lw_law_247 : decode code 247 = .ok (.iconst 1, 1) := by decide +kernel
theorem d_Lw_law_248 : decode code 248 = .ok (.iadd, 1) := by decide +kernel
theorem d_Lw_law_249 : decode code 249 = .ok (.iaload, 1) := by decide +kernel
theorem d_Lw_law_250 : decode code 250 = .ok (.i2d, 1) := by decide +kernel
theorem d_Lw_law_251 : decode code 251 = .ok (.ldc2_w 61, 3) := by decide +kernel
theorem k_8_170 : Cond.constantDouble "PageScribeLaw" 61 (4593671619917905920 : UInt64) ∈ gw := gw_of (tb_8 (List.mem_of_getElem? (i := 170) (by decide +kernel))) (by decide +kernel)
theorem d_Lw_law_254 : decode code 254 = .ok (.dmul, 1) := by decide +kernel
theorem d_Lw_law_255 : decode code 255 = .ok (.invokevirtual 63, 3) := by decide +kernel
theorem k_2_93 : Cond.methodLink "PageScribeLaw" 63 ⟨"PageScribe", "feed", "(D)Z"⟩ ∈ gw := gw_of (tb_2 (List.mem_of_getElem? (i := 93) (by decide +kernel))) (by decide +kernel)
theorem k_2_96 : Cond.code ⟨"PageScribe", "feed", "(D)Z"⟩ prog_1_method_6_code 3 (some .boolean) ∈ gw := gw_of (tb_2 (List.mem_of_getElem? (i := 96) (by decide +kernel))) (by decide +kernel)
theorem k_2_94 : Cond.instanceMethod ⟨"PageScribe", "feed", "(D)Z"⟩ ∈ gw := gw_of (tb_2 (List.mem_of_getElem? (i := 94) (by decide +kernel))) (by decide +kernel)
theorem k_2_95 : Cond.selects "PageScribe" ⟨"PageScribe", "feed", "(D)Z"⟩ ⟨"PageScribe", "feed", "(D)Z"⟩ ∈ gw := gw_of (tb_2 (List.mem_of_getElem? (i := 95) (by decide +kernel))) (by decide +kernel)
theorem d_Lw_law_258 : decode code 258 = .ok (.pop, 1) := by decide +kernel
theorem d_Lw_law_259 : decode code 259 = .ok (.aload_n 2, 1) := by decide +kernel
theorem d_Lw_law_260 : decode code 260 = .ok (.aload_n 0, 1) := by decide +kernel
theorem d_Lw_law_261 : decode code 261 = .ok (.iload 5, 2) := by decide +kernel
theorem d_Lw_law_263 : decode code 263 = .ok (.iconst 1, 1) := by decide +kernel
theorem d_Lw_law_264 : decode code 264 = .ok (.iadd, 1) := by decide +kernel
theorem d_Lw_law_265 : decode code 265 = .ok (.iaload, 1) := by decide +kernel
theorem d_Lw_law_266 : decode code 266 = .ok (.i2d, 1) := by decide +kernel
theorem d_Lw_law_267 : decode code 267 = .ok (.ldc2_w 61, 3) := by decide +kernel
theorem d_Lw_law_270 : decode code 270 = .ok (.dmul, 1) := by decide +kernel
theorem d_Lw_law_271 : decode code 271 = .ok (.invokevirtual 67, 3) := by decide +kernel
theorem k_8_130 : Cond.methodLink "PageScribeLaw" 67 ⟨"PageScribeModel", "feed", "(D)Z"⟩ ∈ gw := gw_of (tb_8 (List.mem_of_getElem? (i := 130) (by decide +kernel))) (by decide +kernel)
theorem k_8_133 : Cond.code ⟨"PageScribeModel", "feed", "(D)Z"⟩ prog_15_method_77_code 3 (some .boolean) ∈ gw := gw_of (tb_8 (List.mem_of_getElem? (i := 133) (by decide +kernel))) (by decide +kernel)
theorem k_8_131 : Cond.instanceMethod ⟨"PageScribeModel", "feed", "(D)Z"⟩ ∈ gw := gw_of (tb_8 (List.mem_of_getElem? (i := 131) (by decide +kernel))) (by decide +kernel)
theorem k_8_132 : Cond.selects "PageScribeModel" ⟨"PageScribeModel", "feed", "(D)Z"⟩ ⟨"PageScribeModel", "feed", "(D)Z"⟩ ∈ gw := gw_of (tb_8 (List.mem_of_getElem? (i := 132) (by decide +kernel))) (by decide +kernel)
theorem d_Lw_law_274 : decode code 274 = .ok (.pop, 1) := by decide +kernel
theorem d_Lw_law_275 : decode code 275 = .ok (.goto 213, 3) := by decide +kernel
theorem d_Lw_law_278 : decode code 278 = .ok (.aload_n 1, 1) := by decide +kernel
theorem d_Lw_law_279 : decode code 279 = .ok (.invokevirtual 68, 3) := by decide +kernel
theorem k_2_105 : Cond.methodLink "PageScribeLaw" 68 ⟨"PageScribe", "depth", "()I"⟩ ∈ gw := gw_of (tb_2 (List.mem_of_getElem? (i := 105) (by decide +kernel))) (by decide +kernel)
theorem k_2_108 : Cond.code ⟨"PageScribe", "depth", "()I"⟩ prog_1_method_7_code 1 (some .int) ∈ gw := gw_of (tb_2 (List.mem_of_getElem? (i := 108) (by decide +kernel))) (by decide +kernel)
theorem k_2_106 : Cond.instanceMethod ⟨"PageScribe", "depth", "()I"⟩ ∈ gw := gw_of (tb_2 (List.mem_of_getElem? (i := 106) (by decide +kernel))) (by decide +kernel)
theorem k_2_107 : Cond.selects "PageScribe" ⟨"PageScribe", "depth", "()I"⟩ ⟨"PageScribe", "depth", "()I"⟩ ∈ gw := gw_of (tb_2 (List.mem_of_getElem? (i := 107) (by decide +kernel))) (by decide +kernel)
theorem d_Lw_law_282 : decode code 282 = .ok (.pop, 1) := by decide +kernel
theorem d_Lw_law_283 : decode code 283 = .ok (.aload_n 2, 1) := by decide +kernel
theorem d_Lw_law_284 : decode code 284 = .ok (.invokevirtual 71, 3) := by decide +kernel
theorem k_8_134 : Cond.methodLink "PageScribeLaw" 71 ⟨"PageScribeModel", "depth", "()I"⟩ ∈ gw := gw_of (tb_8 (List.mem_of_getElem? (i := 134) (by decide +kernel))) (by decide +kernel)
theorem k_8_137 : Cond.code ⟨"PageScribeModel", "depth", "()I"⟩ prog_15_method_78_code 1 (some .int) ∈ gw := gw_of (tb_8 (List.mem_of_getElem? (i := 137) (by decide +kernel))) (by decide +kernel)
theorem k_8_135 : Cond.instanceMethod ⟨"PageScribeModel", "depth", "()I"⟩ ∈ gw := gw_of (tb_8 (List.mem_of_getElem? (i := 135) (by decide +kernel))) (by decide +kernel)
theorem k_8_136 : Cond.selects "PageScribeModel" ⟨"PageScribeModel", "depth", "()I"⟩ ⟨"PageScribeModel", "depth", "()I"⟩ ∈ gw := gw_of (tb_8 (List.mem_of_getElem? (i := 136) (by decide +kernel))) (by decide +kernel)
theorem d_Lw_law_287 : decode code 287 = .ok (.pop, 1) := by decide +kernel
theorem d_Lw_law_288 : decode code 288 = .ok (.goto 200, 3) := by decide +kernel
theorem d_Lw_law_291 : decode code 291 = .ok (.aload_n 1, 1) := by decide +kernel
theorem d_Lw_law_292 : decode code 292 = .ok (.aload_n 0, 1) := by decide +kernel
theorem d_Lw_law_293 : decode code 293 = .ok (.iload 5, 2) := by decide +kernel
theorem d_Lw_law_295 : decode code 295 = .ok (.iconst 1, 1) := by decide +kernel
theorem d_Lw_law_296 : decode code 296 = .ok (.iadd, 1) := by decide +kernel
theorem d_Lw_law_297 : decode code 297 = .ok (.iaload, 1) := by decide +kernel
theorem d_Lw_law_298 : decode code 298 = .ok (.aload_n 3, 1) := by decide +kernel
theorem d_Lw_law_299 : decode code 299 = .ok (.invokestatic 72, 3) := by decide +kernel
theorem k_6_25 : Cond.methodLink "PageScribeLaw" 72 ⟨"PageScribeLaw", "kind", "(LPageScribe;I[J)I"⟩ ∈ gw := gw_of (tb_6 (List.mem_of_getElem? (i := 25) (by decide +kernel))) (by decide +kernel)
theorem k_6_27 : Cond.codeWith ⟨"PageScribeLaw", "kind", "(LPageScribe;I[J)I"⟩ method_4_code 4 (some .int) [(0, 9, 12, 18)] ∈ gw := gw_of (tb_6 (List.mem_of_getElem? (i := 27) (by decide +kernel))) (by decide +kernel)
theorem k_6_26 : Cond.static ⟨"PageScribeLaw", "kind", "(LPageScribe;I[J)I"⟩ ∈ gw := gw_of (tb_6 (List.mem_of_getElem? (i := 26) (by decide +kernel))) (by decide +kernel)
theorem d_Lw_law_302 : decode code 302 = .ok (.istore 6, 2) := by decide +kernel
theorem d_Lw_law_304 : decode code 304 = .ok (.aload_n 2, 1) := by decide +kernel
theorem d_Lw_law_305 : decode code 305 = .ok (.aload_n 0, 1) := by decide +kernel
theorem d_Lw_law_306 : decode code 306 = .ok (.iload 5, 2) := by decide +kernel
theorem d_Lw_law_308 : decode code 308 = .ok (.iconst 1, 1) := by decide +kernel
theorem d_Lw_law_309 : decode code 309 = .ok (.iadd, 1) := by decide +kernel
theorem d_Lw_law_310 : decode code 310 = .ok (.iaload, 1) := by decide +kernel
theorem d_Lw_law_311 : decode code 311 = .ok (.invokevirtual 74, 3) := by decide +kernel
theorem k_8_138 : Cond.methodLink "PageScribeLaw" 74 ⟨"PageScribeModel", "kind", "(I)I"⟩ ∈ gw := gw_of (tb_8 (List.mem_of_getElem? (i := 138) (by decide +kernel))) (by decide +kernel)
theorem k_8_141 : Cond.code ⟨"PageScribeModel", "kind", "(I)I"⟩ prog_15_method_79_code 2 (some .int) ∈ gw := gw_of (tb_8 (List.mem_of_getElem? (i := 141) (by decide +kernel))) (by decide +kernel)
theorem k_8_139 : Cond.instanceMethod ⟨"PageScribeModel", "kind", "(I)I"⟩ ∈ gw := gw_of (tb_8 (List.mem_of_getElem? (i := 139) (by decide +kernel))) (by decide +kernel)
theorem k_8_140 : Cond.selects "PageScribeModel" ⟨"PageScribeModel", "kind", "(I)I"⟩ ⟨"PageScribeModel", "kind", "(I)I"⟩ ∈ gw := gw_of (tb_8 (List.mem_of_getElem? (i := 140) (by decide +kernel))) (by decide +kernel)
theorem d_Lw_law_314 : decode code 314 = .ok (.istore 7, 2) := by decide +kernel
theorem d_Lw_law_316 : decode code 316 = .ok (.goto 172, 3) := by decide +kernel
theorem d_Lw_law_319 : decode code 319 = .ok (.aload_n 1, 1) := by decide +kernel
theorem d_Lw_law_320 : decode code 320 = .ok (.aload_n 0, 1) := by decide +kernel
theorem d_Lw_law_321 : decode code 321 = .ok (.iload 5, 2) := by decide +kernel
theorem d_Lw_law_323 : decode code 323 = .ok (.iconst 1, 1) := by decide +kernel
theorem d_Lw_law_324 : decode code 324 = .ok (.iadd, 1) := by decide +kernel
theorem d_Lw_law_325 : decode code 325 = .ok (.iaload, 1) := by decide +kernel
theorem d_Lw_law_326 : decode code 326 = .ok (.aload_n 3, 1) := by decide +kernel
theorem d_Lw_law_327 : decode code 327 = .ok (.invokestatic 75, 3) := by decide +kernel
theorem k_6_49 : Cond.methodLink "PageScribeLaw" 75 ⟨"PageScribeLaw", "number", "(LPageScribe;I[J)I"⟩ ∈ gw := gw_of (tb_6 (List.mem_of_getElem? (i := 49) (by decide +kernel))) (by decide +kernel)
theorem k_6_51 : Cond.codeWith ⟨"PageScribeLaw", "number", "(LPageScribe;I[J)I"⟩ method_5_code 4 (some .int) [(0, 9, 12, 18), (0, 9, 15, 23)] ∈ gw := gw_of (tb_6 (List.mem_of_getElem? (i := 51) (by decide +kernel))) (by decide +kernel)
theorem k_6_50 : Cond.static ⟨"PageScribeLaw", "number", "(LPageScribe;I[J)I"⟩ ∈ gw := gw_of (tb_6 (List.mem_of_getElem? (i := 50) (by decide +kernel))) (by decide +kernel)
theorem d_Lw_law_330 : decode code 330 = .ok (.istore 6, 2) := by decide +kernel
theorem d_Lw_law_332 : decode code 332 = .ok (.aload_n 2, 1) := by decide +kernel
theorem d_Lw_law_333 : decode code 333 = .ok (.aload_n 0, 1) := by decide +kernel
theorem d_Lw_law_334 : decode code 334 = .ok (.iload 5, 2) := by decide +kernel
theorem d_Lw_law_336 : decode code 336 = .ok (.iconst 1, 1) := by decide +kernel
theorem d_Lw_law_337 : decode code 337 = .ok (.iadd, 1) := by decide +kernel
theorem d_Lw_law_338 : decode code 338 = .ok (.iaload, 1) := by decide +kernel
theorem d_Lw_law_339 : decode code 339 = .ok (.invokevirtual 77, 3) := by decide +kernel
theorem k_8_142 : Cond.methodLink "PageScribeLaw" 77 ⟨"PageScribeModel", "number", "(I)I"⟩ ∈ gw := gw_of (tb_8 (List.mem_of_getElem? (i := 142) (by decide +kernel))) (by decide +kernel)
theorem k_8_145 : Cond.code ⟨"PageScribeModel", "number", "(I)I"⟩ prog_15_method_81_code 3 (some .int) ∈ gw := gw_of (tb_8 (List.mem_of_getElem? (i := 145) (by decide +kernel))) (by decide +kernel)
theorem k_8_143 : Cond.instanceMethod ⟨"PageScribeModel", "number", "(I)I"⟩ ∈ gw := gw_of (tb_8 (List.mem_of_getElem? (i := 143) (by decide +kernel))) (by decide +kernel)
theorem k_8_144 : Cond.selects "PageScribeModel" ⟨"PageScribeModel", "number", "(I)I"⟩ ⟨"PageScribeModel", "number", "(I)I"⟩ ∈ gw := gw_of (tb_8 (List.mem_of_getElem? (i := 144) (by decide +kernel))) (by decide +kernel)
theorem d_Lw_law_342 : decode code 342 = .ok (.istore 7, 2) := by decide +kernel
theorem d_Lw_law_344 : decode code 344 = .ok (.goto 144, 3) := by decide +kernel
theorem d_Lw_law_347 : decode code 347 = .ok (.aload_n 1, 1) := by decide +kernel
theorem d_Lw_law_348 : decode code 348 = .ok (.aload_n 0, 1) := by decide +kernel
theorem d_Lw_law_349 : decode code 349 = .ok (.iload 5, 2) := by decide +kernel
theorem d_Lw_law_351 : decode code 351 = .ok (.iconst 1, 1) := by decide +kernel
theorem d_Lw_law_352 : decode code 352 = .ok (.iadd, 1) := by decide +kernel
theorem d_Lw_law_353 : decode code 353 = .ok (.iaload, 1) := by decide +kernel
theorem d_Lw_law_354 : decode code 354 = .ok (.aload 4, 2) := by decide +kernel
theorem d_Lw_law_356 : decode code 356 = .ok (.invokestatic 78, 3) := by decide +kernel
theorem k_6_75 : Cond.methodLink "PageScribeLaw" 78 ⟨"PageScribeLaw", "real", "(LPageScribe;I[D)I"⟩ ∈ gw := gw_of (tb_6 (List.mem_of_getElem? (i := 75) (by decide +kernel))) (by decide +kernel)
theorem k_6_77 : Cond.codeWith ⟨"PageScribeLaw", "real", "(LPageScribe;I[D)I"⟩ method_6_code 4 (some .int) [(0, 8, 11, 18), (0, 8, 14, 23)] ∈ gw := gw_of (tb_6 (List.mem_of_getElem? (i := 77) (by decide +kernel))) (by decide +kernel)
theorem k_6_76 : Cond.static ⟨"PageScribeLaw", "real", "(LPageScribe;I[D)I"⟩ ∈ gw := gw_of (tb_6 (List.mem_of_getElem? (i := 76) (by decide +kernel))) (by decide +kernel)
theorem d_Lw_law_359 : decode code 359 = .ok (.istore 6, 2) := by decide +kernel
theorem d_Lw_law_361 : decode code 361 = .ok (.aload_n 2, 1) := by decide +kernel
theorem d_Lw_law_362 : decode code 362 = .ok (.aload_n 0, 1) := by decide +kernel
theorem d_Lw_law_363 : decode code 363 = .ok (.iload 5, 2) := by decide +kernel
theorem d_Lw_law_365 : decode code 365 = .ok (.iconst 1, 1) := by decide +kernel
theorem d_Lw_law_366 : decode code 366 = .ok (.iadd, 1) := by decide +kernel
theorem d_Lw_law_367 : decode code 367 = .ok (.iaload, 1) := by decide +kernel
theorem d_Lw_law_368 : decode code 368 = .ok (.invokevirtual 81, 3) := by decide +kernel
theorem k_8_149 : Cond.methodLink "PageScribeLaw" 81 ⟨"PageScribeModel", "real", "(I)D"⟩ ∈ gw := gw_of (tb_8 (List.mem_of_getElem? (i := 149) (by decide +kernel))) (by decide +kernel)
theorem k_8_152 : Cond.code ⟨"PageScribeModel", "real", "(I)D"⟩ prog_15_method_82_code 2 (some .double) ∈ gw := gw_of (tb_8 (List.mem_of_getElem? (i := 152) (by decide +kernel))) (by decide +kernel)
theorem k_8_150 : Cond.instanceMethod ⟨"PageScribeModel", "real", "(I)D"⟩ ∈ gw := gw_of (tb_8 (List.mem_of_getElem? (i := 150) (by decide +kernel))) (by decide +kernel)
theorem k_8_151 : Cond.selects "PageScribeModel" ⟨"PageScribeModel", "real", "(I)D"⟩ ⟨"PageScribeModel", "real", "(I)D"⟩ ∈ gw := gw_of (tb_8 (List.mem_of_getElem? (i := 151) (by decide +kernel))) (by decide +kernel)
theorem d_Lw_law_371 : decode code 371 = .ok (.dstore 7, 2) := by decide +kernel
theorem d_Lw_law_373 : decode code 373 = .ok (.goto 115, 3) := by decide +kernel
theorem d_Lw_law_376 : decode code 376 = .ok (.aload_n 1, 1) := by decide +kernel
theorem d_Lw_law_377 : decode code 377 = .ok (.aload_n 0, 1) := by decide +kernel
theorem d_Lw_law_378 : decode code 378 = .ok (.iload 5, 2) := by decide +kernel
theorem d_Lw_law_380 : decode code 380 = .ok (.iconst 1, 1) := by decide +kernel
theorem d_Lw_law_381 : decode code 381 = .ok (.iadd, 1) := by decide +kernel
theorem d_Lw_law_382 : decode code 382 = .ok (.iaload, 1) := by decide +kernel
theorem d_Lw_law_383 : decode code 383 = .ok (.aload_n 0, 1) := by decide +kernel
theorem d_Lw_law_384 : decode code 384 = .ok (.iload 5, 2) := by decide +kernel
theorem d_Lw_law_386 : decode code 386 = .ok (.iconst 2, 1) := by decide +kernel
theorem d_Lw_law_387 : decode code 387 = .ok (.iadd, 1) := by decide +kernel
theorem d_Lw_law_388 : decode code 388 = .ok (.iaload, 1) := by decide +kernel
theorem d_Lw_law_389 : decode code 389 = .ok (.invokevirtual 82, 3) := by decide +kernel
theorem k_2_109 : Cond.methodLink "PageScribeLaw" 82 ⟨"PageScribe", "letter", "(II)I"⟩ ∈ gw := gw_of (tb_2 (List.mem_of_getElem? (i := 109) (by decide +kernel))) (by decide +kernel)
theorem k_2_112 : Cond.code ⟨"PageScribe", "letter", "(II)I"⟩ prog_1_method_11_code 3 (some .int) ∈ gw := gw_of (tb_2 (List.mem_of_getElem? (i := 112) (by decide +kernel))) (by decide +kernel)
theorem k_2_110 : Cond.instanceMethod ⟨"PageScribe", "letter", "(II)I"⟩ ∈ gw := gw_of (tb_2 (List.mem_of_getElem? (i := 110) (by decide +kernel))) (by decide +kernel)
theorem k_2_111 : Cond.selects "PageScribe" ⟨"PageScribe", "letter", "(II)I"⟩ ⟨"PageScribe", "letter", "(II)I"⟩ ∈ gw := gw_of (tb_2 (List.mem_of_getElem? (i := 111) (by decide +kernel))) (by decide +kernel)
theorem d_Lw_law_392 : decode code 392 = .ok (.pop, 1) := by decide +kernel
theorem d_Lw_law_393 : decode code 393 = .ok (.aload_n 2, 1) := by decide +kernel
theorem d_Lw_law_394 : decode code 394 = .ok (.aload_n 0, 1) := by decide +kernel
theorem d_Lw_law_395 : decode code 395 = .ok (.iload 5, 2) := by decide +kernel
theorem d_Lw_law_397 : decode code 397 = .ok (.iconst 1, 1) := by decide +kernel
theorem d_Lw_law_398 : decode code 398 = .ok (.iadd, 1) := by decide +kernel
theorem d_Lw_law_399 : decode code 399 = .ok (.iaload, 1) := by decide +kernel
theorem d_Lw_law_400 : decode code 400 = .ok (.aload_n 0, 1) := by decide +kernel
theorem d_Lw_law_401 : decode code 401 = .ok (.iload 5, 2) := by decide +kernel
theorem d_Lw_law_403 : decode code 403 = .ok (.iconst 2, 1) := by decide +kernel
theorem d_Lw_law_404 : decode code 404 = .ok (.iadd, 1) := by decide +kernel
theorem d_Lw_law_405 : decode code 405 = .ok (.iaload, 1) := by decide +kernel
theorem d_Lw_law_406 : decode code 406 = .ok (.invokevirtual 86, 3) := by decide +kernel
theorem k_8_153 : Cond.methodLink "PageScribeLaw" 86 ⟨"PageScribeModel", "letter", "(II)I"⟩ ∈ gw := gw_of (tb_8 (List.mem_of_getElem? (i := 153) (by decide +kernel))) (by decide +kernel)
theorem k_8_156 : Cond.code ⟨"PageScribeModel", "letter", "(II)I"⟩ prog_15_method_83_code 6 (some .int) ∈ gw := gw_of (tb_8 (List.mem_of_getElem? (i := 156) (by decide +kernel))) (by decide +kernel)
theorem k_8_154 : Cond.instanceMethod ⟨"PageScribeModel", "letter", "(II)I"⟩ ∈ gw := gw_of (tb_8 (List.mem_of_getElem? (i := 154) (by decide +kernel))) (by decide +kernel)
theorem k_8_155 : Cond.selects "PageScribeModel" ⟨"PageScribeModel", "letter", "(II)I"⟩ ⟨"PageScribeModel", "letter", "(II)I"⟩ ∈ gw := gw_of (tb_8 (List.mem_of_getElem? (i := 155) (by decide +kernel))) (by decide +kernel)
theorem d_Lw_law_409 : decode code 409 = .ok (.pop, 1) := by decide +kernel
theorem d_Lw_law_410 : decode code 410 = .ok (.goto 78, 3) := by decide +kernel
theorem d_Lw_law_413 : decode code 413 = .ok (.aload_n 1, 1) := by decide +kernel
theorem d_Lw_law_414 : decode code 414 = .ok (.aload_n 0, 1) := by decide +kernel
theorem d_Lw_law_415 : decode code 415 = .ok (.iload 5, 2) := by decide +kernel
theorem d_Lw_law_417 : decode code 417 = .ok (.iconst 1, 1) := by decide +kernel
theorem d_Lw_law_418 : decode code 418 = .ok (.iadd, 1) := by decide +kernel
theorem d_Lw_law_419 : decode code 419 = .ok (.iaload, 1) := by decide +kernel
theorem d_Lw_law_420 : decode code 420 = .ok (.invokevirtual 87, 3) := by decide +kernel
theorem k_2_195 : Cond.methodLink "PageScribeLaw" 87 ⟨"PageScribe", "used", "(I)I"⟩ ∈ gw := gw_of (tb_2 (List.mem_of_getElem? (i := 195) (by decide +kernel))) (by decide +kernel)
theorem k_2_198 : Cond.code ⟨"PageScribe", "used", "(I)I"⟩ prog_1_method_12_code 2 (some .int) ∈ gw := gw_of (tb_2 (List.mem_of_getElem? (i := 198) (by decide +kernel))) (by decide +kernel)
theorem k_2_196 : Cond.instanceMethod ⟨"PageScribe", "used", "(I)I"⟩ ∈ gw := gw_of (tb_2 (List.mem_of_getElem? (i := 196) (by decide +kernel))) (by decide +kernel)
theorem k_2_197 : Cond.selects "PageScribe" ⟨"PageScribe", "used", "(I)I"⟩ ⟨"PageScribe", "used", "(I)I"⟩ ∈ gw := gw_of (tb_2 (List.mem_of_getElem? (i := 197) (by decide +kernel))) (by decide +kernel)
theorem d_Lw_law_423 : decode code 423 = .ok (.pop, 1) := by decide +kernel
theorem d_Lw_law_424 : decode code 424 = .ok (.aload_n 2, 1) := by decide +kernel
theorem d_Lw_law_425 : decode code 425 = .ok (.aload_n 0, 1) := by decide +kernel
theorem d_Lw_law_426 : decode code 426 = .ok (.iload 5, 2) := by decide +kernel
theorem d_Lw_law_428 : decode code 428 = .ok (.iconst 1, 1) := by decide +kernel
theorem d_Lw_law_429 : decode code 429 = .ok (.iadd, 1) := by decide +kernel
theorem d_Lw_law_430 : decode code 430 = .ok (.iaload, 1) := by decide +kernel
theorem d_Lw_law_431 : decode code 431 = .ok (.invokevirtual 90, 3) := by decide +kernel
theorem k_8_157 : Cond.methodLink "PageScribeLaw" 90 ⟨"PageScribeModel", "used", "(I)I"⟩ ∈ gw := gw_of (tb_8 (List.mem_of_getElem? (i := 157) (by decide +kernel))) (by decide +kernel)
theorem k_8_160 : Cond.code ⟨"PageScribeModel", "used", "(I)I"⟩ prog_15_method_84_code 4 (some .int) ∈ gw := gw_of (tb_8 (List.mem_of_getElem? (i := 160) (by decide +kernel))) (by decide +kernel)
theorem k_8_158 : Cond.instanceMethod ⟨"PageScribeModel", "used", "(I)I"⟩ ∈ gw := gw_of (tb_8 (List.mem_of_getElem? (i := 158) (by decide +kernel))) (by decide +kernel)
theorem k_8_159 : Cond.selects "PageScribeModel" ⟨"PageScribeModel", "used", "(I)I"⟩ ⟨"PageScribeModel", "used", "(I)I"⟩ ∈ gw := gw_of (tb_8 (List.mem_of_getElem? (i := 159) (by decide +kernel))) (by decide +kernel)
theorem d_Lw_law_434 : decode code 434 = .ok (.pop, 1) := by decide +kernel
theorem d_Lw_law_435 : decode code 435 = .ok (.goto 53, 3) := by decide +kernel
theorem d_Lw_law_438 : decode code 438 = .ok (.aload_n 1, 1) := by decide +kernel
theorem d_Lw_law_439 : decode code 439 = .ok (.aload_n 0, 1) := by decide +kernel
theorem d_Lw_law_440 : decode code 440 = .ok (.iload 5, 2) := by decide +kernel
theorem d_Lw_law_442 : decode code 442 = .ok (.iconst 1, 1) := by decide +kernel
theorem d_Lw_law_443 : decode code 443 = .ok (.iadd, 1) := by decide +kernel
theorem d_Lw_law_444 : decode code 444 = .ok (.iaload, 1) := by decide +kernel
theorem d_Lw_law_445 : decode code 445 = .ok (.aload_n 0, 1) := by decide +kernel
theorem d_Lw_law_446 : decode code 446 = .ok (.iload 5, 2) := by decide +kernel
theorem d_Lw_law_448 : decode code 448 = .ok (.iconst 2, 1) := by decide +kernel
theorem d_Lw_law_449 : decode code 449 = .ok (.iadd, 1) := by decide +kernel
theorem d_Lw_law_450 : decode code 450 = .ok (.iaload, 1) := by decide +kernel
theorem d_Lw_law_451 : decode code 451 = .ok (.invokevirtual 91, 3) := by decide +kernel
theorem k_2_203 : Cond.methodLink "PageScribeLaw" 91 ⟨"PageScribe", "pixel", "(II)I"⟩ ∈ gw := gw_of (tb_2 (List.mem_of_getElem? (i := 203) (by decide +kernel))) (by decide +kernel)
theorem k_2_206 : Cond.code ⟨"PageScribe", "pixel", "(II)I"⟩ prog_1_method_13_code 3 (some .int) ∈ gw := gw_of (tb_2 (List.mem_of_getElem? (i := 206) (by decide +kernel))) (by decide +kernel)
theorem k_2_204 : Cond.instanceMethod ⟨"PageScribe", "pixel", "(II)I"⟩ ∈ gw := gw_of (tb_2 (List.mem_of_getElem? (i := 204) (by decide +kernel))) (by decide +kernel)
theorem k_2_205 : Cond.selects "PageScribe" ⟨"PageScribe", "pixel", "(II)I"⟩ ⟨"PageScribe", "pixel", "(II)I"⟩ ∈ gw := gw_of (tb_2 (List.mem_of_getElem? (i := 205) (by decide +kernel))) (by decide +kernel)
theorem d_Lw_law_454 : decode code 454 = .ok (.pop, 1) := by decide +kernel
theorem d_Lw_law_455 : decode code 455 = .ok (.aload_n 2, 1) := by decide +kernel
theorem d_Lw_law_456 : decode code 456 = .ok (.aload_n 0, 1) := by decide +kernel
theorem d_Lw_law_457 : decode code 457 = .ok (.iload 5, 2) := by decide +kernel
theorem d_Lw_law_459 : decode code 459 = .ok (.iconst 1, 1) := by decide +kernel
theorem d_Lw_law_460 : decode code 460 = .ok (.iadd, 1) := by decide +kernel
theorem d_Lw_law_461 : decode code 461 = .ok (.iaload, 1) := by decide +kernel
theorem d_Lw_law_462 : decode code 462 = .ok (.aload_n 0, 1) := by decide +kernel
theorem d_Lw_law_463 : decode code 463 = .ok (.iload 5, 2) := by decide +kernel
theorem d_Lw_law_465 : decode code 465 = .ok (.iconst 2, 1) := by decide +kernel
theorem d_Lw_law_466 : decode code 466 = .ok (.iadd, 1) := by decide +kernel
theorem d_Lw_law_467 : decode code 467 = .ok (.iaload, 1) := by decide +kernel
theorem d_Lw_law_468 : decode code 468 = .ok (.invokevirtual 94, 3) := by decide +kernel
theorem k_8_161 : Cond.methodLink "PageScribeLaw" 94 ⟨"PageScribeModel", "pixel", "(II)I"⟩ ∈ gw := gw_of (tb_8 (List.mem_of_getElem? (i := 161) (by decide +kernel))) (by decide +kernel)
theorem k_8_164 : Cond.code ⟨"PageScribeModel", "pixel", "(II)I"⟩ prog_15_method_85_code 3 (some .int) ∈ gw := gw_of (tb_8 (List.mem_of_getElem? (i := 164) (by decide +kernel))) (by decide +kernel)
theorem k_8_162 : Cond.instanceMethod ⟨"PageScribeModel", "pixel", "(II)I"⟩ ∈ gw := gw_of (tb_8 (List.mem_of_getElem? (i := 162) (by decide +kernel))) (by decide +kernel)
theorem k_8_163 : Cond.selects "PageScribeModel" ⟨"PageScribeModel", "pixel", "(II)I"⟩ ⟨"PageScribeModel", "pixel", "(II)I"⟩ ∈ gw := gw_of (tb_8 (List.mem_of_getElem? (i := 163) (by decide +kernel))) (by decide +kernel)
theorem d_Lw_law_471 : decode code 471 = .ok (.pop, 1) := by decide +kernel
theorem d_Lw_law_472 : decode code 472 = .ok (.goto 16, 3) := by decide +kernel
theorem d_Lw_law_475 : decode code 475 = .ok (.aload_n 1, 1) := by decide +kernel
theorem d_Lw_law_476 : decode code 476 = .ok (.invokevirtual 95, 3) := by decide +kernel
theorem k_2_211 : Cond.methodLink "PageScribeLaw" 95 ⟨"PageScribe", "page", "()I"⟩ ∈ gw := gw_of (tb_2 (List.mem_of_getElem? (i := 211) (by decide +kernel))) (by decide +kernel)
theorem k_2_214 : Cond.code ⟨"PageScribe", "page", "()I"⟩ prog_1_method_14_code 1 (some .int) ∈ gw := gw_of (tb_2 (List.mem_of_getElem? (i := 214) (by decide +kernel))) (by decide +kernel)
theorem k_2_212 : Cond.instanceMethod ⟨"PageScribe", "page", "()I"⟩ ∈ gw := gw_of (tb_2 (List.mem_of_getElem? (i := 212) (by decide +kernel))) (by decide +kernel)
theorem k_2_213 : Cond.selects "PageScribe" ⟨"PageScribe", "page", "()I"⟩ ⟨"PageScribe", "page", "()I"⟩ ∈ gw := gw_of (tb_2 (List.mem_of_getElem? (i := 213) (by decide +kernel))) (by decide +kernel)
theorem d_Lw_law_479 : decode code 479 = .ok (.pop, 1) := by decide +kernel
theorem d_Lw_law_480 : decode code 480 = .ok (.aload_n 2, 1) := by decide +kernel
theorem d_Lw_law_481 : decode code 481 = .ok (.invokevirtual 98, 3) := by decide +kernel
theorem k_8_165 : Cond.methodLink "PageScribeLaw" 98 ⟨"PageScribeModel", "page", "()I"⟩ ∈ gw := gw_of (tb_8 (List.mem_of_getElem? (i := 165) (by decide +kernel))) (by decide +kernel)
theorem k_8_168 : Cond.code ⟨"PageScribeModel", "page", "()I"⟩ prog_15_method_86_code 3 (some .int) ∈ gw := gw_of (tb_8 (List.mem_of_getElem? (i := 168) (by decide +kernel))) (by decide +kernel)
theorem k_8_166 : Cond.instanceMethod ⟨"PageScribeModel", "page", "()I"⟩ ∈ gw := gw_of (tb_8 (List.mem_of_getElem? (i := 166) (by decide +kernel))) (by decide +kernel)
theorem k_8_167 : Cond.selects "PageScribeModel" ⟨"PageScribeModel", "page", "()I"⟩ ⟨"PageScribeModel", "page", "()I"⟩ ∈ gw := gw_of (tb_8 (List.mem_of_getElem? (i := 167) (by decide +kernel))) (by decide +kernel)
theorem d_Lw_law_484 : decode code 484 = .ok (.pop, 1) := by decide +kernel
theorem d_Lw_law_485 : decode code 485 = .ok (.goto 3, 3) := by decide +kernel
/-! THE LAW: its loop -/
set_option maxHeartbeats 16000000 in
set_option maxRecDepth 100000 in
theorem law_loop {p : Program} {e : Env} {s : State} {m : MethodId} {below : List Frame} {meth : Method} {c : Code} (l : Launch) (hfl : l.flags = flags0) {b L : Nat} {xs : Nat → Int32} (hL : L ≤ 1538) (D : va_G) (T : Nat → ClassId) (ad : Nat → Nat) (g : GE) (h0 : Nat) (ar : Nat → Nat) (ou od q69 q129 q141 q148 : Nat) (F : CallFix p m c code 9 s #[Value.ref b] gw "PageScribeLaw") (hr : meth.sig.returnType = ret) (hlocks : meth.locks = false) (hK : va_K D classes (TY T) s) (hX : va_X b L xs s s.heap) (hbl : b < s.heap.size) (hEC : EC g (Rn s.heap.size) ad s) (h69 : EY 69 "the fuel is not 1 to 500" q69 s) (h129 : EY 129 "there is no such VALUE" q129 s) (h141 : EY 141 "a REAL has no number" q141 s) (h148 : EY 148 "no number" q148 s) (hNC : NCi s) (hou : s.heap.size ≤ ou) (hod : s.heap.size ≤ od) :
    ∀ (k : Nat) (i : Int32) (Sc : CS) (Sm : MS) (f : Nat → Int64) (fd : Nat → UInt64) (H : Heap) (locs : List Loc) (cells slots : Nat) (ls : Array Slot), (2 ≤ i.toInt ∧ i.toInt ≤ 1541 ∧ (L : Int) ≤ i.toInt + 3 * (k : Int) + 2) → CIv Sc → MI Sm → (f_frames Sm).toInt = 0 → (f_length Sm).toInt = (f_xr_length Sc).toInt → (cells + k ≤ 601024 ∧ slots + 6 * k ≤ 7293000) →
      va_P D classes (lW T ad Sc h0 ar Sm (oJ T ou f) (oD T od fd)) H → va_D (Rn s.heap.size) (lW T ad Sc h0 ar Sm (oJ T ou f) (oD T od fd)) → va_S (Rn s.heap.size) s.heap H locs → lv_has ls 9 [(0, .ref b), (1, .ref (ad 0)), (2, .ref h0), (3, .ref ou), (4, .ref od), (5, .int i)] →
      W p l e room_1 s m #[Value.ref b] below meth c H locs cells slots (lw_Z below #[Value.ref b] s) (F0 m 48 ls []) := by
  obtain ⟨hx, hb, hml, hown, hts⟩ := id F
  have hA : ∀ q : Nat, s.heap.size ≤ q → Rn s.heap.size q := fun q h => h
  have hbA : ¬ Rn s.heap.size b := Nat.not_le.mpr hbl
  have hSt : ∀ q, Rn s.heap.size q → ∀ cell : Cell, s.heap[q]? = some cell → cell.vm.isStatics = false := fun q h cell hc => absurd (Array.getElem?_eq_some_iff.mp hc).1 (Nat.not_lt.mpr h)
  intro k
  induction k using Nat.strongRecOn with
  | _ k ih =>
    intro i Sc Sm f fd H locs cells slots ls hi hIc hIm hfr hln hcs hP hD hS hl
    have ri := zt_rng i
    have hl : lv_has ls 9 [(0, .ref b), (1, .ref (ad 0)), (2, .ref h0), (3, .ref ou), (4, .ref od), (5, .int i)] := hl
    refine lv_iload hx hb d_Lw_law_48 (lv_at hl 5 rfl) ?_
    refine lv_aload_n hx hb d_Lw_law_50 rfl (lv_at hl 0 rfl) ?_
    refine va_slen hx hb hX hbl hbA hS d_Lw_law_51 ?_
    refine lv_topi (fun x1 ex1 => ?_)
    have fx1 : x1.toInt = (L : Int) := by rw [ex1]; exact nL_toInt hL
    refine lv_iconst (v := 3) hx hb d_Lw_law_52 (by decide) ?_
    refine lv_isub hx hb d_Lw_law_53 ?_
    refine lv_topi (fun x2 ex2 => ?_)
    have fx2 : x2.toInt = (x1.toInt - 3) := by rw [ex2]; exact (zt_sub (show x1.toInt = _ from rfl) tI_3 (by omega) (by omega)).trans (by omega)
    refine lv_icmp_gt (tgt := 494) hx hb d_Lw_law_54 (by decide) (fun c54_1 => ?_) (fun c54_1 => ?_)
    · have fc54_1 : (x1.toInt - 3) < i.toInt := zt_lt fx2 (show i.toInt = _ from rfl) c54_1
      refine lv_iconst (v := 1) hx hb d_Lw_law_494 (by decide) ?_
      refine va_forget (fun q hq => hS.2.2 q hq) ?_
      refine W.widen (k := 601024) (n := 7293000) (by omega) (by omega) ?_
      exact lw_ret hx hb hr hlocks d_Lw_law_495
    · have fc54_1 : i.toInt ≤ (x1.toInt - 3) := Int.not_lt.mp (zt_nlt fx2 (show i.toInt = _ from rfl) c54_1)
      obtain ⟨k9, rfl⟩ : ∃ k9, k = k9 + 1 := ⟨k - 1, by omega⟩
      refine lv_aload_n hx hb d_Lw_law_57 rfl (lv_at hl 0 rfl) ?_
      refine lv_iload hx hb d_Lw_law_58 (lv_at hl 5 rfl) ?_
      refine va_sld hx hb hX hbl hbA hS (zt_in (show i.toInt = _ from rfl) (by omega) (by omega)) d_Lw_law_60 ?_
      refine lv_topi (fun x3 ex3 => ?_)
      have rx3 := zt_rng x3
      refine lv_bipush (v := 15) hx hb d_Lw_law_61 (by decide) ?_
      refine lv_iand hx hb d_Lw_law_63 ?_
      refine lv_topi (fun x4 ex4 => ?_)
      have rx4 := zt_rng x4
      by_cases h_0_1 : x4.toInt = 0
      · refine lv_tableIn (off := 68) (tgt := 132) hx hb d_Lw_law_64 (by omega) (by omega) (by rw [show x4.toInt = 0 from h_0_1]; decide +kernel) (by decide) ?_
        refine lv_aload_n hx hb d_Lw_law_132 rfl (lv_at hl 1 rfl) ?_
        refine lv_aload_n hx hb d_Lw_law_133 rfl (lv_at hl 0 rfl) ?_
        refine lv_iload hx hb d_Lw_law_134 (lv_at hl 5 rfl) ?_
        refine lv_iconst (v := 1) hx hb d_Lw_law_136 (by decide) ?_
        refine lv_iadd hx hb d_Lw_law_137 ?_
        refine lv_topi (fun x5 ex5 => ?_)
        have fx5 : x5.toInt = (i.toInt + 1) := by rw [ex5]; exact (zt_add (show i.toInt = _ from rfl) tI_1 (by omega) (by omega)).trans (by omega)
        refine va_sld hx hb hX hbl hbA hS (zt_in fx5 (by omega) (by omega)) d_Lw_law_138 ?_
        refine lv_topi (fun x6 ex6 => ?_)
        have rx6 := zt_rng x6
        refine lv_i2l (v := (x6).toInt64) hx hb d_Lw_law_139 rfl ?_
        refine lv_topl (fun x7 ex7 => ?_)
        refine lv_bipush (v := 32) hx hb d_Lw_law_140 (by decide) ?_
        refine lv_lshl (v := (x7 <<< ((32 : Int32).toInt64 &&& 63))) hx hb d_Lw_law_142 rfl ?_
        refine lv_topl (fun x8 ex8 => ?_)
        refine lv_aload_n hx hb d_Lw_law_143 rfl (lv_at hl 0 rfl) ?_
        refine lv_iload hx hb d_Lw_law_144 (lv_at hl 5 rfl) ?_
        refine lv_iconst (v := 2) hx hb d_Lw_law_146 (by decide) ?_
        refine lv_iadd hx hb d_Lw_law_147 ?_
        refine lv_topi (fun x9 ex9 => ?_)
        have fx9 : x9.toInt = (i.toInt + 2) := by rw [ex9]; exact (zt_add (show i.toInt = _ from rfl) tI_2 (by omega) (by omega)).trans (by omega)
        refine va_sld hx hb hX hbl hbA hS (zt_in fx9 (by omega) (by omega)) d_Lw_law_148 ?_
        refine lv_topi (fun x10 ex10 => ?_)
        have rx10 := zt_rng x10
        refine lv_i2l (v := (x10).toInt64) hx hb d_Lw_law_149 rfl ?_
        refine lv_topl (fun x11 ex11 => ?_)
        refine lv_ldc2 (v := (4294967295)) hx hb hown (hts _ k_8_169) d_Lw_law_150 ?_
        refine lv_land hx hb d_Lw_law_153 ?_
        refine lv_topl (fun x12 ex12 => ?_)
        refine lv_lor hx hb d_Lw_law_154 ?_
        refine lv_topl (fun x13 ex13 => ?_)
        refine jl_ci (w := (fun u => u)) hK hP hD hS hA (va_runV (As := [.long x13]) (rest := []) F (c_Ps_write l D T ad Sc x13 H.size hIc) (j_cV (k := 1) (C := "PageScribe") hts k_2_80 k_1_1 k_2_77 k_2_78 k_2_79 (by decide +kernel) ⟨Nat.le_of_ble_eq_true rfl, Nat.le_of_ble_eq_true rfl⟩) (j_preV (q0 := 2) (ci := 10) hK hP hD lcL lc_all lc_nd rfl (lx_c.trans (ce_0 _ _ _)) (fun _ _ _ _ h => h) (fun _ _ _ => trivial)) rfl rfl hl.1 rfl (lv_room (Nat.le_of_ble_eq_true rfl)) d_Lw_law_155 ⟨lw_c (by omega), lw_s (by omega)⟩) (fun rv1 u1 H locs hw1 hP hD hS => ?_)
        have hIc_u1 : CIv u1 := hw1.1
        have hP : va_P D classes (lW T ad u1 h0 ar Sm (oJ T ou f) (oD T od fd)) H := hP
        have hD : va_D (Rn s.heap.size) (lW T ad u1 h0 ar Sm (oJ T ou f) (oD T od fd)) := hD
        have rrv1 := zt_rng rv1
        refine lv_aload_n hx hb d_Lw_law_158 rfl (lv_at hl 2 rfl) ?_
        refine lv_aload_n hx hb d_Lw_law_159 rfl (lv_at hl 0 rfl) ?_
        refine lv_iload hx hb d_Lw_law_160 (lv_at hl 5 rfl) ?_
        refine lv_iconst (v := 1) hx hb d_Lw_law_162 (by decide) ?_
        refine lv_iadd hx hb d_Lw_law_163 ?_
        refine j_eqi (y := x5) ex5.symm ?_
        refine va_sld hx hb hX hbl hbA hS (zt_in fx5 (by omega) (by omega)) d_Lw_law_164 ?_
        refine lv_topi (fun x14 ex14 => ?_)
        have rx14 := zt_rng x14
        refine lv_i2l (v := (x14).toInt64) hx hb d_Lw_law_165 rfl ?_
        refine lv_topl (fun x15 ex15 => ?_)
        refine lv_bipush (v := 32) hx hb d_Lw_law_166 (by decide) ?_
        refine lv_lshl (v := (x15 <<< ((32 : Int32).toInt64 &&& 63))) hx hb d_Lw_law_168 rfl ?_
        refine lv_topl (fun x16 ex16 => ?_)
        refine lv_aload_n hx hb d_Lw_law_169 rfl (lv_at hl 0 rfl) ?_
        refine lv_iload hx hb d_Lw_law_170 (lv_at hl 5 rfl) ?_
        refine lv_iconst (v := 2) hx hb d_Lw_law_172 (by decide) ?_
        refine lv_iadd hx hb d_Lw_law_173 ?_
        refine j_eqi (y := x9) ex9.symm ?_
        refine va_sld hx hb hX hbl hbA hS (zt_in fx9 (by omega) (by omega)) d_Lw_law_174 ?_
        refine lv_topi (fun x17 ex17 => ?_)
        have rx17 := zt_rng x17
        refine lv_i2l (v := (x17).toInt64) hx hb d_Lw_law_175 rfl ?_
        refine lv_topl (fun x18 ex18 => ?_)
        refine lv_ldc2 (v := (4294967295)) hx hb hown (hts _ k_8_169) d_Lw_law_176 ?_
        refine lv_land hx hb d_Lw_law_179 ?_
        refine lv_topl (fun x19 ex19 => ?_)
        refine lv_lor hx hb d_Lw_law_180 ?_
        refine lv_topl (fun x20 ex20 => ?_)
        refine jl_mi (w := fun u => u) hK hP hD hS hA (va_runV (As := [.long x20]) (rest := [.int rv1]) F (m_write l D T h0 ar Sm x20 H.size hIm) (j_cV (k := 1) (C := "PageScribeModel") hts k_8_120 k_1_12 k_8_117 k_8_118 k_8_119 (by decide +kernel) ⟨Nat.le_of_ble_eq_true rfl, Nat.le_of_ble_eq_true rfl⟩) (j_preV (q0 := 77) (ci := 11) hK hP hD lmL lm_all lm_nd cl_11 (lx_m.trans mW_0) (fun _ _ _ _ h => h) (fun _ _ _ => trivial)) rfl rfl hl.1 rfl (lv_room (Nat.le_of_ble_eq_true rfl)) d_Lw_law_181 ⟨lw_c (by omega), lw_s (by omega)⟩) (fun rv2 u2 H locs hw2 hP hD hS => ?_)
        have hIm_u2 : MI u2 := hw2.1
        have hP : va_P D classes (lW T ad u1 h0 ar u2 (oJ T ou f) (oD T od fd)) H := hP
        have hD : va_D (Rn s.heap.size) (lW T ad u1 h0 ar u2 (oJ T ou f) (oD T od fd)) := hD
        have rrv2 := zt_rng rv2
        have hfr_u2 : (f_frames u2).toInt = 0 := (by rw [show f_frames u2 = f_frames Sm from hw2.2.1.1]; exact hfr)
        have hvv : x20 = x13 := by subst_vars; rfl
        have hwe := wr_eq hln hw1.2 (by rw [← hvv]; exact hw2.2.2)
        have heq := hwe.1
        have hln_u2 := hwe.2
        refine lv_icmp_eq (tgt := 488) hx hb d_Lw_law_184 (by decide) (fun c184_1 => ?_) (fun c184_1 => ?_)
        · have fc184_1 : rv1.toInt = rv2.toInt := zt_eq (show rv1.toInt = _ from rfl) (show rv2.toInt = _ from rfl) c184_1
          refine lv_iinc (v := (i + 3)) (lv' := [(5, .int (i + 3)), (0, .ref b), (1, .ref (ad 0)), (2, .ref h0), (3, .ref ou), (4, .ref od)]) hx hb d_Lw_law_488 hl (k := 5) rfl (by first | rfl | decide) (by decide) rfl (fun ls hl => ?_)
          obtain ⟨x21, ex21⟩ : ∃ z, z = (i + 3) := ⟨_, rfl⟩
          rw [← ex21] at hl
          have fx21 : x21.toInt = (i.toInt + 3) := by rw [ex21]; exact (zt_add (show i.toInt = _ from rfl) tI_3 (by omega) (by omega)).trans (by omega)
          have hl : lv_has ls 9 [(5, .int x21), (0, .ref b), (1, .ref (ad 0)), (2, .ref h0), (3, .ref ou), (4, .ref od)] := hl
          refine lv_goto (tgt := 48) hx hb d_Lw_law_491 (by decide) ?_
          exact ih k9 (by omega) x21 u1 u2 f fd H locs _ _ _ ⟨by omega, by omega, by omega⟩ hIc_u1 hIm_u2 hfr_u2 hln_u2 ⟨by omega, by omega⟩ hP hD hS (lv_sub hl [1, 2, 3, 4, 5, 0] rfl)
        · have fc184_1 : ¬ rv1.toInt = rv2.toInt := zt_ne (show rv1.toInt = _ from rfl) (show rv2.toInt = _ from rfl) c184_1
          exfalso; omega
      by_cases h_1_1 : x4.toInt = 1
      · refine lv_tableIn (off := 125) (tgt := 189) hx hb d_Lw_law_64 (by omega) (by omega) (by rw [show x4.toInt = 1 from h_1_1]; decide +kernel) (by decide) ?_
        refine lv_aload_n hx hb d_Lw_law_189 rfl (lv_at hl 1 rfl) ?_
        refine lv_aload_n hx hb d_Lw_law_190 rfl (lv_at hl 0 rfl) ?_
        refine lv_iload hx hb d_Lw_law_191 (lv_at hl 5 rfl) ?_
        refine lv_iconst (v := 1) hx hb d_Lw_law_193 (by decide) ?_
        refine lv_iadd hx hb d_Lw_law_194 ?_
        refine lv_topi (fun x22 ex22 => ?_)
        have fx22 : x22.toInt = (i.toInt + 1) := by rw [ex22]; exact (zt_add (show i.toInt = _ from rfl) tI_1 (by omega) (by omega)).trans (by omega)
        refine va_sld hx hb hX hbl hbA hS (zt_in fx22 (by omega) (by omega)) d_Lw_law_195 ?_
        refine lv_topi (fun x23 ex23 => ?_)
        have rx23 := zt_rng x23
        refine lv_aload_n hx hb d_Lw_law_196 rfl (lv_at hl 3 rfl) ?_
        refine jl_hj hK hP hD hS hA (j_runSW (k := 3) (As := [.ref (ad 0), .int x23, .ref ou]) (rest := []) F (h_run l hfl D T ad g (Rn s.heap.size) Sc ou f x23 q69 H.size hIc hou) k_2_224 k_1_0 k_2_222 k_2_223 (by decide +kernel) ⟨Nat.le_of_ble_eq_true rfl, Nat.le_of_ble_eq_true rfl⟩ (j_preS hK hP hD ljL lj_all lj_nd (fun _ _ _ _ h => ⟨EC.calling h.1, EY.calling h.2⟩) (fun U hU hW => ⟨EC.at hS hA hU hW hEC, EY.at hS hSt hU hW h69⟩)) rfl hl.1 (Nat.le_of_ble_eq_true rfl) d_Lw_law_197 ⟨lw_c (show cells + 1 ≤ 601024 by omega), lw_s (show slots + 6 ≤ 7293000 by omega)⟩) (fun rv3 u0 H locs hw3 hP hD hS => ?_)
        obtain ⟨u3, fn1⟩ := u0
        have hw3 : CIv u3 ∧ (1 ≤ x23.toInt ∧ x23.toInt ≤ 500 → (f_xr_length u3).toInt = 0) ∧ (x23.toInt < 1 ∨ 500 < x23.toInt → f_xr_length u3 = f_xr_length Sc) := hw3
        show W p l e room_1 s m #[Value.ref b] below meth c H locs (cells + 1) (slots + 6) (lw_Z below #[Value.ref b] s) (F0 m (197 + 3) ls [.int rv3])
        have hP : va_P D classes (lW T ad u3 h0 ar Sm (oJ T ou fn1) (oD T od fd)) H := hP
        have hD : va_D (Rn s.heap.size) (lW T ad u3 h0 ar Sm (oJ T ou fn1) (oD T od fd)) := hD
        refine lv_istore (lv' := [(6, .int rv3), (0, .ref b), (1, .ref (ad 0)), (2, .ref h0), (3, .ref ou), (4, .ref od), (5, .int i)]) hx hb d_Lw_law_200 hl (by decide) rfl (fun ls hl => ?_)
        refine lv_aload_n hx hb d_Lw_law_202 rfl (lv_at hl 3 rfl) ?_
        refine lv_aload_n hx hb d_Lw_law_203 rfl (lv_at hl 1 rfl) ?_
        refine lv_iload hx hb d_Lw_law_204 (lv_at hl 6 rfl) ?_
        refine lv_iconst (v := 1) hx hb d_Lw_law_206 (by decide) ?_
        refine lv_iadd hx hb d_Lw_law_207 ?_
        refine j_eqi (y := x22) ex22.symm ?_
        refine va_sld hx hb hX hbl hbA hS (zt_in fx22 (by omega) (by omega)) d_Lw_law_208 ?_
        refine lv_topi (fun x24 ex24 => ?_)
        have rx24 := zt_rng x24
        refine jl_mi (w := fun u => u) hK hP hD hS hA (va_runV (As := [.int x24]) (rest := []) F (m_run l D T h0 ar Sm x24 H.size hIm hfr) (j_cV (k := 1) (C := "PageScribeModel") hts k_7_60 k_1_12 k_7_57 k_7_58 k_7_59 (by decide +kernel) ⟨Nat.le_of_ble_eq_true rfl, Nat.le_of_ble_eq_true rfl⟩) (j_preV (q0 := 77) (ci := 11) hK hP hD lmL lm_all lm_nd cl_11 (lx_m.trans mW_0) (fun _ _ _ _ h => h) (fun _ _ _ => trivial)) rfl rfl hl.1 rfl (lv_room (Nat.le_of_ble_eq_true rfl)) d_Lw_law_209 ⟨lw_c (by omega), lw_s (by omega)⟩) (fun rv4 u4 H locs hw4 hP hD hS => ?_)
        have hIm_u4 : MI u4 := hw4.1
        have hP : va_P D classes (lW T ad u3 h0 ar u4 (oJ T ou fn1) (oD T od fd)) H := hP
        have hD : va_D (Rn s.heap.size) (lW T ad u3 h0 ar u4 (oJ T ou fn1) (oD T od fd)) := hD
        have rrv4 := zt_rng rv4
        have hfr_u4 : (f_frames u4).toInt = 0 := hw4.2.1
        have hpp : x24 = x23 := by subst_vars; rfl
        have hln_u4 : (f_length u4).toInt = (f_xr_length u3).toInt := by
          have a1 := hw3.2.1
          have a2 := hw3.2.2
          have a3 := hw4.2.2.1
          have a4 := hw4.2.2.2
          rw [hpp] at a3 a4
          by_cases q : 1 ≤ x23.toInt ∧ x23.toInt ≤ 500
          · rw [a1 q, a3 q]
          · have q2 : x23.toInt < 1 ∨ 500 < x23.toInt := by omega
            rw [a2 q2, a4 q2]; exact hln
        refine lv_istore (lv' := [(7, .int rv4), (6, .int rv3), (0, .ref b), (1, .ref (ad 0)), (2, .ref h0), (3, .ref ou), (4, .ref od), (5, .int i)]) hx hb d_Lw_law_212 hl (by decide) rfl (fun ls hl => ?_)
        refine lv_goto (tgt := 488) hx hb d_Lw_law_214 (by decide) ?_
        refine lv_iinc (v := (i + 3)) (lv' := [(5, .int (i + 3)), (7, .int rv4), (6, .int rv3), (0, .ref b), (1, .ref (ad 0)), (2, .ref h0), (3, .ref ou), (4, .ref od)]) hx hb d_Lw_law_488 hl (k := 7) rfl (by first | rfl | decide) (by decide) rfl (fun ls hl => ?_)
        obtain ⟨x25, ex25⟩ : ∃ z, z = (i + 3) := ⟨_, rfl⟩
        rw [← ex25] at hl
        have fx25 : x25.toInt = (i.toInt + 3) := by rw [ex25]; exact (zt_add (show i.toInt = _ from rfl) tI_3 (by omega) (by omega)).trans (by omega)
        have hl : lv_has ls 9 [(5, .int x25), (7, .int rv4), (6, .int rv3), (0, .ref b), (1, .ref (ad 0)), (2, .ref h0), (3, .ref ou), (4, .ref od)] := hl
        refine lv_goto (tgt := 48) hx hb d_Lw_law_491 (by decide) ?_
        exact ih k9 (by omega) x25 u3 u4 fn1 fd H locs _ _ _ ⟨by omega, by omega, by omega⟩ hw3.1 hIm_u4 hfr_u4 hln_u4 ⟨by omega, by omega⟩ hP hD hS (lv_sub hl [3, 4, 5, 6, 7, 0] rfl)
      by_cases h_2_1 : x4.toInt = 2
      · refine lv_tableIn (off := 153) (tgt := 217) hx hb d_Lw_law_64 (by omega) (by omega) (by rw [show x4.toInt = 2 from h_2_1]; decide +kernel) (by decide) ?_
        refine lv_aload_n hx hb d_Lw_law_217 rfl (lv_at hl 1 rfl) ?_
        refine jl_ci (w := (fun _ => Sc)) hK hP hD hS hA (va_runV (As := []) (rest := []) F (c_Ps_steps l D T ad Sc H.size) (j_cV (k := 0) (C := "PageScribe") hts k_2_88 k_1_1 k_2_85 k_2_86 k_2_87 (by decide +kernel) ⟨Nat.le_of_ble_eq_true rfl, Nat.le_of_ble_eq_true rfl⟩) (j_preV (q0 := 2) (ci := 10) hK hP hD lcL lc_all lc_nd rfl (lx_c.trans (ce_0 _ _ _)) (fun _ _ _ _ h => h) (fun _ _ _ => trivial)) rfl rfl hl.1 rfl (lv_room (Nat.le_of_ble_eq_true rfl)) d_Lw_law_218 ⟨lw_c (by omega), lw_s (by omega)⟩) (fun rv5 u5 H locs hw5 hP hD hS => ?_)
        have hP : va_P D classes (lW T ad Sc h0 ar Sm (oJ T ou f) (oD T od fd)) H := hP
        have hD : va_D (Rn s.heap.size) (lW T ad Sc h0 ar Sm (oJ T ou f) (oD T od fd)) := hD
        have rrv5 := zt_rng rv5
        refine lv_pop hx hb d_Lw_law_221 rfl ?_
        refine lv_aload_n hx hb d_Lw_law_222 rfl (lv_at hl 2 rfl) ?_
        refine jl_mi (w := fun u => u) hK hP hD hS hA (va_runV (As := []) (rest := []) F (m_steps l D T h0 ar Sm  H.size hIm) (j_cV (k := 0) (C := "PageScribeModel") hts k_8_125 k_1_12 k_8_122 k_8_123 k_8_124 (by decide +kernel) ⟨Nat.le_of_ble_eq_true rfl, Nat.le_of_ble_eq_true rfl⟩) (j_preV (q0 := 77) (ci := 11) hK hP hD lmL lm_all lm_nd cl_11 (lx_m.trans mW_0) (fun _ _ _ _ h => h) (fun _ _ _ => trivial)) rfl rfl hl.1 rfl (lv_room (Nat.le_of_ble_eq_true rfl)) d_Lw_law_223 ⟨lw_c (by omega), lw_s (by omega)⟩) (fun rv6 u6 H locs hw6 hP hD hS => ?_)
        have hIm_u6 : MI u6 := hw6.1
        have hP : va_P D classes (lW T ad Sc h0 ar u6 (oJ T ou f) (oD T od fd)) H := hP
        have hD : va_D (Rn s.heap.size) (lW T ad Sc h0 ar u6 (oJ T ou f) (oD T od fd)) := hD
        have rrv6 := zt_rng rv6
        have hfr_u6 : (f_frames u6).toInt = 0 := (by rw [show f_frames u6 = f_frames Sm from hw6.2.2.1]; exact hfr)
        have hln_u6 : (f_length u6).toInt = (f_xr_length Sc).toInt := by rw [show f_length u6 = f_length Sm from hw6.2.1.1, show f_xr_length Sc = f_xr_length Sc from rfl]; exact hln
        refine lv_pop hx hb d_Lw_law_226 rfl ?_
        refine lv_goto (tgt := 488) hx hb d_Lw_law_227 (by decide) ?_
        refine lv_iinc (v := (i + 3)) (lv' := [(5, .int (i + 3)), (0, .ref b), (1, .ref (ad 0)), (2, .ref h0), (3, .ref ou), (4, .ref od)]) hx hb d_Lw_law_488 hl (k := 5) rfl (by first | rfl | decide) (by decide) rfl (fun ls hl => ?_)
        obtain ⟨x26, ex26⟩ : ∃ z, z = (i + 3) := ⟨_, rfl⟩
        rw [← ex26] at hl
        have fx26 : x26.toInt = (i.toInt + 3) := by rw [ex26]; exact (zt_add (show i.toInt = _ from rfl) tI_3 (by omega) (by omega)).trans (by omega)
        have hl : lv_has ls 9 [(5, .int x26), (0, .ref b), (1, .ref (ad 0)), (2, .ref h0), (3, .ref ou), (4, .ref od)] := hl
        refine lv_goto (tgt := 48) hx hb d_Lw_law_491 (by decide) ?_
        exact ih k9 (by omega) x26 Sc u6 f fd H locs _ _ _ ⟨by omega, by omega, by omega⟩ hIc hIm_u6 hfr_u6 hln_u6 ⟨by omega, by omega⟩ hP hD hS (lv_sub hl [1, 2, 3, 4, 5, 0] rfl)
      by_cases h_3_1 : x4.toInt = 3
      · refine lv_tableIn (off := 166) (tgt := 230) hx hb d_Lw_law_64 (by omega) (by omega) (by rw [show x4.toInt = 3 from h_3_1]; decide +kernel) (by decide) ?_
        refine lv_aload_n hx hb d_Lw_law_230 rfl (lv_at hl 1 rfl) ?_
        refine jl_ci (w := (fun _ => Sc)) hK hP hD hS hA (va_runV (As := []) (rest := []) F (c_Ps_fault l D T ad Sc H.size) (j_cV (k := 0) (C := "PageScribe") hts k_2_92 k_1_1 k_2_89 k_2_90 k_2_91 (by decide +kernel) ⟨Nat.le_of_ble_eq_true rfl, Nat.le_of_ble_eq_true rfl⟩) (j_preV (q0 := 2) (ci := 10) hK hP hD lcL lc_all lc_nd rfl (lx_c.trans (ce_0 _ _ _)) (fun _ _ _ _ h => h) (fun _ _ _ => trivial)) rfl rfl hl.1 rfl (lv_room (Nat.le_of_ble_eq_true rfl)) d_Lw_law_231 ⟨lw_c (by omega), lw_s (by omega)⟩) (fun rv7 u7 H locs hw7 hP hD hS => ?_)
        have hP : va_P D classes (lW T ad Sc h0 ar Sm (oJ T ou f) (oD T od fd)) H := hP
        have hD : va_D (Rn s.heap.size) (lW T ad Sc h0 ar Sm (oJ T ou f) (oD T od fd)) := hD
        have rrv7 := zt_rng rv7
        refine lv_pop hx hb d_Lw_law_234 rfl ?_
        refine lv_aload_n hx hb d_Lw_law_235 rfl (lv_at hl 2 rfl) ?_
        refine jl_mi (w := fun u => u) hK hP hD hS hA (va_runV (As := []) (rest := []) F (m_fault l D T h0 ar Sm  H.size hIm) (j_cV (k := 0) (C := "PageScribeModel") hts k_8_129 k_1_12 k_8_126 k_8_127 k_8_128 (by decide +kernel) ⟨Nat.le_of_ble_eq_true rfl, Nat.le_of_ble_eq_true rfl⟩) (j_preV (q0 := 77) (ci := 11) hK hP hD lmL lm_all lm_nd cl_11 (lx_m.trans mW_0) (fun _ _ _ _ h => h) (fun _ _ _ => trivial)) rfl rfl hl.1 rfl (lv_room (Nat.le_of_ble_eq_true rfl)) d_Lw_law_236 ⟨lw_c (by omega), lw_s (by omega)⟩) (fun rv8 u8 H locs hw8 hP hD hS => ?_)
        have hIm_u8 : MI u8 := hw8.1
        have hP : va_P D classes (lW T ad Sc h0 ar u8 (oJ T ou f) (oD T od fd)) H := hP
        have hD : va_D (Rn s.heap.size) (lW T ad Sc h0 ar u8 (oJ T ou f) (oD T od fd)) := hD
        have rrv8 := zt_rng rv8
        have hfr_u8 : (f_frames u8).toInt = 0 := (by rw [show f_frames u8 = f_frames Sm from hw8.2.2.1]; exact hfr)
        have hln_u8 : (f_length u8).toInt = (f_xr_length Sc).toInt := by rw [show f_length u8 = f_length Sm from hw8.2.1.1, show f_xr_length Sc = f_xr_length Sc from rfl]; exact hln
        refine lv_pop hx hb d_Lw_law_239 rfl ?_
        refine lv_goto (tgt := 488) hx hb d_Lw_law_240 (by decide) ?_
        refine lv_iinc (v := (i + 3)) (lv' := [(5, .int (i + 3)), (0, .ref b), (1, .ref (ad 0)), (2, .ref h0), (3, .ref ou), (4, .ref od)]) hx hb d_Lw_law_488 hl (k := 5) rfl (by first | rfl | decide) (by decide) rfl (fun ls hl => ?_)
        obtain ⟨x27, ex27⟩ : ∃ z, z = (i + 3) := ⟨_, rfl⟩
        rw [← ex27] at hl
        have fx27 : x27.toInt = (i.toInt + 3) := by rw [ex27]; exact (zt_add (show i.toInt = _ from rfl) tI_3 (by omega) (by omega)).trans (by omega)
        have hl : lv_has ls 9 [(5, .int x27), (0, .ref b), (1, .ref (ad 0)), (2, .ref h0), (3, .ref ou), (4, .ref od)] := hl
        refine lv_goto (tgt := 48) hx hb d_Lw_law_491 (by decide) ?_
        exact ih k9 (by omega) x27 Sc u8 f fd H locs _ _ _ ⟨by omega, by omega, by omega⟩ hIc hIm_u8 hfr_u8 hln_u8 ⟨by omega, by omega⟩ hP hD hS (lv_sub hl [1, 2, 3, 4, 5, 0] rfl)
      by_cases h_4_1 : x4.toInt = 4
      · refine lv_tableIn (off := 179) (tgt := 243) hx hb d_Lw_law_64 (by omega) (by omega) (by rw [show x4.toInt = 4 from h_4_1]; decide +kernel) (by decide) ?_
        refine lv_aload_n hx hb d_Lw_law_243 rfl (lv_at hl 1 rfl) ?_
        refine lv_aload_n hx hb d_Lw_law_244 rfl (lv_at hl 0 rfl) ?_
        refine lv_iload hx hb d_Lw_law_245 (lv_at hl 5 rfl) ?_
        refine lv_iconst (v := 1) hx hb d_Lw_law_247 (by decide) ?_
        refine lv_iadd hx hb d_Lw_law_248 ?_
        refine lv_topi (fun x28 ex28 => ?_)
        have fx28 : x28.toInt = (i.toInt + 1) := by rw [ex28]; exact (zt_add (show i.toInt = _ from rfl) tI_1 (by omega) (by omega)).trans (by omega)
        refine va_sld hx hb hX hbl hbA hS (zt_in fx28 (by omega) (by omega)) d_Lw_law_249 ?_
        refine lv_topi (fun x29 ex29 => ?_)
        have rx29 := zt_rng x29
        refine lv_i2d hx hb d_Lw_law_250 ?_
        refine lv_ldc2d (v := 4593671619917905920) hx hb hown (hts _ k_8_170) d_Lw_law_251 ?_
        refine lv_dmul hx hb d_Lw_law_254 (dm_ok _) ?_
        refine jl_ci (w := (fun u => u)) hK hP hD hS hA (va_runV (As := [.double (FP.dmul (FP.i2d x29) 4593671619917905920)]) (rest := []) F (c_Ps_feed l D T ad Sc (FP.dmul (FP.i2d x29) 4593671619917905920) H.size hIc (dm_N _)) (j_cV (k := 1) (C := "PageScribe") hts k_2_96 k_1_1 k_2_93 k_2_94 k_2_95 (by decide +kernel) ⟨Nat.le_of_ble_eq_true rfl, Nat.le_of_ble_eq_true rfl⟩) (j_preV (q0 := 2) (ci := 10) hK hP hD lcL lc_all lc_nd rfl (lx_c.trans (ce_0 _ _ _)) (fun _ _ _ _ h => h) (fun _ _ _ => trivial)) rfl rfl hl.1 rfl (lv_room (Nat.le_of_ble_eq_true rfl)) d_Lw_law_255 ⟨lw_c (by omega), lw_s (by omega)⟩) (fun rv9 u9 H locs hw9 hP hD hS => ?_)
        have hIc_u9 : CIv u9 := hw9.1
        have hP : va_P D classes (lW T ad u9 h0 ar Sm (oJ T ou f) (oD T od fd)) H := hP
        have hD : va_D (Rn s.heap.size) (lW T ad u9 h0 ar Sm (oJ T ou f) (oD T od fd)) := hD
        have rrv9 := zt_rng rv9
        refine lv_pop hx hb d_Lw_law_258 rfl ?_
        refine lv_aload_n hx hb d_Lw_law_259 rfl (lv_at hl 2 rfl) ?_
        refine lv_aload_n hx hb d_Lw_law_260 rfl (lv_at hl 0 rfl) ?_
        refine lv_iload hx hb d_Lw_law_261 (lv_at hl 5 rfl) ?_
        refine lv_iconst (v := 1) hx hb d_Lw_law_263 (by decide) ?_
        refine lv_iadd hx hb d_Lw_law_264 ?_
        refine j_eqi (y := x28) ex28.symm ?_
        refine va_sld hx hb hX hbl hbA hS (zt_in fx28 (by omega) (by omega)) d_Lw_law_265 ?_
        refine lv_topi (fun x30 ex30 => ?_)
        have rx30 := zt_rng x30
        refine lv_i2d hx hb d_Lw_law_266 ?_
        refine lv_ldc2d (v := 4593671619917905920) hx hb hown (hts _ k_8_170) d_Lw_law_267 ?_
        refine lv_dmul hx hb d_Lw_law_270 (dm_ok _) ?_
        refine jl_mi (w := fun u => u) hK hP hD hS hA (va_runV (As := [.double (FP.dmul (FP.i2d x30) 4593671619917905920)]) (rest := []) F (m_feed l D T h0 ar Sm (FP.dmul (FP.i2d x30) 4593671619917905920) H.size hIm (dm_N _)) (j_cV (k := 1) (C := "PageScribeModel") hts k_8_133 k_1_12 k_8_130 k_8_131 k_8_132 (by decide +kernel) ⟨Nat.le_of_ble_eq_true rfl, Nat.le_of_ble_eq_true rfl⟩) (j_preV (q0 := 77) (ci := 11) hK hP hD lmL lm_all lm_nd cl_11 (lx_m.trans mW_0) (fun _ _ _ _ h => h) (fun _ _ _ => trivial)) rfl rfl hl.1 rfl (lv_room (Nat.le_of_ble_eq_true rfl)) d_Lw_law_271 ⟨lw_c (by omega), lw_s (by omega)⟩) (fun rv10 u10 H locs hw10 hP hD hS => ?_)
        have hIm_u10 : MI u10 := hw10.1
        have hP : va_P D classes (lW T ad u9 h0 ar u10 (oJ T ou f) (oD T od fd)) H := hP
        have hD : va_D (Rn s.heap.size) (lW T ad u9 h0 ar u10 (oJ T ou f) (oD T od fd)) := hD
        have rrv10 := zt_rng rv10
        have hfr_u10 : (f_frames u10).toInt = 0 := (by rw [show f_frames u10 = f_frames Sm from hw10.2.2.1]; exact hfr)
        have hln_u10 : (f_length u10).toInt = (f_xr_length u9).toInt := by rw [show f_length u10 = f_length Sm from hw10.2.1.1, show f_xr_length u9 = f_xr_length Sc from hw9.2]; exact hln
        refine lv_pop hx hb d_Lw_law_274 rfl ?_
        refine lv_goto (tgt := 488) hx hb d_Lw_law_275 (by decide) ?_
        refine lv_iinc (v := (i + 3)) (lv' := [(5, .int (i + 3)), (0, .ref b), (1, .ref (ad 0)), (2, .ref h0), (3, .ref ou), (4, .ref od)]) hx hb d_Lw_law_488 hl (k := 5) rfl (by first | rfl | decide) (by decide) rfl (fun ls hl => ?_)
        obtain ⟨x31, ex31⟩ : ∃ z, z = (i + 3) := ⟨_, rfl⟩
        rw [← ex31] at hl
        have fx31 : x31.toInt = (i.toInt + 3) := by rw [ex31]; exact (zt_add (show i.toInt = _ from rfl) tI_3 (by omega) (by omega)).trans (by omega)
        have hl : lv_has ls 9 [(5, .int x31), (0, .ref b), (1, .ref (ad 0)), (2, .ref h0), (3, .ref ou), (4, .ref od)] := hl
        refine lv_goto (tgt := 48) hx hb d_Lw_law_491 (by decide) ?_
        exact ih k9 (by omega) x31 u9 u10 f fd H locs _ _ _ ⟨by omega, by omega, by omega⟩ hIc_u9 hIm_u10 hfr_u10 hln_u10 ⟨by omega, by omega⟩ hP hD hS (lv_sub hl [1, 2, 3, 4, 5, 0] rfl)
      by_cases h_5_1 : x4.toInt = 5
      · refine lv_tableIn (off := 214) (tgt := 278) hx hb d_Lw_law_64 (by omega) (by omega) (by rw [show x4.toInt = 5 from h_5_1]; decide +kernel) (by decide) ?_
        refine lv_aload_n hx hb d_Lw_law_278 rfl (lv_at hl 1 rfl) ?_
        refine jl_ci (w := (fun _ => Sc)) hK hP hD hS hA (va_runV (As := []) (rest := []) F (c_Ps_depth l D T ad Sc H.size) (j_cV (k := 0) (C := "PageScribe") hts k_2_108 k_1_1 k_2_105 k_2_106 k_2_107 (by decide +kernel) ⟨Nat.le_of_ble_eq_true rfl, Nat.le_of_ble_eq_true rfl⟩) (j_preV (q0 := 2) (ci := 10) hK hP hD lcL lc_all lc_nd rfl (lx_c.trans (ce_0 _ _ _)) (fun _ _ _ _ h => h) (fun _ _ _ => trivial)) rfl rfl hl.1 rfl (lv_room (Nat.le_of_ble_eq_true rfl)) d_Lw_law_279 ⟨lw_c (by omega), lw_s (by omega)⟩) (fun rv11 u11 H locs hw11 hP hD hS => ?_)
        have hP : va_P D classes (lW T ad Sc h0 ar Sm (oJ T ou f) (oD T od fd)) H := hP
        have hD : va_D (Rn s.heap.size) (lW T ad Sc h0 ar Sm (oJ T ou f) (oD T od fd)) := hD
        have rrv11 := zt_rng rv11
        refine lv_pop hx hb d_Lw_law_282 rfl ?_
        refine lv_aload_n hx hb d_Lw_law_283 rfl (lv_at hl 2 rfl) ?_
        refine jl_mi (w := fun u => u) hK hP hD hS hA (va_runV (As := []) (rest := []) F (m_depth l D T h0 ar Sm  H.size hIm) (j_cV (k := 0) (C := "PageScribeModel") hts k_8_137 k_1_12 k_8_134 k_8_135 k_8_136 (by decide +kernel) ⟨Nat.le_of_ble_eq_true rfl, Nat.le_of_ble_eq_true rfl⟩) (j_preV (q0 := 77) (ci := 11) hK hP hD lmL lm_all lm_nd cl_11 (lx_m.trans mW_0) (fun _ _ _ _ h => h) (fun _ _ _ => trivial)) rfl rfl hl.1 rfl (lv_room (Nat.le_of_ble_eq_true rfl)) d_Lw_law_284 ⟨lw_c (by omega), lw_s (by omega)⟩) (fun rv12 u12 H locs hw12 hP hD hS => ?_)
        have hIm_u12 : MI u12 := hw12.1
        have hP : va_P D classes (lW T ad Sc h0 ar u12 (oJ T ou f) (oD T od fd)) H := hP
        have hD : va_D (Rn s.heap.size) (lW T ad Sc h0 ar u12 (oJ T ou f) (oD T od fd)) := hD
        have rrv12 := zt_rng rv12
        have hfr_u12 : (f_frames u12).toInt = 0 := (by rw [show f_frames u12 = f_frames Sm from hw12.2.2.1]; exact hfr)
        have hln_u12 : (f_length u12).toInt = (f_xr_length Sc).toInt := by rw [show f_length u12 = f_length Sm from hw12.2.1.1, show f_xr_length Sc = f_xr_length Sc from rfl]; exact hln
        refine lv_pop hx hb d_Lw_law_287 rfl ?_
        refine lv_goto (tgt := 488) hx hb d_Lw_law_288 (by decide) ?_
        refine lv_iinc (v := (i + 3)) (lv' := [(5, .int (i + 3)), (0, .ref b), (1, .ref (ad 0)), (2, .ref h0), (3, .ref ou), (4, .ref od)]) hx hb d_Lw_law_488 hl (k := 5) rfl (by first | rfl | decide) (by decide) rfl (fun ls hl => ?_)
        obtain ⟨x32, ex32⟩ : ∃ z, z = (i + 3) := ⟨_, rfl⟩
        rw [← ex32] at hl
        have fx32 : x32.toInt = (i.toInt + 3) := by rw [ex32]; exact (zt_add (show i.toInt = _ from rfl) tI_3 (by omega) (by omega)).trans (by omega)
        have hl : lv_has ls 9 [(5, .int x32), (0, .ref b), (1, .ref (ad 0)), (2, .ref h0), (3, .ref ou), (4, .ref od)] := hl
        refine lv_goto (tgt := 48) hx hb d_Lw_law_491 (by decide) ?_
        exact ih k9 (by omega) x32 Sc u12 f fd H locs _ _ _ ⟨by omega, by omega, by omega⟩ hIc hIm_u12 hfr_u12 hln_u12 ⟨by omega, by omega⟩ hP hD hS (lv_sub hl [1, 2, 3, 4, 5, 0] rfl)
      by_cases h_6_1 : x4.toInt = 6
      · refine lv_tableIn (off := 227) (tgt := 291) hx hb d_Lw_law_64 (by omega) (by omega) (by rw [show x4.toInt = 6 from h_6_1]; decide +kernel) (by decide) ?_
        refine lv_aload_n hx hb d_Lw_law_291 rfl (lv_at hl 1 rfl) ?_
        refine lv_aload_n hx hb d_Lw_law_292 rfl (lv_at hl 0 rfl) ?_
        refine lv_iload hx hb d_Lw_law_293 (lv_at hl 5 rfl) ?_
        refine lv_iconst (v := 1) hx hb d_Lw_law_295 (by decide) ?_
        refine lv_iadd hx hb d_Lw_law_296 ?_
        refine lv_topi (fun x33 ex33 => ?_)
        have fx33 : x33.toInt = (i.toInt + 1) := by rw [ex33]; exact (zt_add (show i.toInt = _ from rfl) tI_1 (by omega) (by omega)).trans (by omega)
        refine va_sld hx hb hX hbl hbA hS (zt_in fx33 (by omega) (by omega)) d_Lw_law_297 ?_
        refine lv_topi (fun x34 ex34 => ?_)
        have rx34 := zt_rng x34
        refine lv_aload_n hx hb d_Lw_law_298 rfl (lv_at hl 3 rfl) ?_
        refine jl_hj hK hP hD hS hA (j_runSW (k := 3) (As := [.ref (ad 0), .int x34, .ref ou]) (rest := []) F (h_kind l hfl D T ad g (Rn s.heap.size) Sc ou f x34 q129 H.size hIc hou) k_6_27 k_1_0 k_6_25 k_6_26 (by decide +kernel) ⟨Nat.le_of_ble_eq_true rfl, Nat.le_of_ble_eq_true rfl⟩ (j_preS hK hP hD ljL lj_all lj_nd (fun _ _ _ _ h => ⟨EC.calling h.1, EY.calling h.2⟩) (fun U hU hW => ⟨EC.at hS hA hU hW hEC, EY.at hS hSt hU hW h129⟩)) rfl hl.1 (Nat.le_of_ble_eq_true rfl) d_Lw_law_299 ⟨lw_c (show cells + 1 ≤ 601024 by omega), lw_s (show slots + 6 ≤ 7293000 by omega)⟩) (fun rv13 u0 H locs hw13 hP hD hS => ?_)
        obtain ⟨u13, fn2⟩ := u0
        have hw13 : CIv u13 ∧ f_xr_length u13 = f_xr_length Sc := hw13
        show W p l e room_1 s m #[Value.ref b] below meth c H locs (cells + 1) (slots + 6) (lw_Z below #[Value.ref b] s) (F0 m (299 + 3) ls [.int rv13])
        have hP : va_P D classes (lW T ad u13 h0 ar Sm (oJ T ou fn2) (oD T od fd)) H := hP
        have hD : va_D (Rn s.heap.size) (lW T ad u13 h0 ar Sm (oJ T ou fn2) (oD T od fd)) := hD
        refine lv_istore (lv' := [(6, .int rv13), (0, .ref b), (1, .ref (ad 0)), (2, .ref h0), (3, .ref ou), (4, .ref od), (5, .int i)]) hx hb d_Lw_law_302 hl (by decide) rfl (fun ls hl => ?_)
        refine lv_aload_n hx hb d_Lw_law_304 rfl (lv_at hl 3 rfl) ?_
        refine lv_aload_n hx hb d_Lw_law_305 rfl (lv_at hl 1 rfl) ?_
        refine lv_iload hx hb d_Lw_law_306 (lv_at hl 6 rfl) ?_
        refine lv_iconst (v := 1) hx hb d_Lw_law_308 (by decide) ?_
        refine lv_iadd hx hb d_Lw_law_309 ?_
        refine j_eqi (y := x33) ex33.symm ?_
        refine va_sld hx hb hX hbl hbA hS (zt_in fx33 (by omega) (by omega)) d_Lw_law_310 ?_
        refine lv_topi (fun x35 ex35 => ?_)
        have rx35 := zt_rng x35
        refine jl_mi (w := fun u => u) hK hP hD hS hA (va_runV (As := [.int x35]) (rest := []) F (m_kind l D T h0 ar Sm x35 H.size hIm) (j_cV (k := 1) (C := "PageScribeModel") hts k_8_141 k_1_12 k_8_138 k_8_139 k_8_140 (by decide +kernel) ⟨Nat.le_of_ble_eq_true rfl, Nat.le_of_ble_eq_true rfl⟩) (j_preV (q0 := 77) (ci := 11) hK hP hD lmL lm_all lm_nd cl_11 (lx_m.trans mW_0) (fun _ _ _ _ h => h) (fun _ _ _ => trivial)) rfl rfl hl.1 rfl (lv_room (Nat.le_of_ble_eq_true rfl)) d_Lw_law_311 ⟨lw_c (by omega), lw_s (by omega)⟩) (fun rv14 u14 H locs hw14 hP hD hS => ?_)
        have hIm_u14 : MI u14 := hw14.1
        have hP : va_P D classes (lW T ad u13 h0 ar u14 (oJ T ou fn2) (oD T od fd)) H := hP
        have hD : va_D (Rn s.heap.size) (lW T ad u13 h0 ar u14 (oJ T ou fn2) (oD T od fd)) := hD
        have rrv14 := zt_rng rv14
        have hfr_u14 : (f_frames u14).toInt = 0 := (by rw [show f_frames u14 = f_frames Sm from hw14.2.2.1]; exact hfr)
        have hln_u14 : (f_length u14).toInt = (f_xr_length u13).toInt := by rw [show f_length u14 = f_length Sm from hw14.2.1.1, show f_xr_length u13 = f_xr_length Sc from hw13.2]; exact hln
        refine lv_istore (lv' := [(7, .int rv14), (6, .int rv13), (0, .ref b), (1, .ref (ad 0)), (2, .ref h0), (3, .ref ou), (4, .ref od), (5, .int i)]) hx hb d_Lw_law_314 hl (by decide) rfl (fun ls hl => ?_)
        refine lv_goto (tgt := 488) hx hb d_Lw_law_316 (by decide) ?_
        refine lv_iinc (v := (i + 3)) (lv' := [(5, .int (i + 3)), (7, .int rv14), (6, .int rv13), (0, .ref b), (1, .ref (ad 0)), (2, .ref h0), (3, .ref ou), (4, .ref od)]) hx hb d_Lw_law_488 hl (k := 7) rfl (by first | rfl | decide) (by decide) rfl (fun ls hl => ?_)
        obtain ⟨x36, ex36⟩ : ∃ z, z = (i + 3) := ⟨_, rfl⟩
        rw [← ex36] at hl
        have fx36 : x36.toInt = (i.toInt + 3) := by rw [ex36]; exact (zt_add (show i.toInt = _ from rfl) tI_3 (by omega) (by omega)).trans (by omega)
        have hl : lv_has ls 9 [(5, .int x36), (7, .int rv14), (6, .int rv13), (0, .ref b), (1, .ref (ad 0)), (2, .ref h0), (3, .ref ou), (4, .ref od)] := hl
        refine lv_goto (tgt := 48) hx hb d_Lw_law_491 (by decide) ?_
        exact ih k9 (by omega) x36 u13 u14 fn2 fd H locs _ _ _ ⟨by omega, by omega, by omega⟩ hw13.1 hIm_u14 hfr_u14 hln_u14 ⟨by omega, by omega⟩ hP hD hS (lv_sub hl [3, 4, 5, 6, 7, 0] rfl)
      by_cases h_7_1 : x4.toInt = 7
      · refine lv_tableIn (off := 255) (tgt := 319) hx hb d_Lw_law_64 (by omega) (by omega) (by rw [show x4.toInt = 7 from h_7_1]; decide +kernel) (by decide) ?_
        refine lv_aload_n hx hb d_Lw_law_319 rfl (lv_at hl 1 rfl) ?_
        refine lv_aload_n hx hb d_Lw_law_320 rfl (lv_at hl 0 rfl) ?_
        refine lv_iload hx hb d_Lw_law_321 (lv_at hl 5 rfl) ?_
        refine lv_iconst (v := 1) hx hb d_Lw_law_323 (by decide) ?_
        refine lv_iadd hx hb d_Lw_law_324 ?_
        refine lv_topi (fun x37 ex37 => ?_)
        have fx37 : x37.toInt = (i.toInt + 1) := by rw [ex37]; exact (zt_add (show i.toInt = _ from rfl) tI_1 (by omega) (by omega)).trans (by omega)
        refine va_sld hx hb hX hbl hbA hS (zt_in fx37 (by omega) (by omega)) d_Lw_law_325 ?_
        refine lv_topi (fun x38 ex38 => ?_)
        have rx38 := zt_rng x38
        refine lv_aload_n hx hb d_Lw_law_326 rfl (lv_at hl 3 rfl) ?_
        refine jl_hj hK hP hD hS hA (j_runSW (k := 3) (As := [.ref (ad 0), .int x38, .ref ou]) (rest := []) F (h_number l hfl D T ad g (Rn s.heap.size) Sc ou f x38 q129 q141 H.size hIc hou) k_6_51 k_1_0 k_6_49 k_6_50 (by decide +kernel) ⟨Nat.le_of_ble_eq_true rfl, Nat.le_of_ble_eq_true rfl⟩ (j_preS hK hP hD ljL lj_all lj_nd (fun _ _ _ _ h => ⟨EC.calling h.1, EY.calling h.2.1, EY.calling h.2.2.1, NCi.calling h.2.2.2⟩) (fun U hU hW => ⟨EC.at hS hA hU hW hEC, EY.at hS hSt hU hW h129, EY.at hS hSt hU hW h141, NCi.moved hW.alike hNC⟩)) rfl hl.1 (Nat.le_of_ble_eq_true rfl) d_Lw_law_327 ⟨lw_c (show cells + 1 ≤ 601024 by omega), lw_s (show slots + 6 ≤ 7293000 by omega)⟩) (fun rv15 u0 H locs hw15 hP hD hS => ?_)
        obtain ⟨u15, fn3⟩ := u0
        have hw15 : CIv u15 ∧ f_xr_length u15 = f_xr_length Sc := hw15
        show W p l e room_1 s m #[Value.ref b] below meth c H locs (cells + 1) (slots + 6) (lw_Z below #[Value.ref b] s) (F0 m (327 + 3) ls [.int rv15])
        have hP : va_P D classes (lW T ad u15 h0 ar Sm (oJ T ou fn3) (oD T od fd)) H := hP
        have hD : va_D (Rn s.heap.size) (lW T ad u15 h0 ar Sm (oJ T ou fn3) (oD T od fd)) := hD
        refine lv_istore (lv' := [(6, .int rv15), (0, .ref b), (1, .ref (ad 0)), (2, .ref h0), (3, .ref ou), (4, .ref od), (5, .int i)]) hx hb d_Lw_law_330 hl (by decide) rfl (fun ls hl => ?_)
        refine lv_aload_n hx hb d_Lw_law_332 rfl (lv_at hl 3 rfl) ?_
        refine lv_aload_n hx hb d_Lw_law_333 rfl (lv_at hl 1 rfl) ?_
        refine lv_iload hx hb d_Lw_law_334 (lv_at hl 6 rfl) ?_
        refine lv_iconst (v := 1) hx hb d_Lw_law_336 (by decide) ?_
        refine lv_iadd hx hb d_Lw_law_337 ?_
        refine j_eqi (y := x37) ex37.symm ?_
        refine va_sld hx hb hX hbl hbA hS (zt_in fx37 (by omega) (by omega)) d_Lw_law_338 ?_
        refine lv_topi (fun x39 ex39 => ?_)
        have rx39 := zt_rng x39
        refine jl_mi (w := fun u => u) hK hP hD hS hA (va_runV (As := [.int x39]) (rest := []) F (m_number l D T h0 ar Sm x39 H.size hIm) (j_cV (k := 1) (C := "PageScribeModel") hts k_8_145 k_1_12 k_8_142 k_8_143 k_8_144 (by decide +kernel) ⟨Nat.le_of_ble_eq_true rfl, Nat.le_of_ble_eq_true rfl⟩) (j_preV (q0 := 77) (ci := 11) hK hP hD lmL lm_all lm_nd cl_11 (lx_m.trans mW_0) (fun _ _ _ _ h => h) (fun _ _ _ => trivial)) rfl rfl hl.1 rfl (lv_room (Nat.le_of_ble_eq_true rfl)) d_Lw_law_339 ⟨lw_c (by omega), lw_s (by omega)⟩) (fun rv16 u16 H locs hw16 hP hD hS => ?_)
        have hIm_u16 : MI u16 := hw16.1
        have hP : va_P D classes (lW T ad u15 h0 ar u16 (oJ T ou fn3) (oD T od fd)) H := hP
        have hD : va_D (Rn s.heap.size) (lW T ad u15 h0 ar u16 (oJ T ou fn3) (oD T od fd)) := hD
        have rrv16 := zt_rng rv16
        have hfr_u16 : (f_frames u16).toInt = 0 := (by rw [show f_frames u16 = f_frames Sm from hw16.2.2.1]; exact hfr)
        have hln_u16 : (f_length u16).toInt = (f_xr_length u15).toInt := by rw [show f_length u16 = f_length Sm from hw16.2.1.1, show f_xr_length u15 = f_xr_length Sc from hw15.2]; exact hln
        refine lv_istore (lv' := [(7, .int rv16), (6, .int rv15), (0, .ref b), (1, .ref (ad 0)), (2, .ref h0), (3, .ref ou), (4, .ref od), (5, .int i)]) hx hb d_Lw_law_342 hl (by decide) rfl (fun ls hl => ?_)
        refine lv_goto (tgt := 488) hx hb d_Lw_law_344 (by decide) ?_
        refine lv_iinc (v := (i + 3)) (lv' := [(5, .int (i + 3)), (7, .int rv16), (6, .int rv15), (0, .ref b), (1, .ref (ad 0)), (2, .ref h0), (3, .ref ou), (4, .ref od)]) hx hb d_Lw_law_488 hl (k := 7) rfl (by first | rfl | decide) (by decide) rfl (fun ls hl => ?_)
        obtain ⟨x40, ex40⟩ : ∃ z, z = (i + 3) := ⟨_, rfl⟩
        rw [← ex40] at hl
        have fx40 : x40.toInt = (i.toInt + 3) := by rw [ex40]; exact (zt_add (show i.toInt = _ from rfl) tI_3 (by omega) (by omega)).trans (by omega)
        have hl : lv_has ls 9 [(5, .int x40), (7, .int rv16), (6, .int rv15), (0, .ref b), (1, .ref (ad 0)), (2, .ref h0), (3, .ref ou), (4, .ref od)] := hl
        refine lv_goto (tgt := 48) hx hb d_Lw_law_491 (by decide) ?_
        exact ih k9 (by omega) x40 u15 u16 fn3 fd H locs _ _ _ ⟨by omega, by omega, by omega⟩ hw15.1 hIm_u16 hfr_u16 hln_u16 ⟨by omega, by omega⟩ hP hD hS (lv_sub hl [3, 4, 5, 6, 7, 0] rfl)
      by_cases h_8_1 : x4.toInt = 8
      · refine lv_tableIn (off := 283) (tgt := 347) hx hb d_Lw_law_64 (by omega) (by omega) (by rw [show x4.toInt = 8 from h_8_1]; decide +kernel) (by decide) ?_
        refine lv_aload_n hx hb d_Lw_law_347 rfl (lv_at hl 1 rfl) ?_
        refine lv_aload_n hx hb d_Lw_law_348 rfl (lv_at hl 0 rfl) ?_
        refine lv_iload hx hb d_Lw_law_349 (lv_at hl 5 rfl) ?_
        refine lv_iconst (v := 1) hx hb d_Lw_law_351 (by decide) ?_
        refine lv_iadd hx hb d_Lw_law_352 ?_
        refine lv_topi (fun x41 ex41 => ?_)
        have fx41 : x41.toInt = (i.toInt + 1) := by rw [ex41]; exact (zt_add (show i.toInt = _ from rfl) tI_1 (by omega) (by omega)).trans (by omega)
        refine va_sld hx hb hX hbl hbA hS (zt_in fx41 (by omega) (by omega)) d_Lw_law_353 ?_
        refine lv_topi (fun x42 ex42 => ?_)
        have rx42 := zt_rng x42
        refine lv_aload hx hb d_Lw_law_354 (lv_at hl 4 rfl) ?_
        refine jl_hd hK hP hD hS hA (j_runSW (k := 3) (As := [.ref (ad 0), .int x42, .ref od]) (rest := []) F (h_real l hfl D T ad g (Rn s.heap.size) Sc od fd x42 q129 q148 H.size hIc hod) k_6_77 k_1_0 k_6_75 k_6_76 (by decide +kernel) ⟨Nat.le_of_ble_eq_true rfl, Nat.le_of_ble_eq_true rfl⟩ (j_preS hK hP hD ldL ld_all ld_nd (fun _ _ _ _ h => ⟨EC.calling h.1, EY.calling h.2.1, EY.calling h.2.2.1, NCi.calling h.2.2.2⟩) (fun U hU hW => ⟨EC.at hS hA hU hW hEC, EY.at hS hSt hU hW h129, EY.at hS hSt hU hW h148, NCi.moved hW.alike hNC⟩)) rfl hl.1 (Nat.le_of_ble_eq_true rfl) d_Lw_law_356 ⟨lw_c (show cells + 1 ≤ 601024 by omega), lw_s (show slots + 6 ≤ 7293000 by omega)⟩) (fun rv17 u0 H locs hw17 hP hD hS => ?_)
        obtain ⟨u17, fn4⟩ := u0
        have hw17 : CIv u17 ∧ f_xr_length u17 = f_xr_length Sc := hw17
        show W p l e room_1 s m #[Value.ref b] below meth c H locs (cells + 1) (slots + 6) (lw_Z below #[Value.ref b] s) (F0 m (356 + 3) ls [.int rv17])
        have hP : va_P D classes (lW T ad u17 h0 ar Sm (oJ T ou f) (oD T od fn4)) H := hP
        have hD : va_D (Rn s.heap.size) (lW T ad u17 h0 ar Sm (oJ T ou f) (oD T od fn4)) := hD
        refine lv_istore (lv' := [(6, .int rv17), (0, .ref b), (1, .ref (ad 0)), (2, .ref h0), (3, .ref ou), (4, .ref od), (5, .int i)]) hx hb d_Lw_law_359 hl (by decide) rfl (fun ls hl => ?_)
        refine lv_aload_n hx hb d_Lw_law_361 rfl (lv_at hl 3 rfl) ?_
        refine lv_aload_n hx hb d_Lw_law_362 rfl (lv_at hl 1 rfl) ?_
        refine lv_iload hx hb d_Lw_law_363 (lv_at hl 6 rfl) ?_
        refine lv_iconst (v := 1) hx hb d_Lw_law_365 (by decide) ?_
        refine lv_iadd hx hb d_Lw_law_366 ?_
        refine j_eqi (y := x41) ex41.symm ?_
        refine va_sld hx hb hX hbl hbA hS (zt_in fx41 (by omega) (by omega)) d_Lw_law_367 ?_
        refine lv_topi (fun x43 ex43 => ?_)
        have rx43 := zt_rng x43
        refine jl_md (w := fun u => u) hK hP hD hS hA (va_runV (As := [.int x43]) (rest := []) F (m_real l D T h0 ar Sm x43 H.size hIm) (j_cV (k := 1) (C := "PageScribeModel") hts k_8_152 k_1_12 k_8_149 k_8_150 k_8_151 (by decide +kernel) ⟨Nat.le_of_ble_eq_true rfl, Nat.le_of_ble_eq_true rfl⟩) (j_preV (q0 := 77) (ci := 11) hK hP hD lmL lm_all lm_nd cl_11 (lx_m.trans mW_0) (fun _ _ _ _ h => h) (fun _ _ _ => trivial)) rfl rfl hl.1 rfl (lv_room (Nat.le_of_ble_eq_true rfl)) d_Lw_law_368 ⟨lw_c (by omega), lw_s (by omega)⟩) (fun rv18 u18 H locs hw18 hP hD hS => ?_)
        have hIm_u18 : MI u18 := hw18.1
        have hP : va_P D classes (lW T ad u17 h0 ar u18 (oJ T ou f) (oD T od fn4)) H := hP
        have hD : va_D (Rn s.heap.size) (lW T ad u17 h0 ar u18 (oJ T ou f) (oD T od fn4)) := hD
        have hfr_u18 : (f_frames u18).toInt = 0 := (by rw [show f_frames u18 = f_frames Sm from hw18.2.2.1]; exact hfr)
        have hln_u18 : (f_length u18).toInt = (f_xr_length u17).toInt := by rw [show f_length u18 = f_length Sm from hw18.2.1.1, show f_xr_length u17 = f_xr_length Sc from hw17.2]; exact hln
        refine lv_dstore (lv' := [(7, .double rv18), (6, .int rv17), (0, .ref b), (1, .ref (ad 0)), (2, .ref h0), (3, .ref ou), (4, .ref od), (5, .int i)]) hx hb d_Lw_law_371 hl (by decide) rfl (fun ls hl => ?_)
        refine lv_goto (tgt := 488) hx hb d_Lw_law_373 (by decide) ?_
        refine lv_iinc (v := (i + 3)) (lv' := [(5, .int (i + 3)), (7, .double rv18), (6, .int rv17), (0, .ref b), (1, .ref (ad 0)), (2, .ref h0), (3, .ref ou), (4, .ref od)]) hx hb d_Lw_law_488 hl (k := 7) rfl (by first | rfl | decide) (by decide) rfl (fun ls hl => ?_)
        obtain ⟨x44, ex44⟩ : ∃ z, z = (i + 3) := ⟨_, rfl⟩
        rw [← ex44] at hl
        have fx44 : x44.toInt = (i.toInt + 3) := by rw [ex44]; exact (zt_add (show i.toInt = _ from rfl) tI_3 (by omega) (by omega)).trans (by omega)
        have hl : lv_has ls 9 [(5, .int x44), (7, .double rv18), (6, .int rv17), (0, .ref b), (1, .ref (ad 0)), (2, .ref h0), (3, .ref ou), (4, .ref od)] := hl
        refine lv_goto (tgt := 48) hx hb d_Lw_law_491 (by decide) ?_
        exact ih k9 (by omega) x44 u17 u18 f fn4 H locs _ _ _ ⟨by omega, by omega, by omega⟩ hw17.1 hIm_u18 hfr_u18 hln_u18 ⟨by omega, by omega⟩ hP hD hS (lv_sub hl [3, 4, 5, 6, 7, 0] rfl)
      by_cases h_9_1 : x4.toInt = 9
      · refine lv_tableIn (off := 312) (tgt := 376) hx hb d_Lw_law_64 (by omega) (by omega) (by rw [show x4.toInt = 9 from h_9_1]; decide +kernel) (by decide) ?_
        refine lv_aload_n hx hb d_Lw_law_376 rfl (lv_at hl 1 rfl) ?_
        refine lv_aload_n hx hb d_Lw_law_377 rfl (lv_at hl 0 rfl) ?_
        refine lv_iload hx hb d_Lw_law_378 (lv_at hl 5 rfl) ?_
        refine lv_iconst (v := 1) hx hb d_Lw_law_380 (by decide) ?_
        refine lv_iadd hx hb d_Lw_law_381 ?_
        refine lv_topi (fun x45 ex45 => ?_)
        have fx45 : x45.toInt = (i.toInt + 1) := by rw [ex45]; exact (zt_add (show i.toInt = _ from rfl) tI_1 (by omega) (by omega)).trans (by omega)
        refine va_sld hx hb hX hbl hbA hS (zt_in fx45 (by omega) (by omega)) d_Lw_law_382 ?_
        refine lv_topi (fun x46 ex46 => ?_)
        have rx46 := zt_rng x46
        refine lv_aload_n hx hb d_Lw_law_383 rfl (lv_at hl 0 rfl) ?_
        refine lv_iload hx hb d_Lw_law_384 (lv_at hl 5 rfl) ?_
        refine lv_iconst (v := 2) hx hb d_Lw_law_386 (by decide) ?_
        refine lv_iadd hx hb d_Lw_law_387 ?_
        refine lv_topi (fun x47 ex47 => ?_)
        have fx47 : x47.toInt = (i.toInt + 2) := by rw [ex47]; exact (zt_add (show i.toInt = _ from rfl) tI_2 (by omega) (by omega)).trans (by omega)
        refine va_sld hx hb hX hbl hbA hS (zt_in fx47 (by omega) (by omega)) d_Lw_law_388 ?_
        refine lv_topi (fun x48 ex48 => ?_)
        have rx48 := zt_rng x48
        refine jl_ci (w := (fun _ => Sc)) hK hP hD hS hA (va_runV (As := [.int x46, .int x48]) (rest := []) F (c_Ps_letter l D T ad g (Rn s.heap.size) Sc x46 x48 H.size hIc) (j_cV (k := 2) (C := "PageScribe") hts k_2_112 k_1_1 k_2_109 k_2_110 k_2_111 (by decide +kernel) ⟨Nat.le_of_ble_eq_true rfl, Nat.le_of_ble_eq_true rfl⟩) (j_preV (q0 := 2) (ci := 10) hK hP hD lcL lc_all lc_nd rfl (lx_c.trans (ce_0 _ _ _)) (fun _ _ _ _ h => EC.calling h) (fun U hU hW => EC.at hS hA hU hW hEC)) rfl rfl hl.1 rfl (lv_room (Nat.le_of_ble_eq_true rfl)) d_Lw_law_389 ⟨lw_c (by omega), lw_s (by omega)⟩) (fun rv19 u19 H locs hw19 hP hD hS => ?_)
        have hP : va_P D classes (lW T ad Sc h0 ar Sm (oJ T ou f) (oD T od fd)) H := hP
        have hD : va_D (Rn s.heap.size) (lW T ad Sc h0 ar Sm (oJ T ou f) (oD T od fd)) := hD
        have rrv19 := zt_rng rv19
        refine lv_pop hx hb d_Lw_law_392 rfl ?_
        refine lv_aload_n hx hb d_Lw_law_393 rfl (lv_at hl 2 rfl) ?_
        refine lv_aload_n hx hb d_Lw_law_394 rfl (lv_at hl 0 rfl) ?_
        refine lv_iload hx hb d_Lw_law_395 (lv_at hl 5 rfl) ?_
        refine lv_iconst (v := 1) hx hb d_Lw_law_397 (by decide) ?_
        refine lv_iadd hx hb d_Lw_law_398 ?_
        refine j_eqi (y := x45) ex45.symm ?_
        refine va_sld hx hb hX hbl hbA hS (zt_in fx45 (by omega) (by omega)) d_Lw_law_399 ?_
        refine lv_topi (fun x49 ex49 => ?_)
        have rx49 := zt_rng x49
        refine lv_aload_n hx hb d_Lw_law_400 rfl (lv_at hl 0 rfl) ?_
        refine lv_iload hx hb d_Lw_law_401 (lv_at hl 5 rfl) ?_
        refine lv_iconst (v := 2) hx hb d_Lw_law_403 (by decide) ?_
        refine lv_iadd hx hb d_Lw_law_404 ?_
        refine j_eqi (y := x47) ex47.symm ?_
        refine va_sld hx hb hX hbl hbA hS (zt_in fx47 (by omega) (by omega)) d_Lw_law_405 ?_
        refine lv_topi (fun x50 ex50 => ?_)
        have rx50 := zt_rng x50
        refine jl_mi (w := fun u => u) hK hP hD hS hA (va_runV (As := [.int x49, .int x50]) (rest := []) F (m_letter l D T h0 ar Sm x49 x50 H.size hIm) (j_cV (k := 2) (C := "PageScribeModel") hts k_8_156 k_1_12 k_8_153 k_8_154 k_8_155 (by decide +kernel) ⟨Nat.le_of_ble_eq_true rfl, Nat.le_of_ble_eq_true rfl⟩) (j_preV (q0 := 77) (ci := 11) hK hP hD lmL lm_all lm_nd cl_11 (lx_m.trans mW_0) (fun _ _ _ _ h => h) (fun _ _ _ => trivial)) rfl rfl hl.1 rfl (lv_room (Nat.le_of_ble_eq_true rfl)) d_Lw_law_406 ⟨lw_c (by omega), lw_s (by omega)⟩) (fun rv20 u20 H locs hw20 hP hD hS => ?_)
        have hIm_u20 : MI u20 := hw20.1
        have hP : va_P D classes (lW T ad Sc h0 ar u20 (oJ T ou f) (oD T od fd)) H := hP
        have hD : va_D (Rn s.heap.size) (lW T ad Sc h0 ar u20 (oJ T ou f) (oD T od fd)) := hD
        have rrv20 := zt_rng rv20
        have hfr_u20 : (f_frames u20).toInt = 0 := (by rw [show f_frames u20 = f_frames Sm from hw20.2.2.1]; exact hfr)
        have hln_u20 : (f_length u20).toInt = (f_xr_length Sc).toInt := by rw [show f_length u20 = f_length Sm from hw20.2.1.1, show f_xr_length Sc = f_xr_length Sc from rfl]; exact hln
        refine lv_pop hx hb d_Lw_law_409 rfl ?_
        refine lv_goto (tgt := 488) hx hb d_Lw_law_410 (by decide) ?_
        refine lv_iinc (v := (i + 3)) (lv' := [(5, .int (i + 3)), (0, .ref b), (1, .ref (ad 0)), (2, .ref h0), (3, .ref ou), (4, .ref od)]) hx hb d_Lw_law_488 hl (k := 5) rfl (by first | rfl | decide) (by decide) rfl (fun ls hl => ?_)
        obtain ⟨x51, ex51⟩ : ∃ z, z = (i + 3) := ⟨_, rfl⟩
        rw [← ex51] at hl
        have fx51 : x51.toInt = (i.toInt + 3) := by rw [ex51]; exact (zt_add (show i.toInt = _ from rfl) tI_3 (by omega) (by omega)).trans (by omega)
        have hl : lv_has ls 9 [(5, .int x51), (0, .ref b), (1, .ref (ad 0)), (2, .ref h0), (3, .ref ou), (4, .ref od)] := hl
        refine lv_goto (tgt := 48) hx hb d_Lw_law_491 (by decide) ?_
        exact ih k9 (by omega) x51 Sc u20 f fd H locs _ _ _ ⟨by omega, by omega, by omega⟩ hIc hIm_u20 hfr_u20 hln_u20 ⟨by omega, by omega⟩ hP hD hS (lv_sub hl [1, 2, 3, 4, 5, 0] rfl)
      by_cases h_10_1 : x4.toInt = 10
      · refine lv_tableIn (off := 349) (tgt := 413) hx hb d_Lw_law_64 (by omega) (by omega) (by rw [show x4.toInt = 10 from h_10_1]; decide +kernel) (by decide) ?_
        refine lv_aload_n hx hb d_Lw_law_413 rfl (lv_at hl 1 rfl) ?_
        refine lv_aload_n hx hb d_Lw_law_414 rfl (lv_at hl 0 rfl) ?_
        refine lv_iload hx hb d_Lw_law_415 (lv_at hl 5 rfl) ?_
        refine lv_iconst (v := 1) hx hb d_Lw_law_417 (by decide) ?_
        refine lv_iadd hx hb d_Lw_law_418 ?_
        refine lv_topi (fun x52 ex52 => ?_)
        have fx52 : x52.toInt = (i.toInt + 1) := by rw [ex52]; exact (zt_add (show i.toInt = _ from rfl) tI_1 (by omega) (by omega)).trans (by omega)
        refine va_sld hx hb hX hbl hbA hS (zt_in fx52 (by omega) (by omega)) d_Lw_law_419 ?_
        refine lv_topi (fun x53 ex53 => ?_)
        have rx53 := zt_rng x53
        refine jl_ci (w := (fun _ => Sc)) hK hP hD hS hA (va_runV (As := [.int x53]) (rest := []) F (c_Ps_used l D T ad Sc x53 H.size hIc) (j_cV (k := 1) (C := "PageScribe") hts k_2_198 k_1_1 k_2_195 k_2_196 k_2_197 (by decide +kernel) ⟨Nat.le_of_ble_eq_true rfl, Nat.le_of_ble_eq_true rfl⟩) (j_preV (q0 := 2) (ci := 10) hK hP hD lcL lc_all lc_nd rfl (lx_c.trans (ce_0 _ _ _)) (fun _ _ _ _ h => h) (fun _ _ _ => trivial)) rfl rfl hl.1 rfl (lv_room (Nat.le_of_ble_eq_true rfl)) d_Lw_law_420 ⟨lw_c (by omega), lw_s (by omega)⟩) (fun rv21 u21 H locs hw21 hP hD hS => ?_)
        have hP : va_P D classes (lW T ad Sc h0 ar Sm (oJ T ou f) (oD T od fd)) H := hP
        have hD : va_D (Rn s.heap.size) (lW T ad Sc h0 ar Sm (oJ T ou f) (oD T od fd)) := hD
        have rrv21 := zt_rng rv21
        refine lv_pop hx hb d_Lw_law_423 rfl ?_
        refine lv_aload_n hx hb d_Lw_law_424 rfl (lv_at hl 2 rfl) ?_
        refine lv_aload_n hx hb d_Lw_law_425 rfl (lv_at hl 0 rfl) ?_
        refine lv_iload hx hb d_Lw_law_426 (lv_at hl 5 rfl) ?_
        refine lv_iconst (v := 1) hx hb d_Lw_law_428 (by decide) ?_
        refine lv_iadd hx hb d_Lw_law_429 ?_
        refine j_eqi (y := x52) ex52.symm ?_
        refine va_sld hx hb hX hbl hbA hS (zt_in fx52 (by omega) (by omega)) d_Lw_law_430 ?_
        refine lv_topi (fun x54 ex54 => ?_)
        have rx54 := zt_rng x54
        refine jl_mi (w := fun u => u) hK hP hD hS hA (va_runV (As := [.int x54]) (rest := []) F (m_used l D T h0 ar Sm x54 H.size hIm) (j_cV (k := 1) (C := "PageScribeModel") hts k_8_160 k_1_12 k_8_157 k_8_158 k_8_159 (by decide +kernel) ⟨Nat.le_of_ble_eq_true rfl, Nat.le_of_ble_eq_true rfl⟩) (j_preV (q0 := 77) (ci := 11) hK hP hD lmL lm_all lm_nd cl_11 (lx_m.trans mW_0) (fun _ _ _ _ h => h) (fun _ _ _ => trivial)) rfl rfl hl.1 rfl (lv_room (Nat.le_of_ble_eq_true rfl)) d_Lw_law_431 ⟨lw_c (by omega), lw_s (by omega)⟩) (fun rv22 u22 H locs hw22 hP hD hS => ?_)
        have hIm_u22 : MI u22 := hw22.1
        have hP : va_P D classes (lW T ad Sc h0 ar u22 (oJ T ou f) (oD T od fd)) H := hP
        have hD : va_D (Rn s.heap.size) (lW T ad Sc h0 ar u22 (oJ T ou f) (oD T od fd)) := hD
        have rrv22 := zt_rng rv22
        have hfr_u22 : (f_frames u22).toInt = 0 := (by rw [show f_frames u22 = f_frames Sm from hw22.2.2.1]; exact hfr)
        have hln_u22 : (f_length u22).toInt = (f_xr_length Sc).toInt := by rw [show f_length u22 = f_length Sm from hw22.2.1.1, show f_xr_length Sc = f_xr_length Sc from rfl]; exact hln
        refine lv_pop hx hb d_Lw_law_434 rfl ?_
        refine lv_goto (tgt := 488) hx hb d_Lw_law_435 (by decide) ?_
        refine lv_iinc (v := (i + 3)) (lv' := [(5, .int (i + 3)), (0, .ref b), (1, .ref (ad 0)), (2, .ref h0), (3, .ref ou), (4, .ref od)]) hx hb d_Lw_law_488 hl (k := 5) rfl (by first | rfl | decide) (by decide) rfl (fun ls hl => ?_)
        obtain ⟨x55, ex55⟩ : ∃ z, z = (i + 3) := ⟨_, rfl⟩
        rw [← ex55] at hl
        have fx55 : x55.toInt = (i.toInt + 3) := by rw [ex55]; exact (zt_add (show i.toInt = _ from rfl) tI_3 (by omega) (by omega)).trans (by omega)
        have hl : lv_has ls 9 [(5, .int x55), (0, .ref b), (1, .ref (ad 0)), (2, .ref h0), (3, .ref ou), (4, .ref od)] := hl
        refine lv_goto (tgt := 48) hx hb d_Lw_law_491 (by decide) ?_
        exact ih k9 (by omega) x55 Sc u22 f fd H locs _ _ _ ⟨by omega, by omega, by omega⟩ hIc hIm_u22 hfr_u22 hln_u22 ⟨by omega, by omega⟩ hP hD hS (lv_sub hl [1, 2, 3, 4, 5, 0] rfl)
      by_cases h_11_1 : x4.toInt = 11
      · refine lv_tableIn (off := 374) (tgt := 438) hx hb d_Lw_law_64 (by omega) (by omega) (by rw [show x4.toInt = 11 from h_11_1]; decide +kernel) (by decide) ?_
        refine lv_aload_n hx hb d_Lw_law_438 rfl (lv_at hl 1 rfl) ?_
        refine lv_aload_n hx hb d_Lw_law_439 rfl (lv_at hl 0 rfl) ?_
        refine lv_iload hx hb d_Lw_law_440 (lv_at hl 5 rfl) ?_
        refine lv_iconst (v := 1) hx hb d_Lw_law_442 (by decide) ?_
        refine lv_iadd hx hb d_Lw_law_443 ?_
        refine lv_topi (fun x56 ex56 => ?_)
        have fx56 : x56.toInt = (i.toInt + 1) := by rw [ex56]; exact (zt_add (show i.toInt = _ from rfl) tI_1 (by omega) (by omega)).trans (by omega)
        refine va_sld hx hb hX hbl hbA hS (zt_in fx56 (by omega) (by omega)) d_Lw_law_444 ?_
        refine lv_topi (fun x57 ex57 => ?_)
        have rx57 := zt_rng x57
        refine lv_aload_n hx hb d_Lw_law_445 rfl (lv_at hl 0 rfl) ?_
        refine lv_iload hx hb d_Lw_law_446 (lv_at hl 5 rfl) ?_
        refine lv_iconst (v := 2) hx hb d_Lw_law_448 (by decide) ?_
        refine lv_iadd hx hb d_Lw_law_449 ?_
        refine lv_topi (fun x58 ex58 => ?_)
        have fx58 : x58.toInt = (i.toInt + 2) := by rw [ex58]; exact (zt_add (show i.toInt = _ from rfl) tI_2 (by omega) (by omega)).trans (by omega)
        refine va_sld hx hb hX hbl hbA hS (zt_in fx58 (by omega) (by omega)) d_Lw_law_450 ?_
        refine lv_topi (fun x59 ex59 => ?_)
        have rx59 := zt_rng x59
        refine jl_ci (w := (fun _ => Sc)) hK hP hD hS hA (va_runV (As := [.int x57, .int x59]) (rest := []) F (c_Ps_pixel l D T ad Sc x57 x59 H.size hIc) (j_cV (k := 2) (C := "PageScribe") hts k_2_206 k_1_1 k_2_203 k_2_204 k_2_205 (by decide +kernel) ⟨Nat.le_of_ble_eq_true rfl, Nat.le_of_ble_eq_true rfl⟩) (j_preV (q0 := 2) (ci := 10) hK hP hD lcL lc_all lc_nd rfl (lx_c.trans (ce_0 _ _ _)) (fun _ _ _ _ h => h) (fun _ _ _ => trivial)) rfl rfl hl.1 rfl (lv_room (Nat.le_of_ble_eq_true rfl)) d_Lw_law_451 ⟨lw_c (by omega), lw_s (by omega)⟩) (fun rv23 u23 H locs hw23 hP hD hS => ?_)
        have hP : va_P D classes (lW T ad Sc h0 ar Sm (oJ T ou f) (oD T od fd)) H := hP
        have hD : va_D (Rn s.heap.size) (lW T ad Sc h0 ar Sm (oJ T ou f) (oD T od fd)) := hD
        have rrv23 := zt_rng rv23
        refine lv_pop hx hb d_Lw_law_454 rfl ?_
        refine lv_aload_n hx hb d_Lw_law_455 rfl (lv_at hl 2 rfl) ?_
        refine lv_aload_n hx hb d_Lw_law_456 rfl (lv_at hl 0 rfl) ?_
        refine lv_iload hx hb d_Lw_law_457 (lv_at hl 5 rfl) ?_
        refine lv_iconst (v := 1) hx hb d_Lw_law_459 (by decide) ?_
        refine lv_iadd hx hb d_Lw_law_460 ?_
        refine j_eqi (y := x56) ex56.symm ?_
        refine va_sld hx hb hX hbl hbA hS (zt_in fx56 (by omega) (by omega)) d_Lw_law_461 ?_
        refine lv_topi (fun x60 ex60 => ?_)
        have rx60 := zt_rng x60
        refine lv_aload_n hx hb d_Lw_law_462 rfl (lv_at hl 0 rfl) ?_
        refine lv_iload hx hb d_Lw_law_463 (lv_at hl 5 rfl) ?_
        refine lv_iconst (v := 2) hx hb d_Lw_law_465 (by decide) ?_
        refine lv_iadd hx hb d_Lw_law_466 ?_
        refine j_eqi (y := x58) ex58.symm ?_
        refine va_sld hx hb hX hbl hbA hS (zt_in fx58 (by omega) (by omega)) d_Lw_law_467 ?_
        refine lv_topi (fun x61 ex61 => ?_)
        have rx61 := zt_rng x61
        refine jl_mi (w := fun u => u) hK hP hD hS hA (va_runV (As := [.int x60, .int x61]) (rest := []) F (m_pixel l D T h0 ar Sm x60 x61 H.size hIm) (j_cV (k := 2) (C := "PageScribeModel") hts k_8_164 k_1_12 k_8_161 k_8_162 k_8_163 (by decide +kernel) ⟨Nat.le_of_ble_eq_true rfl, Nat.le_of_ble_eq_true rfl⟩) (j_preV (q0 := 77) (ci := 11) hK hP hD lmL lm_all lm_nd cl_11 (lx_m.trans mW_0) (fun _ _ _ _ h => h) (fun _ _ _ => trivial)) rfl rfl hl.1 rfl (lv_room (Nat.le_of_ble_eq_true rfl)) d_Lw_law_468 ⟨lw_c (by omega), lw_s (by omega)⟩) (fun rv24 u24 H locs hw24 hP hD hS => ?_)
        have hIm_u24 : MI u24 := hw24.1
        have hP : va_P D classes (lW T ad Sc h0 ar u24 (oJ T ou f) (oD T od fd)) H := hP
        have hD : va_D (Rn s.heap.size) (lW T ad Sc h0 ar u24 (oJ T ou f) (oD T od fd)) := hD
        have rrv24 := zt_rng rv24
        have hfr_u24 : (f_frames u24).toInt = 0 := (by rw [show f_frames u24 = f_frames Sm from hw24.2.2.1]; exact hfr)
        have hln_u24 : (f_length u24).toInt = (f_xr_length Sc).toInt := by rw [show f_length u24 = f_length Sm from hw24.2.1.1, show f_xr_length Sc = f_xr_length Sc from rfl]; exact hln
        refine lv_pop hx hb d_Lw_law_471 rfl ?_
        refine lv_goto (tgt := 488) hx hb d_Lw_law_472 (by decide) ?_
        refine lv_iinc (v := (i + 3)) (lv' := [(5, .int (i + 3)), (0, .ref b), (1, .ref (ad 0)), (2, .ref h0), (3, .ref ou), (4, .ref od)]) hx hb d_Lw_law_488 hl (k := 5) rfl (by first | rfl | decide) (by decide) rfl (fun ls hl => ?_)
        obtain ⟨x62, ex62⟩ : ∃ z, z = (i + 3) := ⟨_, rfl⟩
        rw [← ex62] at hl
        have fx62 : x62.toInt = (i.toInt + 3) := by rw [ex62]; exact (zt_add (show i.toInt = _ from rfl) tI_3 (by omega) (by omega)).trans (by omega)
        have hl : lv_has ls 9 [(5, .int x62), (0, .ref b), (1, .ref (ad 0)), (2, .ref h0), (3, .ref ou), (4, .ref od)] := hl
        refine lv_goto (tgt := 48) hx hb d_Lw_law_491 (by decide) ?_
        exact ih k9 (by omega) x62 Sc u24 f fd H locs _ _ _ ⟨by omega, by omega, by omega⟩ hIc hIm_u24 hfr_u24 hln_u24 ⟨by omega, by omega⟩ hP hD hS (lv_sub hl [1, 2, 3, 4, 5, 0] rfl)
      by_cases h_12_1 : x4.toInt = 12
      · refine lv_tableIn (off := 411) (tgt := 475) hx hb d_Lw_law_64 (by omega) (by omega) (by rw [show x4.toInt = 12 from h_12_1]; decide +kernel) (by decide) ?_
        refine lv_aload_n hx hb d_Lw_law_475 rfl (lv_at hl 1 rfl) ?_
        refine jl_ci (w := (fun u => u)) hK hP hD hS hA (va_runV (As := []) (rest := []) F (c_Ps_page l D T ad Sc H.size hIc) (j_cV (k := 0) (C := "PageScribe") hts k_2_214 k_1_1 k_2_211 k_2_212 k_2_213 (by decide +kernel) ⟨Nat.le_of_ble_eq_true rfl, Nat.le_of_ble_eq_true rfl⟩) (j_preV (q0 := 2) (ci := 10) hK hP hD lcL lc_all lc_nd rfl (lx_c.trans (ce_0 _ _ _)) (fun _ _ _ _ h => h) (fun _ _ _ => trivial)) rfl rfl hl.1 rfl (lv_room (Nat.le_of_ble_eq_true rfl)) d_Lw_law_476 ⟨lw_c (by omega), lw_s (by omega)⟩) (fun rv25 u25 H locs hw25 hP hD hS => ?_)
        have hIc_u25 : CIv u25 := hw25.1
        have hP : va_P D classes (lW T ad u25 h0 ar Sm (oJ T ou f) (oD T od fd)) H := hP
        have hD : va_D (Rn s.heap.size) (lW T ad u25 h0 ar Sm (oJ T ou f) (oD T od fd)) := hD
        have rrv25 := zt_rng rv25
        refine lv_pop hx hb d_Lw_law_479 rfl ?_
        refine lv_aload_n hx hb d_Lw_law_480 rfl (lv_at hl 2 rfl) ?_
        refine jl_mi (w := fun u => u) hK hP hD hS hA (va_runV (As := []) (rest := []) F (m_page l D T h0 ar Sm  H.size hIm) (j_cV (k := 0) (C := "PageScribeModel") hts k_8_168 k_1_12 k_8_165 k_8_166 k_8_167 (by decide +kernel) ⟨Nat.le_of_ble_eq_true rfl, Nat.le_of_ble_eq_true rfl⟩) (j_preV (q0 := 77) (ci := 11) hK hP hD lmL lm_all lm_nd cl_11 (lx_m.trans mW_0) (fun _ _ _ _ h => h) (fun _ _ _ => trivial)) rfl rfl hl.1 rfl (lv_room (Nat.le_of_ble_eq_true rfl)) d_Lw_law_481 ⟨lw_c (by omega), lw_s (by omega)⟩) (fun rv26 u26 H locs hw26 hP hD hS => ?_)
        have hIm_u26 : MI u26 := hw26.1
        have hP : va_P D classes (lW T ad u25 h0 ar u26 (oJ T ou f) (oD T od fd)) H := hP
        have hD : va_D (Rn s.heap.size) (lW T ad u25 h0 ar u26 (oJ T ou f) (oD T od fd)) := hD
        have rrv26 := zt_rng rv26
        have hfr_u26 : (f_frames u26).toInt = 0 := (by rw [show f_frames u26 = f_frames Sm from hw26.2.2.1]; exact hfr)
        have hln_u26 : (f_length u26).toInt = (f_xr_length u25).toInt := by rw [show f_length u26 = f_length Sm from hw26.2.1.1, show f_xr_length u25 = f_xr_length Sc from hw25.2]; exact hln
        refine lv_pop hx hb d_Lw_law_484 rfl ?_
        refine lv_goto (tgt := 488) hx hb d_Lw_law_485 (by decide) ?_
        refine lv_iinc (v := (i + 3)) (lv' := [(5, .int (i + 3)), (0, .ref b), (1, .ref (ad 0)), (2, .ref h0), (3, .ref ou), (4, .ref od)]) hx hb d_Lw_law_488 hl (k := 5) rfl (by first | rfl | decide) (by decide) rfl (fun ls hl => ?_)
        obtain ⟨x63, ex63⟩ : ∃ z, z = (i + 3) := ⟨_, rfl⟩
        rw [← ex63] at hl
        have fx63 : x63.toInt = (i.toInt + 3) := by rw [ex63]; exact (zt_add (show i.toInt = _ from rfl) tI_3 (by omega) (by omega)).trans (by omega)
        have hl : lv_has ls 9 [(5, .int x63), (0, .ref b), (1, .ref (ad 0)), (2, .ref h0), (3, .ref ou), (4, .ref od)] := hl
        refine lv_goto (tgt := 48) hx hb d_Lw_law_491 (by decide) ?_
        exact ih k9 (by omega) x63 u25 u26 f fd H locs _ _ _ ⟨by omega, by omega, by omega⟩ hIc_u25 hIm_u26 hfr_u26 hln_u26 ⟨by omega, by omega⟩ hP hD hS (lv_sub hl [1, 2, 3, 4, 5, 0] rfl)
      refine lv_tableOut (tgt := 488) hx hb d_Lw_law_64 (by omega) (by decide) ?_
      refine lv_iinc (v := (i + 3)) (lv' := [(5, .int (i + 3)), (0, .ref b), (1, .ref (ad 0)), (2, .ref h0), (3, .ref ou), (4, .ref od)]) hx hb d_Lw_law_488 hl (k := 5) rfl (by first | rfl | decide) (by decide) rfl (fun ls hl => ?_)
      obtain ⟨x64, ex64⟩ : ∃ z, z = (i + 3) := ⟨_, rfl⟩
      rw [← ex64] at hl
      have fx64 : x64.toInt = (i.toInt + 3) := by rw [ex64]; exact (zt_add (show i.toInt = _ from rfl) tI_3 (by omega) (by omega)).trans (by omega)
      have hl : lv_has ls 9 [(5, .int x64), (0, .ref b), (1, .ref (ad 0)), (2, .ref h0), (3, .ref ou), (4, .ref od)] := hl
      refine lv_goto (tgt := 48) hx hb d_Lw_law_491 (by decide) ?_
      exact ih k9 (by omega) x64 Sc Sm f fd H locs _ _ _ ⟨by omega, by omega, by omega⟩ hIc hIm hfr hln ⟨by omega, by omega⟩ hP hD hS (lv_sub hl [1, 2, 3, 4, 5, 0] rfl)
