theorem d_Mo_advance_0 : decode prog_15_method_35_code 0 = .ok (.aload_n 0, 1) := by decide +kernel
theorem d_Mo_advance_1 : decode prog_15_method_35_code 1 = .ok (.getfield 346, 3) := by decide +kernel
theorem d_Mo_advance_4 : decode prog_15_method_35_code 4 = .ok (.iconst 1, 1) := by decide +kernel
theorem d_Mo_advance_5 : decode prog_15_method_35_code 5 = .ok (.isub, 1) := by decide +kernel
theorem d_Mo_advance_6 : decode prog_15_method_35_code 6 = .ok (.istore_n 1, 1) := by decide +kernel
theorem d_Mo_advance_7 : decode prog_15_method_35_code 7 = .ok (.aload_n 0, 1) := by decide +kernel
theorem d_Mo_advance_8 : decode prog_15_method_35_code 8 = .ok (.getfield 43, 3) := by decide +kernel
theorem d_Mo_advance_11 : decode prog_15_method_35_code 11 = .ok (.iload_n 1, 1) := by decide +kernel
theorem d_Mo_advance_12 : decode prog_15_method_35_code 12 = .ok (.iaload, 1) := by decide +kernel
theorem d_Mo_advance_13 : decode prog_15_method_35_code 13 = .ok (.istore_n 2, 1) := by decide +kernel
theorem d_Mo_advance_14 : decode prog_15_method_35_code 14 = .ok (.iload_n 2, 1) := by decide +kernel
theorem d_Mo_advance_15 : decode prog_15_method_35_code 15 = .ok (.bipush 7, 2) := by decide +kernel
theorem d_Mo_advance_17 : decode prog_15_method_35_code 17 = .ok (.if_icmp .ne 14, 3) := by decide +kernel
theorem d_Mo_advance_91 : decode prog_15_method_35_code 91 = .ok (.istore_n 3, 1) := by decide +kernel
theorem d_Mo_advance_182 : decode prog_15_method_35_code 182 = .ok (.istore 4, 2) := by decide +kernel
theorem d_Mo_advance_199 : decode prog_15_method_35_code 199 = .ok (.aload_n 0, 1) := by decide +kernel
theorem d_Mo_advance_200 : decode prog_15_method_35_code 200 = .ok (.getfield 49, 3) := by decide +kernel
theorem d_Mo_advance_203 : decode prog_15_method_35_code 203 = .ok (.iload_n 1, 1) := by decide +kernel
theorem d_Mo_advance_204 : decode prog_15_method_35_code 204 = .ok (.dup2, 1) := by decide +kernel
theorem d_Mo_advance_205 : decode prog_15_method_35_code 205 = .ok (.iaload, 1) := by decide +kernel
theorem d_Mo_advance_206 : decode prog_15_method_35_code 206 = .ok (.iconst 1, 1) := by decide +kernel
theorem d_Mo_advance_207 : decode prog_15_method_35_code 207 = .ok (.iadd, 1) := by decide +kernel
theorem d_Mo_advance_208 : decode prog_15_method_35_code 208 = .ok (.iastore, 1) := by decide +kernel
theorem d_Mo_advance_209 : decode prog_15_method_35_code 209 = .ok (.iload_n 2, 1) := by decide +kernel
theorem d_Mo_advance_210 : decode prog_15_method_35_code 210 = .ok (.iconst 1, 1) := by decide +kernel
theorem d_Mo_advance_211 : decode prog_15_method_35_code 211 = .ok (.if_icmp .ne 35, 3) := by decide +kernel
theorem d_Mo_advance_246 : decode prog_15_method_35_code 246 = .ok (.aload_n 0, 1) := by decide +kernel
theorem d_Mo_advance_247 : decode prog_15_method_35_code 247 = .ok (.invokevirtual 366, 3) := by decide +kernel
theorem d_Mo_advance_250 : decode prog_15_method_35_code 250 = .ok (.istore 5, 2) := by decide +kernel
theorem d_Mo_advance_252 : decode prog_15_method_35_code 252 = .ok (.iload 5, 2) := by decide +kernel
theorem d_Mo_advance_254 : decode prog_15_method_35_code 254 = .ok (.ifCond .ne 21, 3) := by decide +kernel
theorem d_Mo_advance_275 : decode prog_15_method_35_code 275 = .ok (.iload 5, 2) := by decide +kernel
theorem d_Mo_advance_277 : decode prog_15_method_35_code 277 = .ok (.ifCond .ne 36, 3) := by decide +kernel
theorem d_Mo_advance_313 : decode prog_15_method_35_code 313 = .ok (.aload_n 0, 1) := by decide +kernel
theorem d_Mo_advance_314 : decode prog_15_method_35_code 314 = .ok (.getfield 52, 3) := by decide +kernel
theorem d_Mo_advance_317 : decode prog_15_method_35_code 317 = .ok (.iload_n 1, 1) := by decide +kernel
theorem d_Mo_advance_318 : decode prog_15_method_35_code 318 = .ok (.dup2, 1) := by decide +kernel
theorem d_Mo_advance_319 : decode prog_15_method_35_code 319 = .ok (.laload, 1) := by decide +kernel
theorem d_Mo_advance_337 : decode prog_15_method_35_code 337 = .ok (.ladd, 1) := by decide +kernel
theorem d_Mo_advance_338 : decode prog_15_method_35_code 338 = .ok (.lastore, 1) := by decide +kernel
theorem d_Mo_advance_339 : decode prog_15_method_35_code 339 = .ok (.iload 5, 2) := by decide +kernel
theorem d_Mo_advance_341 : decode prog_15_method_35_code 341 = .ok (.ifCond .eq 8, 3) := by decide +kernel
theorem d_Mo_advance_349 : decode prog_15_method_35_code 349 = .ok (.aload_n 0, 1) := by decide +kernel
theorem d_Mo_advance_350 : decode prog_15_method_35_code 350 = .ok (.aload_n 0, 1) := by decide +kernel
theorem d_Mo_advance_351 : decode prog_15_method_35_code 351 = .ok (.getfield 46, 3) := by decide +kernel
theorem d_Mo_advance_354 : decode prog_15_method_35_code 354 = .ok (.iload_n 1, 1) := by decide +kernel
theorem d_Mo_advance_355 : decode prog_15_method_35_code 355 = .ok (.laload, 1) := by decide +kernel
theorem d_Mo_advance_356 : decode prog_15_method_35_code 356 = .ok (.invokevirtual 382, 3) := by decide +kernel
theorem d_Mo_advance_359 : decode prog_15_method_35_code 359 = .ok (.ireturn, 1) := by decide +kernel
theorem d_Mo_advance_344 : decode prog_15_method_35_code 344 = .ok (.iload 5, 2) := by decide +kernel
theorem d_Mo_advance_346 : decode prog_15_method_35_code 346 = .ok (.goto 13, 3) := by decide +kernel
theorem d_Mo_advance_320 : decode prog_15_method_35_code 320 = .ok (.iload_n 2, 1) := by decide +kernel
theorem d_Mo_advance_321 : decode prog_15_method_35_code 321 = .ok (.iconst 3, 1) := by decide +kernel
theorem d_Mo_advance_322 : decode prog_15_method_35_code 322 = .ok (.if_icmp .ne 12, 3) := by decide +kernel
theorem d_Mo_advance_334 : decode prog_15_method_35_code 334 = .ok (.ldc2_w 400, 3) := by decide +kernel
theorem d_Mo_advance_325 : decode prog_15_method_35_code 325 = .ok (.aload_n 0, 1) := by decide +kernel
theorem d_Mo_advance_326 : decode prog_15_method_35_code 326 = .ok (.getfield 55, 3) := by decide +kernel
theorem d_Mo_advance_329 : decode prog_15_method_35_code 329 = .ok (.iload_n 1, 1) := by decide +kernel
theorem d_Mo_advance_330 : decode prog_15_method_35_code 330 = .ok (.laload, 1) := by decide +kernel
theorem d_Mo_advance_331 : decode prog_15_method_35_code 331 = .ok (.goto 6, 3) := by decide +kernel
theorem d_Mo_advance_280 : decode prog_15_method_35_code 280 = .ok (.iload_n 2, 1) := by decide +kernel
theorem d_Mo_advance_281 : decode prog_15_method_35_code 281 = .ok (.bipush 6, 2) := by decide +kernel
theorem d_Mo_advance_283 : decode prog_15_method_35_code 283 = .ok (.if_icmp .ne 30, 3) := by decide +kernel
theorem d_Mo_advance_286 : decode prog_15_method_35_code 286 = .ok (.aload_n 0, 1) := by decide +kernel
theorem d_Mo_advance_287 : decode prog_15_method_35_code 287 = .ok (.bipush 50, 2) := by decide +kernel
theorem d_Mo_advance_289 : decode prog_15_method_35_code 289 = .ok (.aload_n 0, 1) := by decide +kernel
theorem d_Mo_advance_290 : decode prog_15_method_35_code 290 = .ok (.getfield 58, 3) := by decide +kernel
theorem d_Mo_advance_293 : decode prog_15_method_35_code 293 = .ok (.iload_n 1, 1) := by decide +kernel
theorem d_Mo_advance_294 : decode prog_15_method_35_code 294 = .ok (.laload, 1) := by decide +kernel
theorem d_Mo_advance_295 : decode prog_15_method_35_code 295 = .ok (.invokestatic 394, 3) := by decide +kernel
theorem d_Mo_advance_298 : decode prog_15_method_35_code 298 = .ok (.iadd, 1) := by decide +kernel
theorem d_Mo_advance_299 : decode prog_15_method_35_code 299 = .ok (.aload_n 0, 1) := by decide +kernel
theorem d_Mo_advance_300 : decode prog_15_method_35_code 300 = .ok (.getfield 49, 3) := by decide +kernel
theorem d_Mo_advance_303 : decode prog_15_method_35_code 303 = .ok (.iload_n 1, 1) := by decide +kernel
theorem d_Mo_advance_304 : decode prog_15_method_35_code 304 = .ok (.iaload, 1) := by decide +kernel
theorem d_Mo_advance_305 : decode prog_15_method_35_code 305 = .ok (.iadd, 1) := by decide +kernel
theorem d_Mo_advance_306 : decode prog_15_method_35_code 306 = .ok (.iconst 1, 1) := by decide +kernel
theorem d_Mo_advance_307 : decode prog_15_method_35_code 307 = .ok (.isub, 1) := by decide +kernel
theorem d_Mo_advance_308 : decode prog_15_method_35_code 308 = .ok (.invokevirtual 369, 3) := by decide +kernel
theorem d_Mo_advance_311 : decode prog_15_method_35_code 311 = .ok (.istore 5, 2) := by decide +kernel
theorem d_Mo_advance_257 : decode prog_15_method_35_code 257 = .ok (.iload_n 2, 1) := by decide +kernel
theorem d_Mo_advance_258 : decode prog_15_method_35_code 258 = .ok (.iconst 3, 1) := by decide +kernel
theorem d_Mo_advance_259 : decode prog_15_method_35_code 259 = .ok (.if_icmp .ne 16, 3) := by decide +kernel
theorem d_Mo_advance_262 : decode prog_15_method_35_code 262 = .ok (.aload_n 0, 1) := by decide +kernel
theorem d_Mo_advance_263 : decode prog_15_method_35_code 263 = .ok (.iconst 0, 1) := by decide +kernel
theorem d_Mo_advance_264 : decode prog_15_method_35_code 264 = .ok (.aload_n 0, 1) := by decide +kernel
theorem d_Mo_advance_265 : decode prog_15_method_35_code 265 = .ok (.getfield 52, 3) := by decide +kernel
theorem d_Mo_advance_268 : decode prog_15_method_35_code 268 = .ok (.iload_n 1, 1) := by decide +kernel
theorem d_Mo_advance_269 : decode prog_15_method_35_code 269 = .ok (.laload, 1) := by decide +kernel
theorem d_Mo_advance_270 : decode prog_15_method_35_code 270 = .ok (.invokevirtual 388, 3) := by decide +kernel
theorem d_Mo_advance_273 : decode prog_15_method_35_code 273 = .ok (.istore 5, 2) := by decide +kernel
theorem d_Mo_advance_214 : decode prog_15_method_35_code 214 = .ok (.aload_n 0, 1) := by decide +kernel
theorem d_Mo_advance_215 : decode prog_15_method_35_code 215 = .ok (.bipush 40, 2) := by decide +kernel
theorem d_Mo_advance_217 : decode prog_15_method_35_code 217 = .ok (.bipush 50, 2) := by decide +kernel
theorem d_Mo_advance_219 : decode prog_15_method_35_code 219 = .ok (.aload_n 0, 1) := by decide +kernel
theorem d_Mo_advance_220 : decode prog_15_method_35_code 220 = .ok (.getfield 46, 3) := by decide +kernel
theorem d_Mo_advance_223 : decode prog_15_method_35_code 223 = .ok (.iload_n 1, 1) := by decide +kernel
theorem d_Mo_advance_224 : decode prog_15_method_35_code 224 = .ok (.laload, 1) := by decide +kernel
theorem d_Mo_advance_225 : decode prog_15_method_35_code 225 = .ok (.invokestatic 394, 3) := by decide +kernel
theorem d_Mo_advance_228 : decode prog_15_method_35_code 228 = .ok (.iadd, 1) := by decide +kernel
theorem d_Mo_advance_229 : decode prog_15_method_35_code 229 = .ok (.aload_n 0, 1) := by decide +kernel
theorem d_Mo_advance_230 : decode prog_15_method_35_code 230 = .ok (.getfield 49, 3) := by decide +kernel
theorem d_Mo_advance_233 : decode prog_15_method_35_code 233 = .ok (.iload_n 1, 1) := by decide +kernel
theorem d_Mo_advance_234 : decode prog_15_method_35_code 234 = .ok (.iaload, 1) := by decide +kernel
theorem d_Mo_advance_235 : decode prog_15_method_35_code 235 = .ok (.iadd, 1) := by decide +kernel
theorem d_Mo_advance_236 : decode prog_15_method_35_code 236 = .ok (.iconst 1, 1) := by decide +kernel
theorem d_Mo_advance_237 : decode prog_15_method_35_code 237 = .ok (.isub, 1) := by decide +kernel
theorem d_Mo_advance_238 : decode prog_15_method_35_code 238 = .ok (.invokevirtual 254, 3) := by decide +kernel
theorem d_Mo_advance_241 : decode prog_15_method_35_code 241 = .ok (.aload_n 0, 1) := by decide +kernel
theorem d_Mo_advance_242 : decode prog_15_method_35_code 242 = .ok (.invokevirtual 397, 3) := by decide +kernel
theorem k_7_131 : Cond.code ⟨"PageScribeModel", "doValue", "()I"⟩ prog_15_method_34_code 5 (some .int) ∈ gw := gw_of (tb_7 (List.mem_of_getElem? (i := 131) (by decide +kernel))) (by decide +kernel)
theorem k_7_128 : Cond.methodLink "PageScribeModel" 397 ⟨"PageScribeModel", "doValue", "()I"⟩ ∈ gw := gw_of (tb_7 (List.mem_of_getElem? (i := 128) (by decide +kernel))) (by decide +kernel)
theorem k_7_130 : Cond.instanceMethod ⟨"PageScribeModel", "doValue", "()I"⟩ ∈ gw := gw_of (tb_7 (List.mem_of_getElem? (i := 130) (by decide +kernel))) (by decide +kernel)
theorem k_0_92 : Cond.selects "PageScribeModel" ⟨"PageScribeModel", "doValue", "()I"⟩ ⟨"PageScribeModel", "doValue", "()I"⟩ ∈ gw := gw_of (tb_0 (List.mem_of_getElem? (i := 92) (by decide +kernel))) (by decide +kernel)
theorem d_Mo_advance_245 : decode prog_15_method_35_code 245 = .ok (.ireturn, 1) := by decide +kernel
theorem d_Mo_advance_184 : decode prog_15_method_35_code 184 = .ok (.iload_n 3, 1) := by decide +kernel
theorem d_Mo_advance_185 : decode prog_15_method_35_code 185 = .ok (.ifCond .ne 14, 3) := by decide +kernel
theorem d_Mo_advance_188 : decode prog_15_method_35_code 188 = .ok (.iload 4, 2) := by decide +kernel
theorem d_Mo_advance_190 : decode prog_15_method_35_code 190 = .ok (.ifCond .ne 9, 3) := by decide +kernel
theorem d_Mo_advance_193 : decode prog_15_method_35_code 193 = .ok (.aload_n 0, 1) := by decide +kernel
theorem d_Mo_advance_194 : decode prog_15_method_35_code 194 = .ok (.invokevirtual 385, 3) := by decide +kernel
theorem d_Mo_advance_197 : decode prog_15_method_35_code 197 = .ok (.iconst 0, 1) := by decide +kernel
theorem d_Mo_advance_198 : decode prog_15_method_35_code 198 = .ok (.ireturn, 1) := by decide +kernel
theorem d_Mo_advance_92 : decode prog_15_method_35_code 92 = .ok (.iload_n 2, 1) := by decide +kernel
theorem d_Mo_advance_93 : decode prog_15_method_35_code 93 = .ok (.iconst 3, 1) := by decide +kernel
theorem d_Mo_advance_94 : decode prog_15_method_35_code 94 = .ok (.if_icmp .ne 62, 3) := by decide +kernel
theorem d_Mo_advance_156 : decode prog_15_method_35_code 156 = .ok (.iload_n 2, 1) := by decide +kernel
theorem d_Mo_advance_157 : decode prog_15_method_35_code 157 = .ok (.iconst 4, 1) := by decide +kernel
theorem d_Mo_advance_158 : decode prog_15_method_35_code 158 = .ok (.if_icmp .ne 14, 3) := by decide +kernel
theorem d_Mo_advance_172 : decode prog_15_method_35_code 172 = .ok (.iload_n 2, 1) := by decide +kernel
theorem d_Mo_advance_173 : decode prog_15_method_35_code 173 = .ok (.iconst 5, 1) := by decide +kernel
theorem d_Mo_advance_174 : decode prog_15_method_35_code 174 = .ok (.if_icmp .ne 7, 3) := by decide +kernel
theorem d_Mo_advance_181 : decode prog_15_method_35_code 181 = .ok (.iconst 0, 1) := by decide +kernel
theorem d_Mo_advance_177 : decode prog_15_method_35_code 177 = .ok (.iconst 1, 1) := by decide +kernel
theorem d_Mo_advance_178 : decode prog_15_method_35_code 178 = .ok (.goto 4, 3) := by decide +kernel
theorem d_Mo_advance_161 : decode prog_15_method_35_code 161 = .ok (.aload_n 0, 1) := by decide +kernel
theorem d_Mo_advance_162 : decode prog_15_method_35_code 162 = .ok (.getfield 52, 3) := by decide +kernel
theorem d_Mo_advance_165 : decode prog_15_method_35_code 165 = .ok (.iload_n 1, 1) := by decide +kernel
theorem d_Mo_advance_166 : decode prog_15_method_35_code 166 = .ok (.laload, 1) := by decide +kernel
theorem d_Mo_advance_167 : decode prog_15_method_35_code 167 = .ok (.lconst 0, 1) := by decide +kernel
theorem d_Mo_advance_168 : decode prog_15_method_35_code 168 = .ok (.lcmp, 1) := by decide +kernel
theorem d_Mo_advance_169 : decode prog_15_method_35_code 169 = .ok (.ifCond .gt 8, 3) := by decide +kernel
theorem d_Mo_advance_97 : decode prog_15_method_35_code 97 = .ok (.aload_n 0, 1) := by decide +kernel
theorem d_Mo_advance_98 : decode prog_15_method_35_code 98 = .ok (.getfield 55, 3) := by decide +kernel
theorem d_Mo_advance_101 : decode prog_15_method_35_code 101 = .ok (.iload_n 1, 1) := by decide +kernel
theorem d_Mo_advance_102 : decode prog_15_method_35_code 102 = .ok (.laload, 1) := by decide +kernel
theorem d_Mo_advance_103 : decode prog_15_method_35_code 103 = .ok (.lconst 0, 1) := by decide +kernel
theorem d_Mo_advance_104 : decode prog_15_method_35_code 104 = .ok (.lcmp, 1) := by decide +kernel
theorem d_Mo_advance_105 : decode prog_15_method_35_code 105 = .ok (.ifCond .ge 27, 3) := by decide +kernel
theorem d_Mo_advance_132 : decode prog_15_method_35_code 132 = .ok (.aload_n 0, 1) := by decide +kernel
theorem d_Mo_advance_133 : decode prog_15_method_35_code 133 = .ok (.getfield 52, 3) := by decide +kernel
theorem d_Mo_advance_136 : decode prog_15_method_35_code 136 = .ok (.iload_n 1, 1) := by decide +kernel
theorem d_Mo_advance_137 : decode prog_15_method_35_code 137 = .ok (.laload, 1) := by decide +kernel
theorem d_Mo_advance_138 : decode prog_15_method_35_code 138 = .ok (.aload_n 0, 1) := by decide +kernel
theorem d_Mo_advance_139 : decode prog_15_method_35_code 139 = .ok (.getfield 58, 3) := by decide +kernel
theorem d_Mo_advance_142 : decode prog_15_method_35_code 142 = .ok (.iload_n 1, 1) := by decide +kernel
theorem d_Mo_advance_143 : decode prog_15_method_35_code 143 = .ok (.laload, 1) := by decide +kernel
theorem d_Mo_advance_144 : decode prog_15_method_35_code 144 = .ok (.lcmp, 1) := by decide +kernel
theorem d_Mo_advance_145 : decode prog_15_method_35_code 145 = .ok (.ifCond .gt 7, 3) := by decide +kernel
theorem d_Mo_advance_152 : decode prog_15_method_35_code 152 = .ok (.iconst 0, 1) := by decide +kernel
theorem d_Mo_advance_153 : decode prog_15_method_35_code 153 = .ok (.goto 29, 3) := by decide +kernel
theorem d_Mo_advance_148 : decode prog_15_method_35_code 148 = .ok (.iconst 1, 1) := by decide +kernel
theorem d_Mo_advance_149 : decode prog_15_method_35_code 149 = .ok (.goto 33, 3) := by decide +kernel
theorem d_Mo_advance_108 : decode prog_15_method_35_code 108 = .ok (.aload_n 0, 1) := by decide +kernel
theorem d_Mo_advance_109 : decode prog_15_method_35_code 109 = .ok (.getfield 52, 3) := by decide +kernel
theorem d_Mo_advance_112 : decode prog_15_method_35_code 112 = .ok (.iload_n 1, 1) := by decide +kernel
theorem d_Mo_advance_113 : decode prog_15_method_35_code 113 = .ok (.laload, 1) := by decide +kernel
theorem d_Mo_advance_114 : decode prog_15_method_35_code 114 = .ok (.aload_n 0, 1) := by decide +kernel
theorem d_Mo_advance_115 : decode prog_15_method_35_code 115 = .ok (.getfield 58, 3) := by decide +kernel
theorem d_Mo_advance_118 : decode prog_15_method_35_code 118 = .ok (.iload_n 1, 1) := by decide +kernel
theorem d_Mo_advance_119 : decode prog_15_method_35_code 119 = .ok (.laload, 1) := by decide +kernel
theorem d_Mo_advance_120 : decode prog_15_method_35_code 120 = .ok (.lcmp, 1) := by decide +kernel
theorem d_Mo_advance_121 : decode prog_15_method_35_code 121 = .ok (.ifCond .lt 7, 3) := by decide +kernel
theorem d_Mo_advance_128 : decode prog_15_method_35_code 128 = .ok (.iconst 0, 1) := by decide +kernel
theorem d_Mo_advance_129 : decode prog_15_method_35_code 129 = .ok (.goto 53, 3) := by decide +kernel
theorem d_Mo_advance_124 : decode prog_15_method_35_code 124 = .ok (.iconst 1, 1) := by decide +kernel
theorem d_Mo_advance_125 : decode prog_15_method_35_code 125 = .ok (.goto 57, 3) := by decide +kernel
theorem d_Mo_advance_31 : decode prog_15_method_35_code 31 = .ok (.iload_n 2, 1) := by decide +kernel
theorem d_Mo_advance_32 : decode prog_15_method_35_code 32 = .ok (.iconst 1, 1) := by decide +kernel
theorem d_Mo_advance_33 : decode prog_15_method_35_code 33 = .ok (.if_icmp .ne 29, 3) := by decide +kernel
theorem d_Mo_advance_62 : decode prog_15_method_35_code 62 = .ok (.iload_n 2, 1) := by decide +kernel
theorem d_Mo_advance_63 : decode prog_15_method_35_code 63 = .ok (.bipush 6, 2) := by decide +kernel
theorem d_Mo_advance_65 : decode prog_15_method_35_code 65 = .ok (.if_icmp .ne 25, 3) := by decide +kernel
theorem d_Mo_advance_90 : decode prog_15_method_35_code 90 = .ok (.iconst 0, 1) := by decide +kernel
theorem d_Mo_advance_68 : decode prog_15_method_35_code 68 = .ok (.aload_n 0, 1) := by decide +kernel
theorem d_Mo_advance_69 : decode prog_15_method_35_code 69 = .ok (.getfield 49, 3) := by decide +kernel
theorem d_Mo_advance_72 : decode prog_15_method_35_code 72 = .ok (.iload_n 1, 1) := by decide +kernel
theorem d_Mo_advance_73 : decode prog_15_method_35_code 73 = .ok (.iaload, 1) := by decide +kernel
theorem d_Mo_advance_74 : decode prog_15_method_35_code 74 = .ok (.aload_n 0, 1) := by decide +kernel
theorem d_Mo_advance_75 : decode prog_15_method_35_code 75 = .ok (.getfield 58, 3) := by decide +kernel
theorem d_Mo_advance_78 : decode prog_15_method_35_code 78 = .ok (.iload_n 1, 1) := by decide +kernel
theorem d_Mo_advance_79 : decode prog_15_method_35_code 79 = .ok (.laload, 1) := by decide +kernel
theorem d_Mo_advance_80 : decode prog_15_method_35_code 80 = .ok (.invokestatic 391, 3) := by decide +kernel
theorem d_Mo_advance_83 : decode prog_15_method_35_code 83 = .ok (.if_icmp .ge 7, 3) := by decide +kernel
theorem d_Mo_advance_86 : decode prog_15_method_35_code 86 = .ok (.iconst 1, 1) := by decide +kernel
theorem d_Mo_advance_87 : decode prog_15_method_35_code 87 = .ok (.goto 4, 3) := by decide +kernel
theorem d_Mo_advance_36 : decode prog_15_method_35_code 36 = .ok (.aload_n 0, 1) := by decide +kernel
theorem d_Mo_advance_37 : decode prog_15_method_35_code 37 = .ok (.getfield 49, 3) := by decide +kernel
theorem d_Mo_advance_40 : decode prog_15_method_35_code 40 = .ok (.iload_n 1, 1) := by decide +kernel
theorem d_Mo_advance_41 : decode prog_15_method_35_code 41 = .ok (.iaload, 1) := by decide +kernel
theorem d_Mo_advance_42 : decode prog_15_method_35_code 42 = .ok (.aload_n 0, 1) := by decide +kernel
theorem d_Mo_advance_43 : decode prog_15_method_35_code 43 = .ok (.getfield 46, 3) := by decide +kernel
theorem d_Mo_advance_46 : decode prog_15_method_35_code 46 = .ok (.iload_n 1, 1) := by decide +kernel
theorem d_Mo_advance_47 : decode prog_15_method_35_code 47 = .ok (.laload, 1) := by decide +kernel
theorem d_Mo_advance_48 : decode prog_15_method_35_code 48 = .ok (.invokestatic 391, 3) := by decide +kernel
theorem d_Mo_advance_51 : decode prog_15_method_35_code 51 = .ok (.if_icmp .ge 7, 3) := by decide +kernel
theorem d_Mo_advance_58 : decode prog_15_method_35_code 58 = .ok (.iconst 0, 1) := by decide +kernel
theorem d_Mo_advance_59 : decode prog_15_method_35_code 59 = .ok (.goto 32, 3) := by decide +kernel
theorem d_Mo_advance_54 : decode prog_15_method_35_code 54 = .ok (.iconst 1, 1) := by decide +kernel
theorem d_Mo_advance_55 : decode prog_15_method_35_code 55 = .ok (.goto 36, 3) := by decide +kernel
theorem d_Mo_advance_20 : decode prog_15_method_35_code 20 = .ok (.aload_n 0, 1) := by decide +kernel
theorem d_Mo_advance_21 : decode prog_15_method_35_code 21 = .ok (.invokevirtual 385, 3) := by decide +kernel
theorem d_Mo_advance_24 : decode prog_15_method_35_code 24 = .ok (.aload_n 0, 1) := by decide +kernel
theorem d_Mo_advance_25 : decode prog_15_method_35_code 25 = .ok (.iconst 2, 1) := by decide +kernel
theorem d_Mo_advance_26 : decode prog_15_method_35_code 26 = .ok (.lconst 0, 1) := by decide +kernel
theorem d_Mo_advance_27 : decode prog_15_method_35_code 27 = .ok (.invokevirtual 388, 3) := by decide +kernel
theorem d_Mo_advance_30 : decode prog_15_method_35_code 30 = .ok (.ireturn, 1) := by decide +kernel
set_option maxHeartbeats 4000000 in
set_option maxRecDepth 100000 in
theorem m_advance (l : Launch) (D : va_G) (T : Nat → ClassId) (h0 : Nat) (ar : Nat → Nat) (S : MS)  (sz : Nat) (hI : MI S) (h1 : 0 < (f_frames S).toInt) : Met l ⟨"PageScribeModel", "advance", "()I"⟩ (wy ⟨"PageScribeModel", "advance", "()I"⟩ prog_15_method_35_code 6 (some .int)) ({ frames := 6, cells := 0, slots := 0, locals := 420 }) (va_Pc [.ref h0] (Pw D T (mW T h0 ar S) sz E0)) (va_Qi (fun (r : Int32) (u : MS) => MI u ∧ kT S u ∧ (-1 ≤ r.toInt ∧ r.toInt ≤ 16 ∧ (r.toInt = 16 ∨ (f_frames u).toInt + 3 * (f_fuel u).toInt - 3 * (f_steps u).toInt + 1 ≤ (f_frames S).toInt + 3 * (f_fuel S).toInt - 3 * (f_steps S).toInt))) (fun u t => Bw D T (va_A (mW T h0 ar S) sz) (mW T h0 ar u) t) (va_A (mW T h0 ar S) sz)) 0 0 (va_A (mW T h0 ar S) sz) := by
  refine j_met (y := ⟨"PageScribeModel", "advance", "()I"⟩) (b := prog_15_method_35_code) (n := 6) (ret := (some .int)) (av := [.ref h0]) (Qc := fun A => va_Qi (fun (r : Int32) (u : MS) => MI u ∧ kT S u ∧ (-1 ≤ r.toInt ∧ r.toInt ≤ 16 ∧ (r.toInt = 16 ∨ (f_frames u).toInt + 3 * (f_fuel u).toInt - 3 * (f_steps u).toInt + 1 ≤ (f_frames S).toInt + 3 * (f_fuel S).toInt - 3 * (f_steps S).toInt))) (fun u t => Bw D T A (mW T h0 ar u) t) A) (by decide +kernel) (Nat.le_of_ble_eq_true rfl) (fun p e s m args below meth c A ls F hr hlocks hnm hK hP hD hS hA hN hE hl => ?_)
  obtain ⟨hx, hb, hml, hown, hts⟩ := id F
  have hl : lv_has ls 6 [(0, .ref h0)] := hl
  obtain ⟨i_size, i_taken, i_vals, i_room, i_dicts, i_deep, i_open, i_cells, i_points, i_part, i_length, i_knows, i_page, i_text, i_pats, i_fuel, i_fr, i_ink⟩ := id hI
  have ft := fr_at i_fr ((f_frames S).toInt - 1).toNat (by omega)
  have ftr := fq_r ft
  have fta := fq_a ft
  refine lv_aload_n hx hb d_Mo_advance_0 rfl (lv_at hl 0 rfl) ?_
  refine va_get (D := D) (ci := 11) (v := .int (f_frames S)) (C := "PageScribeModel") (T := F_Mo) (N := 45) hx hb hts i_Mo hown hK hP 0 mW_0 cl_11 15 (by decide) (hts _ k_6_175) (fun _ h9 => h9) (mg_frames _ _) d_Mo_advance_1 ?_
  refine lv_iconst (v := 1) hx hb d_Mo_advance_4 (by decide) ?_
  refine lv_isub hx hb d_Mo_advance_5 ?_
  refine lv_topi (fun x1 ex1 => ?_)
  have fx1 : x1.toInt = ((f_frames S).toInt - 1) := by rw [ex1]; exact (zt_sub (show (f_frames S).toInt = _ from rfl) tI_1 (by omega) (by omega)).trans (by omega)
  refine lv_istore_n (lv' := [(1, .int x1), (0, .ref h0)]) hx hb d_Mo_advance_6 rfl hl (by decide) rfl (fun ls hl => ?_)
  refine lv_aload_n hx hb d_Mo_advance_7 rfl (lv_at hl 1 rfl) ?_
  refine va_get (D := D) (ci := 11) (v := .ref (ar 9)) (C := "PageScribeModel") (T := F_Mo) (N := 45) hx hb hts i_Mo hown hK hP 0 mW_0 cl_11 17 (by decide) (hts _ k_6_177) (fun _ h9 => h9) (mg_what _ _) d_Mo_advance_8 ?_
  refine lv_iload_n hx hb d_Mo_advance_11 rfl (lv_at hl 0 rfl) ?_
  refine va_iald hx hb hK hP 10 0 (ma_what _ _ _ _) rfl (zt_in fx1 (by omega) (by omega)) d_Mo_advance_12 ?_
  refine lv_topi (fun x2 ex2 => ?_)
  have gx2 : x2 = (a_what S) ((f_frames S).toInt - 1).toNat := ex2.trans (congrArg _ (zt_ix fx1))
  have fx2 : x2.toInt = ((a_what S) ((f_frames S).toInt - 1).toNat).toInt := by rw [gx2]
  refine lv_istore_n (lv' := [(2, .int x2), (1, .int x1), (0, .ref h0)]) hx hb d_Mo_advance_13 rfl hl (by decide) rfl (fun ls hl => ?_)
  refine lv_iload_n hx hb d_Mo_advance_14 rfl (lv_at hl 0 rfl) ?_
  refine lv_bipush (v := 7) hx hb d_Mo_advance_15 (by decide) ?_
  refine lv_icmp_ne (tgt := 31) hx hb d_Mo_advance_17 (by decide) (fun c17_1 => ?_) (fun c17_1 => ?_)
  · first | have fc17_1 : x2.toInt < 7 := (by have := zt_ne (show x2.toInt = _ from rfl) tI_7 c17_1; omega) | have fc17_1 : 7 < x2.toInt := (by have := zt_ne (show x2.toInt = _ from rfl) tI_7 c17_1; omega) | skip
    refine j_joinH (α := Int32) (fun x H locs ls => ((x.toInt = 0 ∨ x.toInt = 1) ∧ (x.toInt = 1 → (x2.toInt = 1 ∧ (a_far S ((f_frames S).toInt - 1).toNat).toInt < (a_array S ((f_frames S).toInt - 1).toNat).toInt / 1024) ∨ (x2.toInt = 6 ∧ (a_far S ((f_frames S).toInt - 1).toNat).toInt < (a_last S ((f_frames S).toInt - 1).toNat).toInt / 1024))) ∧ va_P D classes (mW T h0 ar S) H ∧ va_D A (mW T h0 ar S) ∧ va_S A s.heap H locs ∧ lv_has ls 6 [(2, .int x2), (1, .int x1), (0, .ref h0)]) (fun x ls => F0 m 91 ls (.int x :: [])) (fun x H locs ls hI9 => ?_) (fun key1 => ?_)
    · obtain ⟨j1, rfl⟩ : ∃ z, z = x := ⟨_, rfl⟩
      obtain ⟨hj1, hP, hD, hS, hl⟩ := hI9
      have hj1 : (j1.toInt = 0 ∨ j1.toInt = 1) ∧ (j1.toInt = 1 → (x2.toInt = 1 ∧ (a_far S ((f_frames S).toInt - 1).toNat).toInt < (a_array S ((f_frames S).toInt - 1).toNat).toInt / 1024) ∨ (x2.toInt = 6 ∧ (a_far S ((f_frames S).toInt - 1).toNat).toInt < (a_last S ((f_frames S).toInt - 1).toNat).toInt / 1024)) := hj1
      have hP : va_P D classes (mW T h0 ar S) H := hP
      have hD : va_D A (mW T h0 ar S) := hD
      have hl : lv_has ls 6 [(2, .int x2), (1, .int x1), (0, .ref h0)] := hl
      refine lv_istore_n (lv' := [(3, .int j1), (2, .int x2), (1, .int x1), (0, .ref h0)]) hx hb d_Mo_advance_91 rfl hl (by decide) rfl (fun ls hl => ?_)
      refine j_joinH (α := Int32) (fun x H locs ls => ((x.toInt = 0 ∨ x.toInt = 1) ∧ (x.toInt = 1 → (x2.toInt = 3 ∧ ((a_grows S ((f_frames S).toInt - 1).toNat).toInt < 0 → (a_last S ((f_frames S).toInt - 1).toNat).toInt ≤ (a_value S ((f_frames S).toInt - 1).toNat).toInt) ∧ (0 ≤ (a_grows S ((f_frames S).toInt - 1).toNat).toInt → (a_value S ((f_frames S).toInt - 1).toNat).toInt ≤ (a_last S ((f_frames S).toInt - 1).toNat).toInt)) ∨ x2.toInt = 4 ∨ x2.toInt = 5)) ∧ va_P D classes (mW T h0 ar S) H ∧ va_D A (mW T h0 ar S) ∧ va_S A s.heap H locs ∧ lv_has ls 6 [(3, .int j1), (2, .int x2), (1, .int x1), (0, .ref h0)]) (fun x ls => F0 m 182 ls (.int x :: [])) (fun x H locs ls hI9 => ?_) (fun key2 => ?_)
      · obtain ⟨j2, rfl⟩ : ∃ z, z = x := ⟨_, rfl⟩
        obtain ⟨hj2, hP, hD, hS, hl⟩ := hI9
        have hj2 : (j2.toInt = 0 ∨ j2.toInt = 1) ∧ (j2.toInt = 1 → (x2.toInt = 3 ∧ ((a_grows S ((f_frames S).toInt - 1).toNat).toInt < 0 → (a_last S ((f_frames S).toInt - 1).toNat).toInt ≤ (a_value S ((f_frames S).toInt - 1).toNat).toInt) ∧ (0 ≤ (a_grows S ((f_frames S).toInt - 1).toNat).toInt → (a_value S ((f_frames S).toInt - 1).toNat).toInt ≤ (a_last S ((f_frames S).toInt - 1).toNat).toInt)) ∨ x2.toInt = 4 ∨ x2.toInt = 5) := hj2
        have hP : va_P D classes (mW T h0 ar S) H := hP
        have hD : va_D A (mW T h0 ar S) := hD
        have hl : lv_has ls 6 [(3, .int j1), (2, .int x2), (1, .int x1), (0, .ref h0)] := hl
        refine lv_istore (lv' := [(4, .int j2), (3, .int j1), (2, .int x2), (1, .int x1), (0, .ref h0)]) hx hb d_Mo_advance_182 hl (by decide) rfl (fun ls hl => ?_)
        refine j_joinH (α := Unit) (fun x H locs ls => ((x2.toInt = 1 ∧ 0 ≤ (a_far S ((f_frames S).toInt - 1).toNat).toInt ∧ (a_far S ((f_frames S).toInt - 1).toNat).toInt < (a_array S ((f_frames S).toInt - 1).toNat).toInt / 1024) ∨ (x2.toInt = 6 ∧ 0 ≤ (a_far S ((f_frames S).toInt - 1).toNat).toInt ∧ (a_far S ((f_frames S).toInt - 1).toNat).toInt < (a_last S ((f_frames S).toInt - 1).toNat).toInt / 1024) ∨ (x2.toInt = 3 ∧ ((a_grows S ((f_frames S).toInt - 1).toNat).toInt < 0 → (a_last S ((f_frames S).toInt - 1).toNat).toInt ≤ (a_value S ((f_frames S).toInt - 1).toNat).toInt) ∧ (0 ≤ (a_grows S ((f_frames S).toInt - 1).toNat).toInt → (a_value S ((f_frames S).toInt - 1).toNat).toInt ≤ (a_last S ((f_frames S).toInt - 1).toNat).toInt)) ∨ x2.toInt = 4 ∨ x2.toInt = 5) ∧ va_P D classes (mW T h0 ar S) H ∧ va_D A (mW T h0 ar S) ∧ va_S A s.heap H locs ∧ lv_has ls 6 [(4, .int j2), (3, .int j1), (2, .int x2), (1, .int x1), (0, .ref h0)]) (fun x ls => F0 m 199 ls ([])) (fun x H locs ls hI9 => ?_) (fun key3 => ?_)
        · obtain ⟨hj3, hP, hD, hS, hl⟩ := hI9
          have hj3 : (x2.toInt = 1 ∧ 0 ≤ (a_far S ((f_frames S).toInt - 1).toNat).toInt ∧ (a_far S ((f_frames S).toInt - 1).toNat).toInt < (a_array S ((f_frames S).toInt - 1).toNat).toInt / 1024) ∨ (x2.toInt = 6 ∧ 0 ≤ (a_far S ((f_frames S).toInt - 1).toNat).toInt ∧ (a_far S ((f_frames S).toInt - 1).toNat).toInt < (a_last S ((f_frames S).toInt - 1).toNat).toInt / 1024) ∨ (x2.toInt = 3 ∧ ((a_grows S ((f_frames S).toInt - 1).toNat).toInt < 0 → (a_last S ((f_frames S).toInt - 1).toNat).toInt ≤ (a_value S ((f_frames S).toInt - 1).toNat).toInt) ∧ (0 ≤ (a_grows S ((f_frames S).toInt - 1).toNat).toInt → (a_value S ((f_frames S).toInt - 1).toNat).toInt ≤ (a_last S ((f_frames S).toInt - 1).toNat).toInt)) ∨ x2.toInt = 4 ∨ x2.toInt = 5 := hj3
          have hP : va_P D classes (mW T h0 ar S) H := hP
          have hD : va_D A (mW T h0 ar S) := hD
          have hl : lv_has ls 6 [(4, .int j2), (3, .int j1), (2, .int x2), (1, .int x1), (0, .ref h0)] := hl
          refine lv_aload_n hx hb d_Mo_advance_199 rfl (lv_at hl 4 rfl) ?_
          refine va_get (D := D) (ci := 11) (v := .ref (ar 11)) (C := "PageScribeModel") (T := F_Mo) (N := 45) hx hb hts i_Mo hown hK hP 0 mW_0 cl_11 19 (by decide) (hts _ k_6_179) (fun _ h9 => h9) (mg_far _ _) d_Mo_advance_200 ?_
          refine lv_iload_n hx hb d_Mo_advance_203 rfl (lv_at hl 3 rfl) ?_
          refine lv_dup2_11 hx hb d_Mo_advance_204 rfl rfl ?_
          refine va_iald hx hb hK hP 12 0 (ma_far _ _ _ _) rfl (zt_in fx1 (by omega) (by omega)) d_Mo_advance_205 ?_
          refine lv_topi (fun x3 ex3 => ?_)
          have gx3 : x3 = (a_far S) ((f_frames S).toInt - 1).toNat := ex3.trans (congrArg _ (zt_ix fx1))
          have fx3 : x3.toInt = ((a_far S) ((f_frames S).toInt - 1).toNat).toInt := by rw [gx3]
          refine lv_iconst (v := 1) hx hb d_Mo_advance_206 (by decide) ?_
          refine lv_iadd hx hb d_Mo_advance_207 ?_
          refine lv_topi (fun x4 ex4 => ?_)
          have hj3 := hj3
          clear hj1 hj2
          have hfar : (a_what S ((f_frames S).toInt - 1).toNat).toInt = 1 ∨ (a_what S ((f_frames S).toInt - 1).toNat).toInt = 6 → x4.toInt = (a_far S ((f_frames S).toInt - 1).toNat).toInt + 1 ∧ 0 ≤ (a_far S ((f_frames S).toInt - 1).toNat).toInt := fun q => by
            have h1 : 0 ≤ (a_far S ((f_frames S).toInt - 1).toNat).toInt ∧ (a_far S ((f_frames S).toInt - 1).toNat).toInt ≤ 200 := by clear ex4; by_cases c6 : (a_what S ((f_frames S).toInt - 1).toNat).toInt = 6; (have := fq_l ft c6; omega); omega
            rw [ex4]; exact ⟨(zt_add fx3 tI_1 (by omega) (by omega)).trans (by omega), h1.1⟩
          refine va_iast hx hb hK hP hD hS 12 0 (ma_far _ _ _ _) rfl (zt_in fx1 (by omega) (by omega)) d_Mo_advance_208 (fun H locs hP hD hS => ?_)
          rw [ms_far] at hP hD
          rw [zt_ix fx1] at hP hD
          have hP : va_P D classes (mW T h0 ar ((S.1, S.2.1, ((f_under S), (a_what S), (a_array S), (upd (a_far S) (((f_frames S).toInt - 1).toNat) x4), (a_value S), (a_grows S), (a_last S), (a_text S)), S.2.2.2.1, S.2.2.2.2.1, S.2.2.2.2.2) : MS)) H := hP
          have hD : va_D A (mW T h0 ar ((S.1, S.2.1, ((f_under S), (a_what S), (a_array S), (upd (a_far S) (((f_frames S).toInt - 1).toNat) x4), (a_value S), (a_grows S), (a_last S), (a_text S)), S.2.2.2.1, S.2.2.2.2.1, S.2.2.2.2.2) : MS)) := hD
          refine lv_iload_n hx hb d_Mo_advance_209 rfl (lv_at hl 2 rfl) ?_
          refine lv_iconst (v := 1) hx hb d_Mo_advance_210 (by decide) ?_
          refine lv_icmp_ne (tgt := 246) hx hb d_Mo_advance_211 (by decide) (fun c211_1 => ?_) (fun c211_1 => ?_)
          · first | have fc211_1 : x2.toInt < 1 := (by have := zt_ne (show x2.toInt = _ from rfl) tI_1 c211_1; omega) | have fc211_1 : 1 < x2.toInt := (by have := zt_ne (show x2.toInt = _ from rfl) tI_1 c211_1; omega) | skip
            refine lv_aload_n hx hb d_Mo_advance_246 rfl (lv_at hl 4 rfl) ?_
            refine jm_ci (w := (fun u => u)) hK hP hD hS hA (va_runV (As := []) (rest := []) F (m_step2 l D T h0 ar ((S.1, S.2.1, ((f_under S), (a_what S), (a_array S), (upd (a_far S) (((f_frames S).toInt - 1).toNat) x4), (a_value S), (a_grows S), (a_last S), (a_text S)), S.2.2.2.1, S.2.2.2.2.1, S.2.2.2.2.2) : MS)  H.size ⟨i_size, i_taken, i_vals, i_room, i_dicts, i_deep, i_open, i_cells, i_points, i_part, i_length, i_knows, i_page, i_text, i_pats, i_fuel, (fr_far i_fr (fun q => by have := hfar q; omega)), i_ink⟩) (j_cV (k := 0) (C := "PageScribeModel") hts k_7_135 k_1_12 k_7_132 k_7_134 k_0_93 (by decide +kernel) ⟨Nat.le_of_ble_eq_true rfl, Nat.le_of_ble_eq_true rfl⟩) (jm_pre hK hP hD) rfl rfl hl.1 rfl (lv_room (Nat.le_of_ble_eq_true rfl)) d_Mo_advance_247 ⟨Nat.le_of_ble_eq_true rfl, Nat.le_of_ble_eq_true rfl⟩) (fun rv1 S1 H locs hw1 hP hD hS => ?_)
            have hP : va_P D classes (mW T h0 ar S1) H := hP
            have hD : va_D A (mW T h0 ar S1) := hD
            obtain ⟨⟨i_size, i_taken, i_vals, i_room, i_dicts, i_deep, i_open, i_cells, i_points, i_part, i_length, i_knows, i_page, i_text, i_pats, i_fuel, i_fr, i_ink⟩, kpF_S1, kpT_S1, qqhw1⟩ := hw1
            have kST_S1 : kT S S1 := kT_t (show kT S ((S.1, S.2.1, ((f_under S), (a_what S), (a_array S), (upd (a_far S) (((f_frames S).toInt - 1).toNat) x4), (a_value S), (a_grows S), (a_last S), (a_text S)), S.2.2.2.1, S.2.2.2.2.1, S.2.2.2.2.2) : MS) from (kT_r S)) kpT_S1
            have nwhat_S1 : (a_what S1 ((f_frames S).toInt - 1).toNat).toInt = ((a_what S) ((f_frames S).toInt - 1).toNat).toInt := congrArg Int32.toInt (congrFun kpF_S1.2.2.1 ((f_frames S).toInt - 1).toNat)
            have narray_S1 : (a_array S1 ((f_frames S).toInt - 1).toNat).toInt = ((a_array S) ((f_frames S).toInt - 1).toNat).toInt := congrArg Int64.toInt (congrFun kpF_S1.2.2.2.1 ((f_frames S).toInt - 1).toNat)
            have nfar_S1 : (a_far S1 ((f_frames S).toInt - 1).toNat).toInt = ((upd (a_far S) (((f_frames S).toInt - 1).toNat) x4) ((f_frames S).toInt - 1).toNat).toInt := congrArg Int32.toInt (congrFun kpF_S1.2.2.2.2.1 ((f_frames S).toInt - 1).toNat)
            have nvalue_S1 : (a_value S1 ((f_frames S).toInt - 1).toNat).toInt = ((a_value S) ((f_frames S).toInt - 1).toNat).toInt := congrArg Int64.toInt (congrFun kpF_S1.2.2.2.2.2.1 ((f_frames S).toInt - 1).toNat)
            have ngrows_S1 : (a_grows S1 ((f_frames S).toInt - 1).toNat).toInt = ((a_grows S) ((f_frames S).toInt - 1).toNat).toInt := congrArg Int64.toInt (congrFun kpF_S1.2.2.2.2.2.2.1 ((f_frames S).toInt - 1).toNat)
            have nlast_S1 : (a_last S1 ((f_frames S).toInt - 1).toNat).toInt = ((a_last S) ((f_frames S).toInt - 1).toNat).toInt := congrArg Int64.toInt (congrFun kpF_S1.2.2.2.2.2.2.2 ((f_frames S).toInt - 1).toNat)
            have nframes_S1 : (f_frames S1).toInt = (f_frames S).toInt := congrArg Int32.toInt kpF_S1.1
            have nunder_S1 : (f_under S1).toInt = (f_under S).toInt := congrArg Int32.toInt kpF_S1.2.1
            have nfuel_S1 : (f_fuel S1).toInt = (f_fuel S).toInt := congrArg Int32.toInt kpT_S1.2.2.2.2.2.2
            have nlevel_S1 : (f_level S1).toInt = (f_level S).toInt := congrArg Int32.toInt kpT_S1.2.2.2.2.1
            have npending_S1 : (f_pending S1).toInt = (f_pending S).toInt := congrArg Int32.toInt kpT_S1.2.2.2.1
            have nlength_S1 : (f_length S1).toInt = (f_length S).toInt := congrArg Int32.toInt kpT_S1.1
            have nat_S1 : (f_at S1).toInt = (f_at S).toInt := congrArg Int32.toInt kpT_S1.2.1
            have qhw1 : (rv1.toInt = 16 ∧ (f_steps S1).toInt = (f_steps S).toInt ∧ (a_kinds S1) = (a_kinds S) ∧ (a_codes S1) = (a_codes S) ∧ (a_reals S1) = (a_reals S)) ∨ (rv1.toInt = 0 ∧ (f_steps S1).toInt = (f_steps S).toInt + 1 ∧ (a_kinds S1) = (a_kinds S) ∧ (a_codes S1) = (a_codes S) ∧ (a_reals S1) = (a_reals S)) := qqhw1
            have hs2 : (rv1.toInt = 16 ∧ (f_steps S1).toInt = (f_steps S).toInt) ∨ (rv1.toInt = 0 ∧ (f_steps S1).toInt = (f_steps S).toInt + 1) := by rcases qhw1 with q | q; exact Or.inl ⟨q.1, q.2.1⟩; exact Or.inr ⟨q.1, q.2.1⟩
            clear qhw1
            skip
            refine lv_istore (lv' := [(5, .int rv1), (4, .int j2), (3, .int j1), (2, .int x2), (1, .int x1), (0, .ref h0)]) hx hb d_Mo_advance_250 hl (by decide) rfl (fun ls hl => ?_)
            refine lv_iload hx hb d_Mo_advance_252 (lv_at hl 0 rfl) ?_
            refine lv_if_ne (tgt := 275) hx hb d_Mo_advance_254 (by decide) (fun c254_1 => ?_) (fun c254_1 => ?_)
            · have fc254_1 : ¬ rv1.toInt = 0 := zt_ne (show rv1.toInt = _ from rfl) tI_0 c254_1
              refine lv_iload hx hb d_Mo_advance_275 (lv_at hl 0 rfl) ?_
              refine lv_if_ne (tgt := 313) hx hb d_Mo_advance_277 (by decide) (fun c277_1 => ?_) (fun c277_1 => ?_)
              · have fc277_1 : ¬ rv1.toInt = 0 := zt_ne (show rv1.toInt = _ from rfl) tI_0 c277_1
                refine lv_aload_n hx hb d_Mo_advance_313 rfl (lv_at hl 5 rfl) ?_
                refine va_get (D := D) (ci := 11) (v := .ref (ar 12)) (C := "PageScribeModel") (T := F_Mo) (N := 45) hx hb hts i_Mo hown hK hP 0 mW_0 cl_11 20 (by decide) (hts _ k_6_180) (fun _ h9 => h9) (mg_value _ _) d_Mo_advance_314 ?_
                refine lv_iload_n hx hb d_Mo_advance_317 rfl (lv_at hl 4 rfl) ?_
                refine lv_dup2_11 hx hb d_Mo_advance_318 rfl rfl ?_
                refine va_lald hx hb hK hP 13 1 (ma_value _ _ _ _) rfl (zt_in fx1 (by omega) (by omega)) d_Mo_advance_319 ?_
                refine lv_topl (fun x5 ex5 => ?_)
                have gx5 : x5 = (a_value S1) ((f_frames S).toInt - 1).toNat := ex5.trans (congrArg _ (zt_ix fx1))
                have fx5 : x5.toInt = ((a_value S1) ((f_frames S).toInt - 1).toNat).toInt := by rw [gx5]
                refine j_joinH (α := Int64) (fun x H locs ls => (x2.toInt = 3 → x.toInt = (a_grows S1 ((f_frames S).toInt - 1).toNat).toInt) ∧ va_P D classes (mW T h0 ar S1) H ∧ va_D A (mW T h0 ar S1) ∧ va_S A s.heap H locs ∧ lv_has ls 6 [(5, .int rv1), (4, .int j2), (3, .int j1), (2, .int x2), (1, .int x1), (0, .ref h0)]) (fun x ls => F0 m 337 ls (.long x :: [.long x5, .int x1, .ref (ar 12)])) (fun x H locs ls hI9 => ?_) (fun key4 => ?_)
                · obtain ⟨j4, rfl⟩ : ∃ z, z = x := ⟨_, rfl⟩
                  obtain ⟨hj4, hP, hD, hS, hl⟩ := hI9
                  have hj4 : x2.toInt = 3 → j4.toInt = (a_grows S1 ((f_frames S).toInt - 1).toNat).toInt := hj4
                  have hP : va_P D classes (mW T h0 ar S1) H := hP
                  have hD : va_D A (mW T h0 ar S1) := hD
                  have hl : lv_has ls 6 [(5, .int rv1), (4, .int j2), (3, .int j1), (2, .int x2), (1, .int x1), (0, .ref h0)] := hl
                  refine lv_ladd hx hb d_Mo_advance_337 ?_
                  refine lv_topl (fun x6 ex6 => ?_)
                  have hval : (a_what S1 ((f_frames S).toInt - 1).toNat).toInt = 3 → (0 ≤ (a_grows S1 ((f_frames S).toInt - 1).toNat).toInt → -2147483648 ≤ x6.toInt) ∧ ((a_grows S1 ((f_frames S).toInt - 1).toNat).toInt < 0 → x6.toInt ≤ 2147483647) := fun q => by
                    have q1 := fq_o ft (by omega)
                    have q2 := fq_v ft (by omega) (by omega)
                    have q3 := hj4 (by omega)
                    have q4 : x6.toInt = x5.toInt + j4.toInt := by rw [ex6]; exact zu_add rfl rfl (by omega) (by omega)
                    omega
                  refine va_last hx hb hK hP hD hS 13 1 (ma_value _ _ _ _) rfl (zt_in fx1 (by omega) (by omega)) d_Mo_advance_338 (fun H locs hP hD hS => ?_)
                  rw [ms_value] at hP hD
                  rw [zt_ix fx1] at hP hD
                  have hP : va_P D classes (mW T h0 ar ((S1.1, S1.2.1, ((f_under S1), (a_what S1), (a_array S1), (a_far S1), (vp_updL (a_value S1) (((f_frames S).toInt - 1).toNat) x6), (a_grows S1), (a_last S1), (a_text S1)), S1.2.2.2.1, S1.2.2.2.2.1, S1.2.2.2.2.2) : MS)) H := hP
                  have hD : va_D A (mW T h0 ar ((S1.1, S1.2.1, ((f_under S1), (a_what S1), (a_array S1), (a_far S1), (vp_updL (a_value S1) (((f_frames S).toInt - 1).toNat) x6), (a_grows S1), (a_last S1), (a_text S1)), S1.2.2.2.1, S1.2.2.2.2.1, S1.2.2.2.2.2) : MS)) := hD
                  refine lv_iload hx hb d_Mo_advance_339 (lv_at hl 0 rfl) ?_
                  refine lv_if_eq (tgt := 349) hx hb d_Mo_advance_341 (by decide) (fun c341_1 => ?_) (fun c341_1 => ?_)
                  · have fc341_1 : rv1.toInt = 0 := zt_eq (show rv1.toInt = _ from rfl) tI_0 c341_1
                    refine lv_aload_n hx hb d_Mo_advance_349 rfl (lv_at hl 5 rfl) ?_
                    refine lv_aload_n hx hb d_Mo_advance_350 rfl (lv_at hl 5 rfl) ?_
                    refine va_get (D := D) (ci := 11) (v := .ref (ar 10)) (C := "PageScribeModel") (T := F_Mo) (N := 45) hx hb hts i_Mo hown hK hP 0 mW_0 cl_11 18 (by decide) (hts _ k_6_178) (fun _ h9 => h9) (mg_array _ _) d_Mo_advance_351 ?_
                    refine lv_iload_n hx hb d_Mo_advance_354 rfl (lv_at hl 4 rfl) ?_
                    refine va_lald hx hb hK hP 11 1 (ma_array _ _ _ _) rfl (zt_in fx1 (by omega) (by omega)) d_Mo_advance_355 ?_
                    refine lv_topl (fun x7 ex7 => ?_)
                    have gx7 : x7 = (a_array S1) ((f_frames S).toInt - 1).toNat := ex7.trans (congrArg _ (zt_ix fx1))
                    have fx7 : x7.toInt = ((a_array S1) ((f_frames S).toInt - 1).toNat).toInt := by rw [gx7]
                    refine jm_ci (w := (fun u => u)) hK hP hD hS hA (va_runV (As := [.long x7]) (rest := []) F (m_runArray l D T h0 ar ((S1.1, S1.2.1, ((f_under S1), (a_what S1), (a_array S1), (a_far S1), (vp_updL (a_value S1) (((f_frames S).toInt - 1).toNat) x6), (a_grows S1), (a_last S1), (a_text S1)), S1.2.2.2.1, S1.2.2.2.2.1, S1.2.2.2.2.2) : MS) x7 H.size ⟨i_size, i_taken, i_vals, i_room, i_dicts, i_deep, i_open, i_cells, i_points, i_part, i_length, i_knows, i_page, i_text, i_pats, i_fuel, (fr_val i_fr (fun q => by have := hval (by omega); omega)), i_ink⟩ (show cOk x7 by omega)) (j_cV (k := 1) (C := "PageScribeModel") hts k_8_55 k_1_12 k_8_52 k_8_54 k_0_128 (by decide +kernel) ⟨Nat.le_of_ble_eq_true rfl, Nat.le_of_ble_eq_true rfl⟩) (jm_pre hK hP hD) rfl rfl hl.1 rfl (lv_room (Nat.le_of_ble_eq_true rfl)) d_Mo_advance_356 ⟨Nat.le_of_ble_eq_true rfl, Nat.le_of_ble_eq_true rfl⟩) (fun rv2 S2 H locs hw2 hP hD hS => ?_)
                    have hP : va_P D classes (mW T h0 ar S2) H := hP
                    have hD : va_D A (mW T h0 ar S2) := hD
                    obtain ⟨⟨i_size, i_taken, i_vals, i_room, i_dicts, i_deep, i_open, i_cells, i_points, i_part, i_length, i_knows, i_page, i_text, i_pats, i_fuel, i_fr, i_ink⟩, kpA_S2, qqhw2⟩ := hw2
                    have kST_S2 : kT S S2 := kT_t (show kT S ((S1.1, S1.2.1, ((f_under S1), (a_what S1), (a_array S1), (a_far S1), (vp_updL (a_value S1) (((f_frames S).toInt - 1).toNat) x6), (a_grows S1), (a_last S1), (a_text S1)), S1.2.2.2.1, S1.2.2.2.2.1, S1.2.2.2.2.2) : MS) from kST_S1) (kT_A kpA_S2)
                    have nsteps_S2 : (f_steps S2).toInt = (f_steps S1).toInt := congrArg Int32.toInt kpA_S2.2.2.2.2.1
                    have nfuel_S2 : (f_fuel S2).toInt = (f_fuel S1).toInt := congrArg Int32.toInt kpA_S2.2.2.2.1
                    have nlevel_S2 : (f_level S2).toInt = (f_level S1).toInt := congrArg Int32.toInt kpA_S2.2.2.2.2.2.2.1
                    have npending_S2 : (f_pending S2).toInt = (f_pending S1).toInt := congrArg Int32.toInt kpA_S2.2.2.2.2.2.1
                    have nlength_S2 : (f_length S2).toInt = (f_length S1).toInt := congrArg Int32.toInt kpA_S2.1
                    have nat_S2 : (f_at S2).toInt = (f_at S1).toInt := congrArg Int32.toInt kpA_S2.2.1
                    have qhw2 : (rv2.toInt = 0 ∧ (f_frames S2).toInt = (f_frames S1).toInt + 1) ∨ (rv2.toInt = 12 ∧ (f_frames S2).toInt = (f_frames S1).toInt) := qqhw2
                    exact j_iret F hr hlocks hK hS S2 ⟨⟨i_size, i_taken, i_vals, i_room, i_dicts, i_deep, i_open, i_cells, i_points, i_part, i_length, i_knows, i_page, i_text, i_pats, i_fuel, i_fr, i_ink⟩, kST_S2, (show -1 ≤ rv2.toInt ∧ rv2.toInt ≤ 16 ∧ (rv2.toInt = 16 ∨ (f_frames S2).toInt + 3 * (f_fuel S2).toInt - 3 * (f_steps S2).toInt + 1 ≤ (f_frames S).toInt + 3 * (f_fuel S).toInt - 3 * (f_steps S).toInt) by omega)⟩ hP hD d_Mo_advance_359
                  · have fc341_1 : ¬ rv1.toInt = 0 := zt_ne (show rv1.toInt = _ from rfl) tI_0 c341_1
                    refine lv_iload hx hb d_Mo_advance_344 (lv_at hl 0 rfl) ?_
                    refine lv_goto (tgt := 359) hx hb d_Mo_advance_346 (by decide) ?_
                    exact j_iret F hr hlocks hK hS ((S1.1, S1.2.1, ((f_under S1), (a_what S1), (a_array S1), (a_far S1), (vp_updL (a_value S1) (((f_frames S).toInt - 1).toNat) x6), (a_grows S1), (a_last S1), (a_text S1)), S1.2.2.2.1, S1.2.2.2.2.1, S1.2.2.2.2.2) : MS) ⟨⟨i_size, i_taken, i_vals, i_room, i_dicts, i_deep, i_open, i_cells, i_points, i_part, i_length, i_knows, i_page, i_text, i_pats, i_fuel, (fr_val i_fr (fun q => by have := hval (by omega); omega)), i_ink⟩, kST_S1, (show -1 ≤ rv1.toInt ∧ rv1.toInt ≤ 16 ∧ (rv1.toInt = 16 ∨ (f_frames S1).toInt + 3 * (f_fuel S1).toInt - 3 * (f_steps S1).toInt + 1 ≤ (f_frames S).toInt + 3 * (f_fuel S).toInt - 3 * (f_steps S).toInt) by omega)⟩ hP hD d_Mo_advance_359
                · refine lv_iload_n hx hb d_Mo_advance_320 rfl (lv_at hl 3 rfl) ?_
                  refine lv_iconst (v := 3) hx hb d_Mo_advance_321 (by decide) ?_
                  refine lv_icmp_ne (tgt := 334) hx hb d_Mo_advance_322 (by decide) (fun c322_1 => ?_) (fun c322_1 => ?_)
                  · have fc322_1 : ¬ x2.toInt = 3 := zt_ne (show x2.toInt = _ from rfl) tI_3 c322_1
                    refine lv_ldc2 (v := (-1)) hx hb hown (hts _ k_7_238) d_Mo_advance_334 ?_
                    exact key4 (-1 : Int64) _ _ _ ⟨(show x2.toInt = 3 → (-1 : Int64).toInt = (a_grows S1 ((f_frames S).toInt - 1).toNat).toInt by have := tJ_m1; omega), hP, hD, hS, lv_sub hl [0, 1, 2, 3, 4, 5] rfl⟩
                  · have fc322_1 : x2.toInt = 3 := zt_eq (show x2.toInt = _ from rfl) tI_3 c322_1
                    refine lv_aload_n hx hb d_Mo_advance_325 rfl (lv_at hl 5 rfl) ?_
                    refine va_get (D := D) (ci := 11) (v := .ref (ar 13)) (C := "PageScribeModel") (T := F_Mo) (N := 45) hx hb hts i_Mo hown hK hP 0 mW_0 cl_11 21 (by decide) (hts _ k_6_181) (fun _ h9 => h9) (mg_grows _ _) d_Mo_advance_326 ?_
                    refine lv_iload_n hx hb d_Mo_advance_329 rfl (lv_at hl 4 rfl) ?_
                    refine va_lald hx hb hK hP 14 1 (ma_grows _ _ _ _) rfl (zt_in fx1 (by omega) (by omega)) d_Mo_advance_330 ?_
                    refine lv_topl (fun x8 ex8 => ?_)
                    have gx8 : x8 = (a_grows S1) ((f_frames S).toInt - 1).toNat := ex8.trans (congrArg _ (zt_ix fx1))
                    have fx8 : x8.toInt = ((a_grows S1) ((f_frames S).toInt - 1).toNat).toInt := by rw [gx8]
                    refine lv_goto (tgt := 337) hx hb d_Mo_advance_331 (by decide) ?_
                    exact key4 (x8) _ _ _ ⟨(show x2.toInt = 3 → x8.toInt = (a_grows S1 ((f_frames S).toInt - 1).toNat).toInt by omega), hP, hD, hS, lv_sub hl [0, 1, 2, 3, 4, 5] rfl⟩
              · have fc277_1 : rv1.toInt = 0 := zt_eq (show rv1.toInt = _ from rfl) tI_0 c277_1
                refine lv_iload_n hx hb d_Mo_advance_280 rfl (lv_at hl 3 rfl) ?_
                refine lv_bipush (v := 6) hx hb d_Mo_advance_281 (by decide) ?_
                refine lv_icmp_ne (tgt := 313) hx hb d_Mo_advance_283 (by decide) (fun c283_1 => ?_) (fun c283_1 => ?_)
                · have fc283_1 : ¬ x2.toInt = 6 := zt_ne (show x2.toInt = _ from rfl) tI_6 c283_1
                  refine lv_aload_n hx hb d_Mo_advance_313 rfl (lv_at hl 5 rfl) ?_
                  refine va_get (D := D) (ci := 11) (v := .ref (ar 12)) (C := "PageScribeModel") (T := F_Mo) (N := 45) hx hb hts i_Mo hown hK hP 0 mW_0 cl_11 20 (by decide) (hts _ k_6_180) (fun _ h9 => h9) (mg_value _ _) d_Mo_advance_314 ?_
                  refine lv_iload_n hx hb d_Mo_advance_317 rfl (lv_at hl 4 rfl) ?_
                  refine lv_dup2_11 hx hb d_Mo_advance_318 rfl rfl ?_
                  refine va_lald hx hb hK hP 13 1 (ma_value _ _ _ _) rfl (zt_in fx1 (by omega) (by omega)) d_Mo_advance_319 ?_
                  refine lv_topl (fun x9 ex9 => ?_)
                  have gx9 : x9 = (a_value S1) ((f_frames S).toInt - 1).toNat := ex9.trans (congrArg _ (zt_ix fx1))
                  have fx9 : x9.toInt = ((a_value S1) ((f_frames S).toInt - 1).toNat).toInt := by rw [gx9]
                  refine j_joinH (α := Int64) (fun x H locs ls => (x2.toInt = 3 → x.toInt = (a_grows S1 ((f_frames S).toInt - 1).toNat).toInt) ∧ va_P D classes (mW T h0 ar S1) H ∧ va_D A (mW T h0 ar S1) ∧ va_S A s.heap H locs ∧ lv_has ls 6 [(5, .int rv1), (4, .int j2), (3, .int j1), (2, .int x2), (1, .int x1), (0, .ref h0)]) (fun x ls => F0 m 337 ls (.long x :: [.long x9, .int x1, .ref (ar 12)])) (fun x H locs ls hI9 => ?_) (fun key5 => ?_)
                  · obtain ⟨j5, rfl⟩ : ∃ z, z = x := ⟨_, rfl⟩
                    obtain ⟨hj5, hP, hD, hS, hl⟩ := hI9
                    have hj5 : x2.toInt = 3 → j5.toInt = (a_grows S1 ((f_frames S).toInt - 1).toNat).toInt := hj5
                    have hP : va_P D classes (mW T h0 ar S1) H := hP
                    have hD : va_D A (mW T h0 ar S1) := hD
                    have hl : lv_has ls 6 [(5, .int rv1), (4, .int j2), (3, .int j1), (2, .int x2), (1, .int x1), (0, .ref h0)] := hl
                    refine lv_ladd hx hb d_Mo_advance_337 ?_
                    refine lv_topl (fun x10 ex10 => ?_)
                    have hval : (a_what S1 ((f_frames S).toInt - 1).toNat).toInt = 3 → (0 ≤ (a_grows S1 ((f_frames S).toInt - 1).toNat).toInt → -2147483648 ≤ x10.toInt) ∧ ((a_grows S1 ((f_frames S).toInt - 1).toNat).toInt < 0 → x10.toInt ≤ 2147483647) := fun q => by
                      have q1 := fq_o ft (by omega)
                      have q2 := fq_v ft (by omega) (by omega)
                      have q3 := hj5 (by omega)
                      have q4 : x10.toInt = x9.toInt + j5.toInt := by rw [ex10]; exact zu_add rfl rfl (by omega) (by omega)
                      omega
                    refine va_last hx hb hK hP hD hS 13 1 (ma_value _ _ _ _) rfl (zt_in fx1 (by omega) (by omega)) d_Mo_advance_338 (fun H locs hP hD hS => ?_)
                    rw [ms_value] at hP hD
                    rw [zt_ix fx1] at hP hD
                    have hP : va_P D classes (mW T h0 ar ((S1.1, S1.2.1, ((f_under S1), (a_what S1), (a_array S1), (a_far S1), (vp_updL (a_value S1) (((f_frames S).toInt - 1).toNat) x10), (a_grows S1), (a_last S1), (a_text S1)), S1.2.2.2.1, S1.2.2.2.2.1, S1.2.2.2.2.2) : MS)) H := hP
                    have hD : va_D A (mW T h0 ar ((S1.1, S1.2.1, ((f_under S1), (a_what S1), (a_array S1), (a_far S1), (vp_updL (a_value S1) (((f_frames S).toInt - 1).toNat) x10), (a_grows S1), (a_last S1), (a_text S1)), S1.2.2.2.1, S1.2.2.2.2.1, S1.2.2.2.2.2) : MS)) := hD
                    refine lv_iload hx hb d_Mo_advance_339 (lv_at hl 0 rfl) ?_
                    refine lv_if_eq (tgt := 349) hx hb d_Mo_advance_341 (by decide) (fun c341_2 => ?_) (fun c341_2 => ?_)
                    · have fc341_2 : rv1.toInt = 0 := zt_eq (show rv1.toInt = _ from rfl) tI_0 c341_2
                      refine lv_aload_n hx hb d_Mo_advance_349 rfl (lv_at hl 5 rfl) ?_
                      refine lv_aload_n hx hb d_Mo_advance_350 rfl (lv_at hl 5 rfl) ?_
                      refine va_get (D := D) (ci := 11) (v := .ref (ar 10)) (C := "PageScribeModel") (T := F_Mo) (N := 45) hx hb hts i_Mo hown hK hP 0 mW_0 cl_11 18 (by decide) (hts _ k_6_178) (fun _ h9 => h9) (mg_array _ _) d_Mo_advance_351 ?_
                      refine lv_iload_n hx hb d_Mo_advance_354 rfl (lv_at hl 4 rfl) ?_
                      refine va_lald hx hb hK hP 11 1 (ma_array _ _ _ _) rfl (zt_in fx1 (by omega) (by omega)) d_Mo_advance_355 ?_
                      refine lv_topl (fun x11 ex11 => ?_)
                      have gx11 : x11 = (a_array S1) ((f_frames S).toInt - 1).toNat := ex11.trans (congrArg _ (zt_ix fx1))
                      have fx11 : x11.toInt = ((a_array S1) ((f_frames S).toInt - 1).toNat).toInt := by rw [gx11]
                      refine jm_ci (w := (fun u => u)) hK hP hD hS hA (va_runV (As := [.long x11]) (rest := []) F (m_runArray l D T h0 ar ((S1.1, S1.2.1, ((f_under S1), (a_what S1), (a_array S1), (a_far S1), (vp_updL (a_value S1) (((f_frames S).toInt - 1).toNat) x10), (a_grows S1), (a_last S1), (a_text S1)), S1.2.2.2.1, S1.2.2.2.2.1, S1.2.2.2.2.2) : MS) x11 H.size ⟨i_size, i_taken, i_vals, i_room, i_dicts, i_deep, i_open, i_cells, i_points, i_part, i_length, i_knows, i_page, i_text, i_pats, i_fuel, (fr_val i_fr (fun q => by have := hval (by omega); omega)), i_ink⟩ (show cOk x11 by omega)) (j_cV (k := 1) (C := "PageScribeModel") hts k_8_55 k_1_12 k_8_52 k_8_54 k_0_128 (by decide +kernel) ⟨Nat.le_of_ble_eq_true rfl, Nat.le_of_ble_eq_true rfl⟩) (jm_pre hK hP hD) rfl rfl hl.1 rfl (lv_room (Nat.le_of_ble_eq_true rfl)) d_Mo_advance_356 ⟨Nat.le_of_ble_eq_true rfl, Nat.le_of_ble_eq_true rfl⟩) (fun rv3 S3 H locs hw3 hP hD hS => ?_)
                      have hP : va_P D classes (mW T h0 ar S3) H := hP
                      have hD : va_D A (mW T h0 ar S3) := hD
                      obtain ⟨⟨i_size, i_taken, i_vals, i_room, i_dicts, i_deep, i_open, i_cells, i_points, i_part, i_length, i_knows, i_page, i_text, i_pats, i_fuel, i_fr, i_ink⟩, kpA_S3, qqhw3⟩ := hw3
                      have kST_S3 : kT S S3 := kT_t (show kT S ((S1.1, S1.2.1, ((f_under S1), (a_what S1), (a_array S1), (a_far S1), (vp_updL (a_value S1) (((f_frames S).toInt - 1).toNat) x10), (a_grows S1), (a_last S1), (a_text S1)), S1.2.2.2.1, S1.2.2.2.2.1, S1.2.2.2.2.2) : MS) from kST_S1) (kT_A kpA_S3)
                      have nsteps_S3 : (f_steps S3).toInt = (f_steps S1).toInt := congrArg Int32.toInt kpA_S3.2.2.2.2.1
                      have nfuel_S3 : (f_fuel S3).toInt = (f_fuel S1).toInt := congrArg Int32.toInt kpA_S3.2.2.2.1
                      have nlevel_S3 : (f_level S3).toInt = (f_level S1).toInt := congrArg Int32.toInt kpA_S3.2.2.2.2.2.2.1
                      have npending_S3 : (f_pending S3).toInt = (f_pending S1).toInt := congrArg Int32.toInt kpA_S3.2.2.2.2.2.1
                      have nlength_S3 : (f_length S3).toInt = (f_length S1).toInt := congrArg Int32.toInt kpA_S3.1
                      have nat_S3 : (f_at S3).toInt = (f_at S1).toInt := congrArg Int32.toInt kpA_S3.2.1
                      have qhw3 : (rv3.toInt = 0 ∧ (f_frames S3).toInt = (f_frames S1).toInt + 1) ∨ (rv3.toInt = 12 ∧ (f_frames S3).toInt = (f_frames S1).toInt) := qqhw3
                      exact j_iret F hr hlocks hK hS S3 ⟨⟨i_size, i_taken, i_vals, i_room, i_dicts, i_deep, i_open, i_cells, i_points, i_part, i_length, i_knows, i_page, i_text, i_pats, i_fuel, i_fr, i_ink⟩, kST_S3, (show -1 ≤ rv3.toInt ∧ rv3.toInt ≤ 16 ∧ (rv3.toInt = 16 ∨ (f_frames S3).toInt + 3 * (f_fuel S3).toInt - 3 * (f_steps S3).toInt + 1 ≤ (f_frames S).toInt + 3 * (f_fuel S).toInt - 3 * (f_steps S).toInt) by omega)⟩ hP hD d_Mo_advance_359
                    · have fc341_2 : ¬ rv1.toInt = 0 := zt_ne (show rv1.toInt = _ from rfl) tI_0 c341_2
                      refine lv_iload hx hb d_Mo_advance_344 (lv_at hl 0 rfl) ?_
                      refine lv_goto (tgt := 359) hx hb d_Mo_advance_346 (by decide) ?_
                      exact j_iret F hr hlocks hK hS ((S1.1, S1.2.1, ((f_under S1), (a_what S1), (a_array S1), (a_far S1), (vp_updL (a_value S1) (((f_frames S).toInt - 1).toNat) x10), (a_grows S1), (a_last S1), (a_text S1)), S1.2.2.2.1, S1.2.2.2.2.1, S1.2.2.2.2.2) : MS) ⟨⟨i_size, i_taken, i_vals, i_room, i_dicts, i_deep, i_open, i_cells, i_points, i_part, i_length, i_knows, i_page, i_text, i_pats, i_fuel, (fr_val i_fr (fun q => by have := hval (by omega); omega)), i_ink⟩, kST_S1, (show -1 ≤ rv1.toInt ∧ rv1.toInt ≤ 16 ∧ (rv1.toInt = 16 ∨ (f_frames S1).toInt + 3 * (f_fuel S1).toInt - 3 * (f_steps S1).toInt + 1 ≤ (f_frames S).toInt + 3 * (f_fuel S).toInt - 3 * (f_steps S).toInt) by omega)⟩ hP hD d_Mo_advance_359
                  · refine lv_iload_n hx hb d_Mo_advance_320 rfl (lv_at hl 3 rfl) ?_
                    refine lv_iconst (v := 3) hx hb d_Mo_advance_321 (by decide) ?_
                    refine lv_icmp_ne (tgt := 334) hx hb d_Mo_advance_322 (by decide) (fun c322_2 => ?_) (fun c322_2 => ?_)
                    · have fc322_2 : ¬ x2.toInt = 3 := zt_ne (show x2.toInt = _ from rfl) tI_3 c322_2
                      refine lv_ldc2 (v := (-1)) hx hb hown (hts _ k_7_238) d_Mo_advance_334 ?_
                      exact key5 (-1 : Int64) _ _ _ ⟨(show x2.toInt = 3 → (-1 : Int64).toInt = (a_grows S1 ((f_frames S).toInt - 1).toNat).toInt by have := tJ_m1; omega), hP, hD, hS, lv_sub hl [0, 1, 2, 3, 4, 5] rfl⟩
                    · have fc322_2 : x2.toInt = 3 := zt_eq (show x2.toInt = _ from rfl) tI_3 c322_2
                      refine lv_aload_n hx hb d_Mo_advance_325 rfl (lv_at hl 5 rfl) ?_
                      refine va_get (D := D) (ci := 11) (v := .ref (ar 13)) (C := "PageScribeModel") (T := F_Mo) (N := 45) hx hb hts i_Mo hown hK hP 0 mW_0 cl_11 21 (by decide) (hts _ k_6_181) (fun _ h9 => h9) (mg_grows _ _) d_Mo_advance_326 ?_
                      refine lv_iload_n hx hb d_Mo_advance_329 rfl (lv_at hl 4 rfl) ?_
                      refine va_lald hx hb hK hP 14 1 (ma_grows _ _ _ _) rfl (zt_in fx1 (by omega) (by omega)) d_Mo_advance_330 ?_
                      refine lv_topl (fun x12 ex12 => ?_)
                      have gx12 : x12 = (a_grows S1) ((f_frames S).toInt - 1).toNat := ex12.trans (congrArg _ (zt_ix fx1))
                      have fx12 : x12.toInt = ((a_grows S1) ((f_frames S).toInt - 1).toNat).toInt := by rw [gx12]
                      refine lv_goto (tgt := 337) hx hb d_Mo_advance_331 (by decide) ?_
                      exact key5 (x12) _ _ _ ⟨(show x2.toInt = 3 → x12.toInt = (a_grows S1 ((f_frames S).toInt - 1).toNat).toInt by omega), hP, hD, hS, lv_sub hl [0, 1, 2, 3, 4, 5] rfl⟩
                · have fc283_1 : x2.toInt = 6 := zt_eq (show x2.toInt = _ from rfl) tI_6 c283_1
                  refine lv_aload_n hx hb d_Mo_advance_286 rfl (lv_at hl 5 rfl) ?_
                  refine lv_bipush (v := 50) hx hb d_Mo_advance_287 (by decide) ?_
                  refine lv_aload_n hx hb d_Mo_advance_289 rfl (lv_at hl 5 rfl) ?_
                  refine va_get (D := D) (ci := 11) (v := .ref (ar 14)) (C := "PageScribeModel") (T := F_Mo) (N := 45) hx hb hts i_Mo hown hK hP 0 mW_0 cl_11 22 (by decide) (hts _ k_6_182) (fun _ h9 => h9) (mg_last _ _) d_Mo_advance_290 ?_
                  refine lv_iload_n hx hb d_Mo_advance_293 rfl (lv_at hl 4 rfl) ?_
                  refine va_lald hx hb hK hP 15 1 (ma_last _ _ _ _) rfl (zt_in fx1 (by omega) (by omega)) d_Mo_advance_294 ?_
                  refine lv_topl (fun x13 ex13 => ?_)
                  have gx13 : x13 = (a_last S1) ((f_frames S).toInt - 1).toNat := ex13.trans (congrArg _ (zt_ix fx1))
                  have fx13 : x13.toInt = ((a_last S1) ((f_frames S).toInt - 1).toNat).toInt := by rw [gx13]
                  have flb := fq_l ft (by omega)
                  refine j_ci (wc := []) (wr := (mW T h0 ar S1)) hK hP hD hS hA [] isc rfl isc_all isc_nd (fun _ _ => List.not_mem_nil) (va_runS (As := [.long x13]) (rest := [.int 50, .ref h0]) F (m_first l D T x13 H.size (show 0 ≤ x13.toInt by omega)) (j_cS (k := 1) hts k_8_22 k_1_12 k_8_20 k_8_21 (by decide +kernel) ⟨Nat.le_of_ble_eq_true rfl, Nat.le_of_ble_eq_true rfl⟩) (j_preS hK hP hD [] rfl (by decide) (fun _ _ _ _ h => h) (fun _ _ _ => trivial)) rfl rfl hl.1 rfl (lv_room (Nat.le_of_ble_eq_true rfl)) d_Mo_advance_295 ⟨Nat.le_of_ble_eq_true rfl, Nat.le_of_ble_eq_true rfl⟩) (fun rv4 u1 H locs hw4 hP hD hS => ?_)
                  have hP : va_P D classes (mW T h0 ar S1) H := hP
                  have hD : va_D A (mW T h0 ar S1) := hD
                  have qhw4 : rv4.toInt = x13.toInt % 1024 := hw4
                  refine lv_iadd hx hb d_Mo_advance_298 ?_
                  refine lv_topi (fun x14 ex14 => ?_)
                  have fx14 : x14.toInt = (rv4.toInt + 50) := by rw [ex14]; exact (zt_add tI_50 (show rv4.toInt = _ from rfl) (by omega) (by omega)).trans (by omega)
                  refine lv_aload_n hx hb d_Mo_advance_299 rfl (lv_at hl 5 rfl) ?_
                  refine va_get (D := D) (ci := 11) (v := .ref (ar 11)) (C := "PageScribeModel") (T := F_Mo) (N := 45) hx hb hts i_Mo hown hK hP 0 mW_0 cl_11 19 (by decide) (hts _ k_6_179) (fun _ h9 => h9) (mg_far _ _) d_Mo_advance_300 ?_
                  refine lv_iload_n hx hb d_Mo_advance_303 rfl (lv_at hl 4 rfl) ?_
                  refine va_iald hx hb hK hP 12 0 (ma_far _ _ _ _) rfl (zt_in fx1 (by omega) (by omega)) d_Mo_advance_304 ?_
                  refine lv_topi (fun x15 ex15 => ?_)
                  have gx15 : x15 = (a_far S1) ((f_frames S).toInt - 1).toNat := ex15.trans (congrArg _ (zt_ix fx1))
                  have fx15 : x15.toInt = ((a_far S1) ((f_frames S).toInt - 1).toNat).toInt := by rw [gx15]
                  have hfx : x15.toInt = (a_far S ((f_frames S).toInt - 1).toNat).toInt + 1 := by
                    have h1 := hfar (by omega)
                    have h2 : (upd (a_far S) ((f_frames S).toInt - 1).toNat x4 ((f_frames S).toInt - 1).toNat).toInt = x4.toInt := congrArg Int32.toInt upd_s
                    omega
                  refine lv_iadd hx hb d_Mo_advance_305 ?_
                  refine lv_topi (fun x16 ex16 => ?_)
                  have fx16 : x16.toInt = (rv4.toInt + x15.toInt + 50) := by rw [ex16]; exact (zt_add fx14 (show x15.toInt = _ from rfl) (by omega) (by omega)).trans (by omega)
                  refine lv_iconst (v := 1) hx hb d_Mo_advance_306 (by decide) ?_
                  refine lv_isub hx hb d_Mo_advance_307 ?_
                  refine lv_topi (fun x17 ex17 => ?_)
                  have fx17 : x17.toInt = (rv4.toInt + x15.toInt + 49) := by rw [ex17]; exact (zt_sub fx16 tI_1 (by omega) (by omega)).trans (by omega)
                  refine jm_ci (w := (fun u => u)) hK hP hD hS hA (va_runV (As := [.int x17]) (rest := []) F (m_pushValue l D T h0 ar S1 x17 H.size ⟨i_size, i_taken, i_vals, i_room, i_dicts, i_deep, i_open, i_cells, i_points, i_part, i_length, i_knows, i_page, i_text, i_pats, i_fuel, i_fr, i_ink⟩ (show 0 ≤ x17.toInt ∧ x17.toInt < 1300 by first | omega | (simp only [fx17]; omega))) (j_cV (k := 1) (C := "PageScribeModel") hts k_7_139 k_1_12 k_7_136 k_7_138 k_0_94 (by decide +kernel) ⟨Nat.le_of_ble_eq_true rfl, Nat.le_of_ble_eq_true rfl⟩) (jm_pre hK hP hD) rfl rfl hl.1 rfl (lv_room (Nat.le_of_ble_eq_true rfl)) d_Mo_advance_308 ⟨Nat.le_of_ble_eq_true rfl, Nat.le_of_ble_eq_true rfl⟩) (fun rv5 S4 H locs hw5 hP hD hS => ?_)
                  have hP : va_P D classes (mW T h0 ar S4) H := hP
                  have hD : va_D A (mW T h0 ar S4) := hD
                  obtain ⟨⟨i_size, i_taken, i_vals, i_room, i_dicts, i_deep, i_open, i_cells, i_points, i_part, i_length, i_knows, i_page, i_text, i_pats, i_fuel, i_fr, i_ink⟩, kpA_S4, kpF_S4, qqhw5⟩ := hw5
                  have kST_S4 : kT S S4 := kT_t (show kT S S1 from kST_S1) (kT_A kpA_S4)
                  have nwhat_S4 : (a_what S4 ((f_frames S).toInt - 1).toNat).toInt = ((a_what S1) ((f_frames S).toInt - 1).toNat).toInt := congrArg Int32.toInt (congrFun kpF_S4.2.2.1 ((f_frames S).toInt - 1).toNat)
                  have narray_S4 : (a_array S4 ((f_frames S).toInt - 1).toNat).toInt = ((a_array S1) ((f_frames S).toInt - 1).toNat).toInt := congrArg Int64.toInt (congrFun kpF_S4.2.2.2.1 ((f_frames S).toInt - 1).toNat)
                  have nfar_S4 : (a_far S4 ((f_frames S).toInt - 1).toNat).toInt = ((a_far S1) ((f_frames S).toInt - 1).toNat).toInt := congrArg Int32.toInt (congrFun kpF_S4.2.2.2.2.1 ((f_frames S).toInt - 1).toNat)
                  have nvalue_S4 : (a_value S4 ((f_frames S).toInt - 1).toNat).toInt = ((a_value S1) ((f_frames S).toInt - 1).toNat).toInt := congrArg Int64.toInt (congrFun kpF_S4.2.2.2.2.2.1 ((f_frames S).toInt - 1).toNat)
                  have ngrows_S4 : (a_grows S4 ((f_frames S).toInt - 1).toNat).toInt = ((a_grows S1) ((f_frames S).toInt - 1).toNat).toInt := congrArg Int64.toInt (congrFun kpF_S4.2.2.2.2.2.2.1 ((f_frames S).toInt - 1).toNat)
                  have nlast_S4 : (a_last S4 ((f_frames S).toInt - 1).toNat).toInt = ((a_last S1) ((f_frames S).toInt - 1).toNat).toInt := congrArg Int64.toInt (congrFun kpF_S4.2.2.2.2.2.2.2 ((f_frames S).toInt - 1).toNat)
                  have nframes_S4 : (f_frames S4).toInt = (f_frames S1).toInt := congrArg Int32.toInt kpF_S4.1
                  have nunder_S4 : (f_under S4).toInt = (f_under S1).toInt := congrArg Int32.toInt kpF_S4.2.1
                  have nsteps_S4 : (f_steps S4).toInt = (f_steps S1).toInt := congrArg Int32.toInt kpA_S4.2.2.2.2.1
                  have nfuel_S4 : (f_fuel S4).toInt = (f_fuel S1).toInt := congrArg Int32.toInt kpA_S4.2.2.2.1
                  have nlevel_S4 : (f_level S4).toInt = (f_level S1).toInt := congrArg Int32.toInt kpA_S4.2.2.2.2.2.2.1
                  have npending_S4 : (f_pending S4).toInt = (f_pending S1).toInt := congrArg Int32.toInt kpA_S4.2.2.2.2.2.1
                  have nlength_S4 : (f_length S4).toInt = (f_length S1).toInt := congrArg Int32.toInt kpA_S4.1
                  have nat_S4 : (f_at S4).toInt = (f_at S1).toInt := congrArg Int32.toInt kpA_S4.2.1
                  have qhw5 : rv5.toInt = 0 ∨ rv5.toInt = 2 := by simpa only [fx17] using qqhw5
                  refine lv_istore (lv' := [(5, .int rv5), (4, .int j2), (3, .int j1), (2, .int x2), (1, .int x1), (0, .ref h0)]) hx hb d_Mo_advance_311 hl (by decide) rfl (fun ls hl => ?_)
                  refine lv_aload_n hx hb d_Mo_advance_313 rfl (lv_at hl 5 rfl) ?_
                  refine va_get (D := D) (ci := 11) (v := .ref (ar 12)) (C := "PageScribeModel") (T := F_Mo) (N := 45) hx hb hts i_Mo hown hK hP 0 mW_0 cl_11 20 (by decide) (hts _ k_6_180) (fun _ h9 => h9) (mg_value _ _) d_Mo_advance_314 ?_
                  refine lv_iload_n hx hb d_Mo_advance_317 rfl (lv_at hl 4 rfl) ?_
                  refine lv_dup2_11 hx hb d_Mo_advance_318 rfl rfl ?_
                  refine va_lald hx hb hK hP 13 1 (ma_value _ _ _ _) rfl (zt_in fx1 (by omega) (by omega)) d_Mo_advance_319 ?_
                  refine lv_topl (fun x18 ex18 => ?_)
                  have gx18 : x18 = (a_value S4) ((f_frames S).toInt - 1).toNat := ex18.trans (congrArg _ (zt_ix fx1))
                  have fx18 : x18.toInt = ((a_value S4) ((f_frames S).toInt - 1).toNat).toInt := by rw [gx18]
                  refine j_joinH (α := Int64) (fun x H locs ls => (x2.toInt = 3 → x.toInt = (a_grows S4 ((f_frames S).toInt - 1).toNat).toInt) ∧ va_P D classes (mW T h0 ar S4) H ∧ va_D A (mW T h0 ar S4) ∧ va_S A s.heap H locs ∧ lv_has ls 6 [(5, .int rv5), (4, .int j2), (3, .int j1), (2, .int x2), (1, .int x1), (0, .ref h0)]) (fun x ls => F0 m 337 ls (.long x :: [.long x18, .int x1, .ref (ar 12)])) (fun x H locs ls hI9 => ?_) (fun key6 => ?_)
                  · obtain ⟨j6, rfl⟩ : ∃ z, z = x := ⟨_, rfl⟩
                    obtain ⟨hj6, hP, hD, hS, hl⟩ := hI9
                    have hj6 : x2.toInt = 3 → j6.toInt = (a_grows S4 ((f_frames S).toInt - 1).toNat).toInt := hj6
                    have hP : va_P D classes (mW T h0 ar S4) H := hP
                    have hD : va_D A (mW T h0 ar S4) := hD
                    have hl : lv_has ls 6 [(5, .int rv5), (4, .int j2), (3, .int j1), (2, .int x2), (1, .int x1), (0, .ref h0)] := hl
                    refine lv_ladd hx hb d_Mo_advance_337 ?_
                    refine lv_topl (fun x19 ex19 => ?_)
                    have hval : (a_what S4 ((f_frames S).toInt - 1).toNat).toInt = 3 → (0 ≤ (a_grows S4 ((f_frames S).toInt - 1).toNat).toInt → -2147483648 ≤ x19.toInt) ∧ ((a_grows S4 ((f_frames S).toInt - 1).toNat).toInt < 0 → x19.toInt ≤ 2147483647) := fun q => by
                      have q1 := fq_o ft (by omega)
                      have q2 := fq_v ft (by omega) (by omega)
                      have q3 := hj6 (by omega)
                      have q4 : x19.toInt = x18.toInt + j6.toInt := by rw [ex19]; exact zu_add rfl rfl (by omega) (by omega)
                      omega
                    refine va_last hx hb hK hP hD hS 13 1 (ma_value _ _ _ _) rfl (zt_in fx1 (by omega) (by omega)) d_Mo_advance_338 (fun H locs hP hD hS => ?_)
                    rw [ms_value] at hP hD
                    rw [zt_ix fx1] at hP hD
                    have hP : va_P D classes (mW T h0 ar ((S4.1, S4.2.1, ((f_under S4), (a_what S4), (a_array S4), (a_far S4), (vp_updL (a_value S4) (((f_frames S).toInt - 1).toNat) x19), (a_grows S4), (a_last S4), (a_text S4)), S4.2.2.2.1, S4.2.2.2.2.1, S4.2.2.2.2.2) : MS)) H := hP
                    have hD : va_D A (mW T h0 ar ((S4.1, S4.2.1, ((f_under S4), (a_what S4), (a_array S4), (a_far S4), (vp_updL (a_value S4) (((f_frames S).toInt - 1).toNat) x19), (a_grows S4), (a_last S4), (a_text S4)), S4.2.2.2.1, S4.2.2.2.2.1, S4.2.2.2.2.2) : MS)) := hD
                    refine lv_iload hx hb d_Mo_advance_339 (lv_at hl 0 rfl) ?_
                    refine lv_if_eq (tgt := 349) hx hb d_Mo_advance_341 (by decide) (fun c341_3 => ?_) (fun c341_3 => ?_)
                    · have fc341_3 : rv5.toInt = 0 := zt_eq (show rv5.toInt = _ from rfl) tI_0 c341_3
                      refine lv_aload_n hx hb d_Mo_advance_349 rfl (lv_at hl 5 rfl) ?_
                      refine lv_aload_n hx hb d_Mo_advance_350 rfl (lv_at hl 5 rfl) ?_
                      refine va_get (D := D) (ci := 11) (v := .ref (ar 10)) (C := "PageScribeModel") (T := F_Mo) (N := 45) hx hb hts i_Mo hown hK hP 0 mW_0 cl_11 18 (by decide) (hts _ k_6_178) (fun _ h9 => h9) (mg_array _ _) d_Mo_advance_351 ?_
                      refine lv_iload_n hx hb d_Mo_advance_354 rfl (lv_at hl 4 rfl) ?_
                      refine va_lald hx hb hK hP 11 1 (ma_array _ _ _ _) rfl (zt_in fx1 (by omega) (by omega)) d_Mo_advance_355 ?_
                      refine lv_topl (fun x20 ex20 => ?_)
                      have gx20 : x20 = (a_array S4) ((f_frames S).toInt - 1).toNat := ex20.trans (congrArg _ (zt_ix fx1))
                      have fx20 : x20.toInt = ((a_array S4) ((f_frames S).toInt - 1).toNat).toInt := by rw [gx20]
                      refine jm_ci (w := (fun u => u)) hK hP hD hS hA (va_runV (As := [.long x20]) (rest := []) F (m_runArray l D T h0 ar ((S4.1, S4.2.1, ((f_under S4), (a_what S4), (a_array S4), (a_far S4), (vp_updL (a_value S4) (((f_frames S).toInt - 1).toNat) x19), (a_grows S4), (a_last S4), (a_text S4)), S4.2.2.2.1, S4.2.2.2.2.1, S4.2.2.2.2.2) : MS) x20 H.size ⟨i_size, i_taken, i_vals, i_room, i_dicts, i_deep, i_open, i_cells, i_points, i_part, i_length, i_knows, i_page, i_text, i_pats, i_fuel, (fr_val i_fr (fun q => by have := hval (by omega); omega)), i_ink⟩ (show cOk x20 by omega)) (j_cV (k := 1) (C := "PageScribeModel") hts k_8_55 k_1_12 k_8_52 k_8_54 k_0_128 (by decide +kernel) ⟨Nat.le_of_ble_eq_true rfl, Nat.le_of_ble_eq_true rfl⟩) (jm_pre hK hP hD) rfl rfl hl.1 rfl (lv_room (Nat.le_of_ble_eq_true rfl)) d_Mo_advance_356 ⟨Nat.le_of_ble_eq_true rfl, Nat.le_of_ble_eq_true rfl⟩) (fun rv6 S5 H locs hw6 hP hD hS => ?_)
                      have hP : va_P D classes (mW T h0 ar S5) H := hP
                      have hD : va_D A (mW T h0 ar S5) := hD
                      obtain ⟨⟨i_size, i_taken, i_vals, i_room, i_dicts, i_deep, i_open, i_cells, i_points, i_part, i_length, i_knows, i_page, i_text, i_pats, i_fuel, i_fr, i_ink⟩, kpA_S5, qqhw6⟩ := hw6
                      have kST_S5 : kT S S5 := kT_t (show kT S ((S4.1, S4.2.1, ((f_under S4), (a_what S4), (a_array S4), (a_far S4), (vp_updL (a_value S4) (((f_frames S).toInt - 1).toNat) x19), (a_grows S4), (a_last S4), (a_text S4)), S4.2.2.2.1, S4.2.2.2.2.1, S4.2.2.2.2.2) : MS) from kST_S4) (kT_A kpA_S5)
                      have nsteps_S5 : (f_steps S5).toInt = (f_steps S4).toInt := congrArg Int32.toInt kpA_S5.2.2.2.2.1
                      have nfuel_S5 : (f_fuel S5).toInt = (f_fuel S4).toInt := congrArg Int32.toInt kpA_S5.2.2.2.1
                      have nlevel_S5 : (f_level S5).toInt = (f_level S4).toInt := congrArg Int32.toInt kpA_S5.2.2.2.2.2.2.1
                      have npending_S5 : (f_pending S5).toInt = (f_pending S4).toInt := congrArg Int32.toInt kpA_S5.2.2.2.2.2.1
                      have nlength_S5 : (f_length S5).toInt = (f_length S4).toInt := congrArg Int32.toInt kpA_S5.1
                      have nat_S5 : (f_at S5).toInt = (f_at S4).toInt := congrArg Int32.toInt kpA_S5.2.1
                      have qhw6 : (rv6.toInt = 0 ∧ (f_frames S5).toInt = (f_frames S4).toInt + 1) ∨ (rv6.toInt = 12 ∧ (f_frames S5).toInt = (f_frames S4).toInt) := qqhw6
                      exact j_iret F hr hlocks hK hS S5 ⟨⟨i_size, i_taken, i_vals, i_room, i_dicts, i_deep, i_open, i_cells, i_points, i_part, i_length, i_knows, i_page, i_text, i_pats, i_fuel, i_fr, i_ink⟩, kST_S5, (show -1 ≤ rv6.toInt ∧ rv6.toInt ≤ 16 ∧ (rv6.toInt = 16 ∨ (f_frames S5).toInt + 3 * (f_fuel S5).toInt - 3 * (f_steps S5).toInt + 1 ≤ (f_frames S).toInt + 3 * (f_fuel S).toInt - 3 * (f_steps S).toInt) by omega)⟩ hP hD d_Mo_advance_359
                    · have fc341_3 : ¬ rv5.toInt = 0 := zt_ne (show rv5.toInt = _ from rfl) tI_0 c341_3
                      refine lv_iload hx hb d_Mo_advance_344 (lv_at hl 0 rfl) ?_
                      refine lv_goto (tgt := 359) hx hb d_Mo_advance_346 (by decide) ?_
                      exact j_iret F hr hlocks hK hS ((S4.1, S4.2.1, ((f_under S4), (a_what S4), (a_array S4), (a_far S4), (vp_updL (a_value S4) (((f_frames S).toInt - 1).toNat) x19), (a_grows S4), (a_last S4), (a_text S4)), S4.2.2.2.1, S4.2.2.2.2.1, S4.2.2.2.2.2) : MS) ⟨⟨i_size, i_taken, i_vals, i_room, i_dicts, i_deep, i_open, i_cells, i_points, i_part, i_length, i_knows, i_page, i_text, i_pats, i_fuel, (fr_val i_fr (fun q => by have := hval (by omega); omega)), i_ink⟩, kST_S4, (show -1 ≤ rv5.toInt ∧ rv5.toInt ≤ 16 ∧ (rv5.toInt = 16 ∨ (f_frames S4).toInt + 3 * (f_fuel S4).toInt - 3 * (f_steps S4).toInt + 1 ≤ (f_frames S).toInt + 3 * (f_fuel S).toInt - 3 * (f_steps S).toInt) by omega)⟩ hP hD d_Mo_advance_359
                  · refine lv_iload_n hx hb d_Mo_advance_320 rfl (lv_at hl 3 rfl) ?_
                    refine lv_iconst (v := 3) hx hb d_Mo_advance_321 (by decide) ?_
                    refine lv_icmp_ne (tgt := 334) hx hb d_Mo_advance_322 (by decide) (fun c322_3 => ?_) (fun c322_3 => ?_)
                    · have fc322_3 : ¬ x2.toInt = 3 := zt_ne (show x2.toInt = _ from rfl) tI_3 c322_3
                      refine lv_ldc2 (v := (-1)) hx hb hown (hts _ k_7_238) d_Mo_advance_334 ?_
                      exact key6 (-1 : Int64) _ _ _ ⟨(show x2.toInt = 3 → (-1 : Int64).toInt = (a_grows S4 ((f_frames S).toInt - 1).toNat).toInt by have := tJ_m1; omega), hP, hD, hS, lv_sub hl [0, 1, 2, 3, 4, 5] rfl⟩
                    · have fc322_3 : x2.toInt = 3 := zt_eq (show x2.toInt = _ from rfl) tI_3 c322_3
                      refine lv_aload_n hx hb d_Mo_advance_325 rfl (lv_at hl 5 rfl) ?_
                      refine va_get (D := D) (ci := 11) (v := .ref (ar 13)) (C := "PageScribeModel") (T := F_Mo) (N := 45) hx hb hts i_Mo hown hK hP 0 mW_0 cl_11 21 (by decide) (hts _ k_6_181) (fun _ h9 => h9) (mg_grows _ _) d_Mo_advance_326 ?_
                      refine lv_iload_n hx hb d_Mo_advance_329 rfl (lv_at hl 4 rfl) ?_
                      refine va_lald hx hb hK hP 14 1 (ma_grows _ _ _ _) rfl (zt_in fx1 (by omega) (by omega)) d_Mo_advance_330 ?_
                      refine lv_topl (fun x21 ex21 => ?_)
                      have gx21 : x21 = (a_grows S4) ((f_frames S).toInt - 1).toNat := ex21.trans (congrArg _ (zt_ix fx1))
                      have fx21 : x21.toInt = ((a_grows S4) ((f_frames S).toInt - 1).toNat).toInt := by rw [gx21]
                      refine lv_goto (tgt := 337) hx hb d_Mo_advance_331 (by decide) ?_
                      exact key6 (x21) _ _ _ ⟨(show x2.toInt = 3 → x21.toInt = (a_grows S4 ((f_frames S).toInt - 1).toNat).toInt by omega), hP, hD, hS, lv_sub hl [0, 1, 2, 3, 4, 5] rfl⟩
            · have fc254_1 : rv1.toInt = 0 := zt_eq (show rv1.toInt = _ from rfl) tI_0 c254_1
              refine lv_iload_n hx hb d_Mo_advance_257 rfl (lv_at hl 3 rfl) ?_
              refine lv_iconst (v := 3) hx hb d_Mo_advance_258 (by decide) ?_
              refine lv_icmp_ne (tgt := 275) hx hb d_Mo_advance_259 (by decide) (fun c259_1 => ?_) (fun c259_1 => ?_)
              · have fc259_1 : ¬ x2.toInt = 3 := zt_ne (show x2.toInt = _ from rfl) tI_3 c259_1
                refine lv_iload hx hb d_Mo_advance_275 (lv_at hl 0 rfl) ?_
                refine lv_if_ne (tgt := 313) hx hb d_Mo_advance_277 (by decide) (fun c277_2 => ?_) (fun c277_2 => ?_)
                · have fc277_2 : ¬ rv1.toInt = 0 := zt_ne (show rv1.toInt = _ from rfl) tI_0 c277_2
                  refine lv_aload_n hx hb d_Mo_advance_313 rfl (lv_at hl 5 rfl) ?_
                  refine va_get (D := D) (ci := 11) (v := .ref (ar 12)) (C := "PageScribeModel") (T := F_Mo) (N := 45) hx hb hts i_Mo hown hK hP 0 mW_0 cl_11 20 (by decide) (hts _ k_6_180) (fun _ h9 => h9) (mg_value _ _) d_Mo_advance_314 ?_
                  refine lv_iload_n hx hb d_Mo_advance_317 rfl (lv_at hl 4 rfl) ?_
                  refine lv_dup2_11 hx hb d_Mo_advance_318 rfl rfl ?_
                  refine va_lald hx hb hK hP 13 1 (ma_value _ _ _ _) rfl (zt_in fx1 (by omega) (by omega)) d_Mo_advance_319 ?_
                  refine lv_topl (fun x22 ex22 => ?_)
                  have gx22 : x22 = (a_value S1) ((f_frames S).toInt - 1).toNat := ex22.trans (congrArg _ (zt_ix fx1))
                  have fx22 : x22.toInt = ((a_value S1) ((f_frames S).toInt - 1).toNat).toInt := by rw [gx22]
                  refine j_joinH (α := Int64) (fun x H locs ls => (x2.toInt = 3 → x.toInt = (a_grows S1 ((f_frames S).toInt - 1).toNat).toInt) ∧ va_P D classes (mW T h0 ar S1) H ∧ va_D A (mW T h0 ar S1) ∧ va_S A s.heap H locs ∧ lv_has ls 6 [(5, .int rv1), (4, .int j2), (3, .int j1), (2, .int x2), (1, .int x1), (0, .ref h0)]) (fun x ls => F0 m 337 ls (.long x :: [.long x22, .int x1, .ref (ar 12)])) (fun x H locs ls hI9 => ?_) (fun key7 => ?_)
                  · obtain ⟨j7, rfl⟩ : ∃ z, z = x := ⟨_, rfl⟩
                    obtain ⟨hj7, hP, hD, hS, hl⟩ := hI9
                    have hj7 : x2.toInt = 3 → j7.toInt = (a_grows S1 ((f_frames S).toInt - 1).toNat).toInt := hj7
                    have hP : va_P D classes (mW T h0 ar S1) H := hP
                    have hD : va_D A (mW T h0 ar S1) := hD
                    have hl : lv_has ls 6 [(5, .int rv1), (4, .int j2), (3, .int j1), (2, .int x2), (1, .int x1), (0, .ref h0)] := hl
                    refine lv_ladd hx hb d_Mo_advance_337 ?_
                    refine lv_topl (fun x23 ex23 => ?_)
                    have hval : (a_what S1 ((f_frames S).toInt - 1).toNat).toInt = 3 → (0 ≤ (a_grows S1 ((f_frames S).toInt - 1).toNat).toInt → -2147483648 ≤ x23.toInt) ∧ ((a_grows S1 ((f_frames S).toInt - 1).toNat).toInt < 0 → x23.toInt ≤ 2147483647) := fun q => by
                      have q1 := fq_o ft (by omega)
                      have q2 := fq_v ft (by omega) (by omega)
                      have q3 := hj7 (by omega)
                      have q4 : x23.toInt = x22.toInt + j7.toInt := by rw [ex23]; exact zu_add rfl rfl (by omega) (by omega)
                      omega
                    refine va_last hx hb hK hP hD hS 13 1 (ma_value _ _ _ _) rfl (zt_in fx1 (by omega) (by omega)) d_Mo_advance_338 (fun H locs hP hD hS => ?_)
                    rw [ms_value] at hP hD
                    rw [zt_ix fx1] at hP hD
                    have hP : va_P D classes (mW T h0 ar ((S1.1, S1.2.1, ((f_under S1), (a_what S1), (a_array S1), (a_far S1), (vp_updL (a_value S1) (((f_frames S).toInt - 1).toNat) x23), (a_grows S1), (a_last S1), (a_text S1)), S1.2.2.2.1, S1.2.2.2.2.1, S1.2.2.2.2.2) : MS)) H := hP
                    have hD : va_D A (mW T h0 ar ((S1.1, S1.2.1, ((f_under S1), (a_what S1), (a_array S1), (a_far S1), (vp_updL (a_value S1) (((f_frames S).toInt - 1).toNat) x23), (a_grows S1), (a_last S1), (a_text S1)), S1.2.2.2.1, S1.2.2.2.2.1, S1.2.2.2.2.2) : MS)) := hD
                    refine lv_iload hx hb d_Mo_advance_339 (lv_at hl 0 rfl) ?_
                    refine lv_if_eq (tgt := 349) hx hb d_Mo_advance_341 (by decide) (fun c341_4 => ?_) (fun c341_4 => ?_)
                    · have fc341_4 : rv1.toInt = 0 := zt_eq (show rv1.toInt = _ from rfl) tI_0 c341_4
                      refine lv_aload_n hx hb d_Mo_advance_349 rfl (lv_at hl 5 rfl) ?_
                      refine lv_aload_n hx hb d_Mo_advance_350 rfl (lv_at hl 5 rfl) ?_
                      refine va_get (D := D) (ci := 11) (v := .ref (ar 10)) (C := "PageScribeModel") (T := F_Mo) (N := 45) hx hb hts i_Mo hown hK hP 0 mW_0 cl_11 18 (by decide) (hts _ k_6_178) (fun _ h9 => h9) (mg_array _ _) d_Mo_advance_351 ?_
                      refine lv_iload_n hx hb d_Mo_advance_354 rfl (lv_at hl 4 rfl) ?_
                      refine va_lald hx hb hK hP 11 1 (ma_array _ _ _ _) rfl (zt_in fx1 (by omega) (by omega)) d_Mo_advance_355 ?_
                      refine lv_topl (fun x24 ex24 => ?_)
                      have gx24 : x24 = (a_array S1) ((f_frames S).toInt - 1).toNat := ex24.trans (congrArg _ (zt_ix fx1))
                      have fx24 : x24.toInt = ((a_array S1) ((f_frames S).toInt - 1).toNat).toInt := by rw [gx24]
                      refine jm_ci (w := (fun u => u)) hK hP hD hS hA (va_runV (As := [.long x24]) (rest := []) F (m_runArray l D T h0 ar ((S1.1, S1.2.1, ((f_under S1), (a_what S1), (a_array S1), (a_far S1), (vp_updL (a_value S1) (((f_frames S).toInt - 1).toNat) x23), (a_grows S1), (a_last S1), (a_text S1)), S1.2.2.2.1, S1.2.2.2.2.1, S1.2.2.2.2.2) : MS) x24 H.size ⟨i_size, i_taken, i_vals, i_room, i_dicts, i_deep, i_open, i_cells, i_points, i_part, i_length, i_knows, i_page, i_text, i_pats, i_fuel, (fr_val i_fr (fun q => by have := hval (by omega); omega)), i_ink⟩ (show cOk x24 by omega)) (j_cV (k := 1) (C := "PageScribeModel") hts k_8_55 k_1_12 k_8_52 k_8_54 k_0_128 (by decide +kernel) ⟨Nat.le_of_ble_eq_true rfl, Nat.le_of_ble_eq_true rfl⟩) (jm_pre hK hP hD) rfl rfl hl.1 rfl (lv_room (Nat.le_of_ble_eq_true rfl)) d_Mo_advance_356 ⟨Nat.le_of_ble_eq_true rfl, Nat.le_of_ble_eq_true rfl⟩) (fun rv7 S6 H locs hw7 hP hD hS => ?_)
                      have hP : va_P D classes (mW T h0 ar S6) H := hP
                      have hD : va_D A (mW T h0 ar S6) := hD
                      obtain ⟨⟨i_size, i_taken, i_vals, i_room, i_dicts, i_deep, i_open, i_cells, i_points, i_part, i_length, i_knows, i_page, i_text, i_pats, i_fuel, i_fr, i_ink⟩, kpA_S6, qqhw7⟩ := hw7
                      have kST_S6 : kT S S6 := kT_t (show kT S ((S1.1, S1.2.1, ((f_under S1), (a_what S1), (a_array S1), (a_far S1), (vp_updL (a_value S1) (((f_frames S).toInt - 1).toNat) x23), (a_grows S1), (a_last S1), (a_text S1)), S1.2.2.2.1, S1.2.2.2.2.1, S1.2.2.2.2.2) : MS) from kST_S1) (kT_A kpA_S6)
                      have nsteps_S6 : (f_steps S6).toInt = (f_steps S1).toInt := congrArg Int32.toInt kpA_S6.2.2.2.2.1
                      have nfuel_S6 : (f_fuel S6).toInt = (f_fuel S1).toInt := congrArg Int32.toInt kpA_S6.2.2.2.1
                      have nlevel_S6 : (f_level S6).toInt = (f_level S1).toInt := congrArg Int32.toInt kpA_S6.2.2.2.2.2.2.1
                      have npending_S6 : (f_pending S6).toInt = (f_pending S1).toInt := congrArg Int32.toInt kpA_S6.2.2.2.2.2.1
                      have nlength_S6 : (f_length S6).toInt = (f_length S1).toInt := congrArg Int32.toInt kpA_S6.1
                      have nat_S6 : (f_at S6).toInt = (f_at S1).toInt := congrArg Int32.toInt kpA_S6.2.1
                      have qhw7 : (rv7.toInt = 0 ∧ (f_frames S6).toInt = (f_frames S1).toInt + 1) ∨ (rv7.toInt = 12 ∧ (f_frames S6).toInt = (f_frames S1).toInt) := qqhw7
                      exact j_iret F hr hlocks hK hS S6 ⟨⟨i_size, i_taken, i_vals, i_room, i_dicts, i_deep, i_open, i_cells, i_points, i_part, i_length, i_knows, i_page, i_text, i_pats, i_fuel, i_fr, i_ink⟩, kST_S6, (show -1 ≤ rv7.toInt ∧ rv7.toInt ≤ 16 ∧ (rv7.toInt = 16 ∨ (f_frames S6).toInt + 3 * (f_fuel S6).toInt - 3 * (f_steps S6).toInt + 1 ≤ (f_frames S).toInt + 3 * (f_fuel S).toInt - 3 * (f_steps S).toInt) by omega)⟩ hP hD d_Mo_advance_359
                    · have fc341_4 : ¬ rv1.toInt = 0 := zt_ne (show rv1.toInt = _ from rfl) tI_0 c341_4
                      refine lv_iload hx hb d_Mo_advance_344 (lv_at hl 0 rfl) ?_
                      refine lv_goto (tgt := 359) hx hb d_Mo_advance_346 (by decide) ?_
                      exact j_iret F hr hlocks hK hS ((S1.1, S1.2.1, ((f_under S1), (a_what S1), (a_array S1), (a_far S1), (vp_updL (a_value S1) (((f_frames S).toInt - 1).toNat) x23), (a_grows S1), (a_last S1), (a_text S1)), S1.2.2.2.1, S1.2.2.2.2.1, S1.2.2.2.2.2) : MS) ⟨⟨i_size, i_taken, i_vals, i_room, i_dicts, i_deep, i_open, i_cells, i_points, i_part, i_length, i_knows, i_page, i_text, i_pats, i_fuel, (fr_val i_fr (fun q => by have := hval (by omega); omega)), i_ink⟩, kST_S1, (show -1 ≤ rv1.toInt ∧ rv1.toInt ≤ 16 ∧ (rv1.toInt = 16 ∨ (f_frames S1).toInt + 3 * (f_fuel S1).toInt - 3 * (f_steps S1).toInt + 1 ≤ (f_frames S).toInt + 3 * (f_fuel S).toInt - 3 * (f_steps S).toInt) by omega)⟩ hP hD d_Mo_advance_359
                  · refine lv_iload_n hx hb d_Mo_advance_320 rfl (lv_at hl 3 rfl) ?_
                    refine lv_iconst (v := 3) hx hb d_Mo_advance_321 (by decide) ?_
                    refine lv_icmp_ne (tgt := 334) hx hb d_Mo_advance_322 (by decide) (fun c322_4 => ?_) (fun c322_4 => ?_)
                    · have fc322_4 : ¬ x2.toInt = 3 := zt_ne (show x2.toInt = _ from rfl) tI_3 c322_4
                      refine lv_ldc2 (v := (-1)) hx hb hown (hts _ k_7_238) d_Mo_advance_334 ?_
                      exact key7 (-1 : Int64) _ _ _ ⟨(show x2.toInt = 3 → (-1 : Int64).toInt = (a_grows S1 ((f_frames S).toInt - 1).toNat).toInt by have := tJ_m1; omega), hP, hD, hS, lv_sub hl [0, 1, 2, 3, 4, 5] rfl⟩
                    · have fc322_4 : x2.toInt = 3 := zt_eq (show x2.toInt = _ from rfl) tI_3 c322_4
                      refine lv_aload_n hx hb d_Mo_advance_325 rfl (lv_at hl 5 rfl) ?_
                      refine va_get (D := D) (ci := 11) (v := .ref (ar 13)) (C := "PageScribeModel") (T := F_Mo) (N := 45) hx hb hts i_Mo hown hK hP 0 mW_0 cl_11 21 (by decide) (hts _ k_6_181) (fun _ h9 => h9) (mg_grows _ _) d_Mo_advance_326 ?_
                      refine lv_iload_n hx hb d_Mo_advance_329 rfl (lv_at hl 4 rfl) ?_
                      refine va_lald hx hb hK hP 14 1 (ma_grows _ _ _ _) rfl (zt_in fx1 (by omega) (by omega)) d_Mo_advance_330 ?_
                      refine lv_topl (fun x25 ex25 => ?_)
                      have gx25 : x25 = (a_grows S1) ((f_frames S).toInt - 1).toNat := ex25.trans (congrArg _ (zt_ix fx1))
                      have fx25 : x25.toInt = ((a_grows S1) ((f_frames S).toInt - 1).toNat).toInt := by rw [gx25]
                      refine lv_goto (tgt := 337) hx hb d_Mo_advance_331 (by decide) ?_
                      exact key7 (x25) _ _ _ ⟨(show x2.toInt = 3 → x25.toInt = (a_grows S1 ((f_frames S).toInt - 1).toNat).toInt by omega), hP, hD, hS, lv_sub hl [0, 1, 2, 3, 4, 5] rfl⟩
                · have fc277_2 : rv1.toInt = 0 := zt_eq (show rv1.toInt = _ from rfl) tI_0 c277_2
                  refine lv_iload_n hx hb d_Mo_advance_280 rfl (lv_at hl 3 rfl) ?_
                  refine lv_bipush (v := 6) hx hb d_Mo_advance_281 (by decide) ?_
                  refine lv_icmp_ne (tgt := 313) hx hb d_Mo_advance_283 (by decide) (fun c283_2 => ?_) (fun c283_2 => ?_)
                  · have fc283_2 : ¬ x2.toInt = 6 := zt_ne (show x2.toInt = _ from rfl) tI_6 c283_2
                    refine lv_aload_n hx hb d_Mo_advance_313 rfl (lv_at hl 5 rfl) ?_
                    refine va_get (D := D) (ci := 11) (v := .ref (ar 12)) (C := "PageScribeModel") (T := F_Mo) (N := 45) hx hb hts i_Mo hown hK hP 0 mW_0 cl_11 20 (by decide) (hts _ k_6_180) (fun _ h9 => h9) (mg_value _ _) d_Mo_advance_314 ?_
                    refine lv_iload_n hx hb d_Mo_advance_317 rfl (lv_at hl 4 rfl) ?_
                    refine lv_dup2_11 hx hb d_Mo_advance_318 rfl rfl ?_
                    refine va_lald hx hb hK hP 13 1 (ma_value _ _ _ _) rfl (zt_in fx1 (by omega) (by omega)) d_Mo_advance_319 ?_
                    refine lv_topl (fun x26 ex26 => ?_)
                    have gx26 : x26 = (a_value S1) ((f_frames S).toInt - 1).toNat := ex26.trans (congrArg _ (zt_ix fx1))
                    have fx26 : x26.toInt = ((a_value S1) ((f_frames S).toInt - 1).toNat).toInt := by rw [gx26]
                    refine j_joinH (α := Int64) (fun x H locs ls => (x2.toInt = 3 → x.toInt = (a_grows S1 ((f_frames S).toInt - 1).toNat).toInt) ∧ va_P D classes (mW T h0 ar S1) H ∧ va_D A (mW T h0 ar S1) ∧ va_S A s.heap H locs ∧ lv_has ls 6 [(5, .int rv1), (4, .int j2), (3, .int j1), (2, .int x2), (1, .int x1), (0, .ref h0)]) (fun x ls => F0 m 337 ls (.long x :: [.long x26, .int x1, .ref (ar 12)])) (fun x H locs ls hI9 => ?_) (fun key8 => ?_)
                    · obtain ⟨j8, rfl⟩ : ∃ z, z = x := ⟨_, rfl⟩
                      obtain ⟨hj8, hP, hD, hS, hl⟩ := hI9
                      have hj8 : x2.toInt = 3 → j8.toInt = (a_grows S1 ((f_frames S).toInt - 1).toNat).toInt := hj8
                      have hP : va_P D classes (mW T h0 ar S1) H := hP
                      have hD : va_D A (mW T h0 ar S1) := hD
                      have hl : lv_has ls 6 [(5, .int rv1), (4, .int j2), (3, .int j1), (2, .int x2), (1, .int x1), (0, .ref h0)] := hl
                      refine lv_ladd hx hb d_Mo_advance_337 ?_
                      refine lv_topl (fun x27 ex27 => ?_)
                      have hval : (a_what S1 ((f_frames S).toInt - 1).toNat).toInt = 3 → (0 ≤ (a_grows S1 ((f_frames S).toInt - 1).toNat).toInt → -2147483648 ≤ x27.toInt) ∧ ((a_grows S1 ((f_frames S).toInt - 1).toNat).toInt < 0 → x27.toInt ≤ 2147483647) := fun q => by
                        have q1 := fq_o ft (by omega)
                        have q2 := fq_v ft (by omega) (by omega)
                        have q3 := hj8 (by omega)
                        have q4 : x27.toInt = x26.toInt + j8.toInt := by rw [ex27]; exact zu_add rfl rfl (by omega) (by omega)
                        omega
                      refine va_last hx hb hK hP hD hS 13 1 (ma_value _ _ _ _) rfl (zt_in fx1 (by omega) (by omega)) d_Mo_advance_338 (fun H locs hP hD hS => ?_)
                      rw [ms_value] at hP hD
                      rw [zt_ix fx1] at hP hD
                      have hP : va_P D classes (mW T h0 ar ((S1.1, S1.2.1, ((f_under S1), (a_what S1), (a_array S1), (a_far S1), (vp_updL (a_value S1) (((f_frames S).toInt - 1).toNat) x27), (a_grows S1), (a_last S1), (a_text S1)), S1.2.2.2.1, S1.2.2.2.2.1, S1.2.2.2.2.2) : MS)) H := hP
                      have hD : va_D A (mW T h0 ar ((S1.1, S1.2.1, ((f_under S1), (a_what S1), (a_array S1), (a_far S1), (vp_updL (a_value S1) (((f_frames S).toInt - 1).toNat) x27), (a_grows S1), (a_last S1), (a_text S1)), S1.2.2.2.1, S1.2.2.2.2.1, S1.2.2.2.2.2) : MS)) := hD
                      refine lv_iload hx hb d_Mo_advance_339 (lv_at hl 0 rfl) ?_
                      refine lv_if_eq (tgt := 349) hx hb d_Mo_advance_341 (by decide) (fun c341_5 => ?_) (fun c341_5 => ?_)
                      · have fc341_5 : rv1.toInt = 0 := zt_eq (show rv1.toInt = _ from rfl) tI_0 c341_5
                        refine lv_aload_n hx hb d_Mo_advance_349 rfl (lv_at hl 5 rfl) ?_
                        refine lv_aload_n hx hb d_Mo_advance_350 rfl (lv_at hl 5 rfl) ?_
                        refine va_get (D := D) (ci := 11) (v := .ref (ar 10)) (C := "PageScribeModel") (T := F_Mo) (N := 45) hx hb hts i_Mo hown hK hP 0 mW_0 cl_11 18 (by decide) (hts _ k_6_178) (fun _ h9 => h9) (mg_array _ _) d_Mo_advance_351 ?_
                        refine lv_iload_n hx hb d_Mo_advance_354 rfl (lv_at hl 4 rfl) ?_
                        refine va_lald hx hb hK hP 11 1 (ma_array _ _ _ _) rfl (zt_in fx1 (by omega) (by omega)) d_Mo_advance_355 ?_
                        refine lv_topl (fun x28 ex28 => ?_)
                        have gx28 : x28 = (a_array S1) ((f_frames S).toInt - 1).toNat := ex28.trans (congrArg _ (zt_ix fx1))
                        have fx28 : x28.toInt = ((a_array S1) ((f_frames S).toInt - 1).toNat).toInt := by rw [gx28]
                        refine jm_ci (w := (fun u => u)) hK hP hD hS hA (va_runV (As := [.long x28]) (rest := []) F (m_runArray l D T h0 ar ((S1.1, S1.2.1, ((f_under S1), (a_what S1), (a_array S1), (a_far S1), (vp_updL (a_value S1) (((f_frames S).toInt - 1).toNat) x27), (a_grows S1), (a_last S1), (a_text S1)), S1.2.2.2.1, S1.2.2.2.2.1, S1.2.2.2.2.2) : MS) x28 H.size ⟨i_size, i_taken, i_vals, i_room, i_dicts, i_deep, i_open, i_cells, i_points, i_part, i_length, i_knows, i_page, i_text, i_pats, i_fuel, (fr_val i_fr (fun q => by have := hval (by omega); omega)), i_ink⟩ (show cOk x28 by omega)) (j_cV (k := 1) (C := "PageScribeModel") hts k_8_55 k_1_12 k_8_52 k_8_54 k_0_128 (by decide +kernel) ⟨Nat.le_of_ble_eq_true rfl, Nat.le_of_ble_eq_true rfl⟩) (jm_pre hK hP hD) rfl rfl hl.1 rfl (lv_room (Nat.le_of_ble_eq_true rfl)) d_Mo_advance_356 ⟨Nat.le_of_ble_eq_true rfl, Nat.le_of_ble_eq_true rfl⟩) (fun rv8 S7 H locs hw8 hP hD hS => ?_)
                        have hP : va_P D classes (mW T h0 ar S7) H := hP
                        have hD : va_D A (mW T h0 ar S7) := hD
                        obtain ⟨⟨i_size, i_taken, i_vals, i_room, i_dicts, i_deep, i_open, i_cells, i_points, i_part, i_length, i_knows, i_page, i_text, i_pats, i_fuel, i_fr, i_ink⟩, kpA_S7, qqhw8⟩ := hw8
                        have kST_S7 : kT S S7 := kT_t (show kT S ((S1.1, S1.2.1, ((f_under S1), (a_what S1), (a_array S1), (a_far S1), (vp_updL (a_value S1) (((f_frames S).toInt - 1).toNat) x27), (a_grows S1), (a_last S1), (a_text S1)), S1.2.2.2.1, S1.2.2.2.2.1, S1.2.2.2.2.2) : MS) from kST_S1) (kT_A kpA_S7)
                        have nsteps_S7 : (f_steps S7).toInt = (f_steps S1).toInt := congrArg Int32.toInt kpA_S7.2.2.2.2.1
                        have nfuel_S7 : (f_fuel S7).toInt = (f_fuel S1).toInt := congrArg Int32.toInt kpA_S7.2.2.2.1
                        have nlevel_S7 : (f_level S7).toInt = (f_level S1).toInt := congrArg Int32.toInt kpA_S7.2.2.2.2.2.2.1
                        have npending_S7 : (f_pending S7).toInt = (f_pending S1).toInt := congrArg Int32.toInt kpA_S7.2.2.2.2.2.1
                        have nlength_S7 : (f_length S7).toInt = (f_length S1).toInt := congrArg Int32.toInt kpA_S7.1
                        have nat_S7 : (f_at S7).toInt = (f_at S1).toInt := congrArg Int32.toInt kpA_S7.2.1
                        have qhw8 : (rv8.toInt = 0 ∧ (f_frames S7).toInt = (f_frames S1).toInt + 1) ∨ (rv8.toInt = 12 ∧ (f_frames S7).toInt = (f_frames S1).toInt) := qqhw8
                        exact j_iret F hr hlocks hK hS S7 ⟨⟨i_size, i_taken, i_vals, i_room, i_dicts, i_deep, i_open, i_cells, i_points, i_part, i_length, i_knows, i_page, i_text, i_pats, i_fuel, i_fr, i_ink⟩, kST_S7, (show -1 ≤ rv8.toInt ∧ rv8.toInt ≤ 16 ∧ (rv8.toInt = 16 ∨ (f_frames S7).toInt + 3 * (f_fuel S7).toInt - 3 * (f_steps S7).toInt + 1 ≤ (f_frames S).toInt + 3 * (f_fuel S).toInt - 3 * (f_steps S).toInt) by omega)⟩ hP hD d_Mo_advance_359
                      · have fc341_5 : ¬ rv1.toInt = 0 := zt_ne (show rv1.toInt = _ from rfl) tI_0 c341_5
                        refine lv_iload hx hb d_Mo_advance_344 (lv_at hl 0 rfl) ?_
                        refine lv_goto (tgt := 359) hx hb d_Mo_advance_346 (by decide) ?_
                        exact j_iret F hr hlocks hK hS ((S1.1, S1.2.1, ((f_under S1), (a_what S1), (a_array S1), (a_far S1), (vp_updL (a_value S1) (((f_frames S).toInt - 1).toNat) x27), (a_grows S1), (a_last S1), (a_text S1)), S1.2.2.2.1, S1.2.2.2.2.1, S1.2.2.2.2.2) : MS) ⟨⟨i_size, i_taken, i_vals, i_room, i_dicts, i_deep, i_open, i_cells, i_points, i_part, i_length, i_knows, i_page, i_text, i_pats, i_fuel, (fr_val i_fr (fun q => by have := hval (by omega); omega)), i_ink⟩, kST_S1, (show -1 ≤ rv1.toInt ∧ rv1.toInt ≤ 16 ∧ (rv1.toInt = 16 ∨ (f_frames S1).toInt + 3 * (f_fuel S1).toInt - 3 * (f_steps S1).toInt + 1 ≤ (f_frames S).toInt + 3 * (f_fuel S).toInt - 3 * (f_steps S).toInt) by omega)⟩ hP hD d_Mo_advance_359
                    · refine lv_iload_n hx hb d_Mo_advance_320 rfl (lv_at hl 3 rfl) ?_
                      refine lv_iconst (v := 3) hx hb d_Mo_advance_321 (by decide) ?_
                      refine lv_icmp_ne (tgt := 334) hx hb d_Mo_advance_322 (by decide) (fun c322_5 => ?_) (fun c322_5 => ?_)
                      · have fc322_5 : ¬ x2.toInt = 3 := zt_ne (show x2.toInt = _ from rfl) tI_3 c322_5
                        refine lv_ldc2 (v := (-1)) hx hb hown (hts _ k_7_238) d_Mo_advance_334 ?_
                        exact key8 (-1 : Int64) _ _ _ ⟨(show x2.toInt = 3 → (-1 : Int64).toInt = (a_grows S1 ((f_frames S).toInt - 1).toNat).toInt by have := tJ_m1; omega), hP, hD, hS, lv_sub hl [0, 1, 2, 3, 4, 5] rfl⟩
                      · have fc322_5 : x2.toInt = 3 := zt_eq (show x2.toInt = _ from rfl) tI_3 c322_5
                        refine lv_aload_n hx hb d_Mo_advance_325 rfl (lv_at hl 5 rfl) ?_
                        refine va_get (D := D) (ci := 11) (v := .ref (ar 13)) (C := "PageScribeModel") (T := F_Mo) (N := 45) hx hb hts i_Mo hown hK hP 0 mW_0 cl_11 21 (by decide) (hts _ k_6_181) (fun _ h9 => h9) (mg_grows _ _) d_Mo_advance_326 ?_
                        refine lv_iload_n hx hb d_Mo_advance_329 rfl (lv_at hl 4 rfl) ?_
                        refine va_lald hx hb hK hP 14 1 (ma_grows _ _ _ _) rfl (zt_in fx1 (by omega) (by omega)) d_Mo_advance_330 ?_
                        refine lv_topl (fun x29 ex29 => ?_)
                        have gx29 : x29 = (a_grows S1) ((f_frames S).toInt - 1).toNat := ex29.trans (congrArg _ (zt_ix fx1))
                        have fx29 : x29.toInt = ((a_grows S1) ((f_frames S).toInt - 1).toNat).toInt := by rw [gx29]
                        refine lv_goto (tgt := 337) hx hb d_Mo_advance_331 (by decide) ?_
                        exact key8 (x29) _ _ _ ⟨(show x2.toInt = 3 → x29.toInt = (a_grows S1 ((f_frames S).toInt - 1).toNat).toInt by omega), hP, hD, hS, lv_sub hl [0, 1, 2, 3, 4, 5] rfl⟩
                  · have fc283_2 : x2.toInt = 6 := zt_eq (show x2.toInt = _ from rfl) tI_6 c283_2
                    refine lv_aload_n hx hb d_Mo_advance_286 rfl (lv_at hl 5 rfl) ?_
                    refine lv_bipush (v := 50) hx hb d_Mo_advance_287 (by decide) ?_
                    refine lv_aload_n hx hb d_Mo_advance_289 rfl (lv_at hl 5 rfl) ?_
                    refine va_get (D := D) (ci := 11) (v := .ref (ar 14)) (C := "PageScribeModel") (T := F_Mo) (N := 45) hx hb hts i_Mo hown hK hP 0 mW_0 cl_11 22 (by decide) (hts _ k_6_182) (fun _ h9 => h9) (mg_last _ _) d_Mo_advance_290 ?_
                    refine lv_iload_n hx hb d_Mo_advance_293 rfl (lv_at hl 4 rfl) ?_
                    refine va_lald hx hb hK hP 15 1 (ma_last _ _ _ _) rfl (zt_in fx1 (by omega) (by omega)) d_Mo_advance_294 ?_
                    refine lv_topl (fun x30 ex30 => ?_)
                    have gx30 : x30 = (a_last S1) ((f_frames S).toInt - 1).toNat := ex30.trans (congrArg _ (zt_ix fx1))
                    have fx30 : x30.toInt = ((a_last S1) ((f_frames S).toInt - 1).toNat).toInt := by rw [gx30]
                    have flb := fq_l ft (by omega)
                    refine j_ci (wc := []) (wr := (mW T h0 ar S1)) hK hP hD hS hA [] isc rfl isc_all isc_nd (fun _ _ => List.not_mem_nil) (va_runS (As := [.long x30]) (rest := [.int 50, .ref h0]) F (m_first l D T x30 H.size (show 0 ≤ x30.toInt by omega)) (j_cS (k := 1) hts k_8_22 k_1_12 k_8_20 k_8_21 (by decide +kernel) ⟨Nat.le_of_ble_eq_true rfl, Nat.le_of_ble_eq_true rfl⟩) (j_preS hK hP hD [] rfl (by decide) (fun _ _ _ _ h => h) (fun _ _ _ => trivial)) rfl rfl hl.1 rfl (lv_room (Nat.le_of_ble_eq_true rfl)) d_Mo_advance_295 ⟨Nat.le_of_ble_eq_true rfl, Nat.le_of_ble_eq_true rfl⟩) (fun rv9 u2 H locs hw9 hP hD hS => ?_)
                    have hP : va_P D classes (mW T h0 ar S1) H := hP
                    have hD : va_D A (mW T h0 ar S1) := hD
                    have qhw9 : rv9.toInt = x30.toInt % 1024 := hw9
                    refine lv_iadd hx hb d_Mo_advance_298 ?_
                    refine lv_topi (fun x31 ex31 => ?_)
                    have fx31 : x31.toInt = (rv9.toInt + 50) := by rw [ex31]; exact (zt_add tI_50 (show rv9.toInt = _ from rfl) (by omega) (by omega)).trans (by omega)
                    refine lv_aload_n hx hb d_Mo_advance_299 rfl (lv_at hl 5 rfl) ?_
                    refine va_get (D := D) (ci := 11) (v := .ref (ar 11)) (C := "PageScribeModel") (T := F_Mo) (N := 45) hx hb hts i_Mo hown hK hP 0 mW_0 cl_11 19 (by decide) (hts _ k_6_179) (fun _ h9 => h9) (mg_far _ _) d_Mo_advance_300 ?_
                    refine lv_iload_n hx hb d_Mo_advance_303 rfl (lv_at hl 4 rfl) ?_
                    refine va_iald hx hb hK hP 12 0 (ma_far _ _ _ _) rfl (zt_in fx1 (by omega) (by omega)) d_Mo_advance_304 ?_
                    refine lv_topi (fun x32 ex32 => ?_)
                    have gx32 : x32 = (a_far S1) ((f_frames S).toInt - 1).toNat := ex32.trans (congrArg _ (zt_ix fx1))
                    have fx32 : x32.toInt = ((a_far S1) ((f_frames S).toInt - 1).toNat).toInt := by rw [gx32]
                    have hfx : x32.toInt = (a_far S ((f_frames S).toInt - 1).toNat).toInt + 1 := by
                      have h1 := hfar (by omega)
                      have h2 : (upd (a_far S) ((f_frames S).toInt - 1).toNat x4 ((f_frames S).toInt - 1).toNat).toInt = x4.toInt := congrArg Int32.toInt upd_s
                      omega
                    refine lv_iadd hx hb d_Mo_advance_305 ?_
                    refine lv_topi (fun x33 ex33 => ?_)
                    have fx33 : x33.toInt = (rv9.toInt + x32.toInt + 50) := by rw [ex33]; exact (zt_add fx31 (show x32.toInt = _ from rfl) (by omega) (by omega)).trans (by omega)
                    refine lv_iconst (v := 1) hx hb d_Mo_advance_306 (by decide) ?_
                    refine lv_isub hx hb d_Mo_advance_307 ?_
                    refine lv_topi (fun x34 ex34 => ?_)
                    have fx34 : x34.toInt = (rv9.toInt + x32.toInt + 49) := by rw [ex34]; exact (zt_sub fx33 tI_1 (by omega) (by omega)).trans (by omega)
                    refine jm_ci (w := (fun u => u)) hK hP hD hS hA (va_runV (As := [.int x34]) (rest := []) F (m_pushValue l D T h0 ar S1 x34 H.size ⟨i_size, i_taken, i_vals, i_room, i_dicts, i_deep, i_open, i_cells, i_points, i_part, i_length, i_knows, i_page, i_text, i_pats, i_fuel, i_fr, i_ink⟩ (show 0 ≤ x34.toInt ∧ x34.toInt < 1300 by first | omega | (simp only [fx34]; omega))) (j_cV (k := 1) (C := "PageScribeModel") hts k_7_139 k_1_12 k_7_136 k_7_138 k_0_94 (by decide +kernel) ⟨Nat.le_of_ble_eq_true rfl, Nat.le_of_ble_eq_true rfl⟩) (jm_pre hK hP hD) rfl rfl hl.1 rfl (lv_room (Nat.le_of_ble_eq_true rfl)) d_Mo_advance_308 ⟨Nat.le_of_ble_eq_true rfl, Nat.le_of_ble_eq_true rfl⟩) (fun rv10 S8 H locs hw10 hP hD hS => ?_)
                    have hP : va_P D classes (mW T h0 ar S8) H := hP
                    have hD : va_D A (mW T h0 ar S8) := hD
                    obtain ⟨⟨i_size, i_taken, i_vals, i_room, i_dicts, i_deep, i_open, i_cells, i_points, i_part, i_length, i_knows, i_page, i_text, i_pats, i_fuel, i_fr, i_ink⟩, kpA_S8, kpF_S8, qqhw10⟩ := hw10
                    have kST_S8 : kT S S8 := kT_t (show kT S S1 from kST_S1) (kT_A kpA_S8)
                    have nwhat_S8 : (a_what S8 ((f_frames S).toInt - 1).toNat).toInt = ((a_what S1) ((f_frames S).toInt - 1).toNat).toInt := congrArg Int32.toInt (congrFun kpF_S8.2.2.1 ((f_frames S).toInt - 1).toNat)
                    have narray_S8 : (a_array S8 ((f_frames S).toInt - 1).toNat).toInt = ((a_array S1) ((f_frames S).toInt - 1).toNat).toInt := congrArg Int64.toInt (congrFun kpF_S8.2.2.2.1 ((f_frames S).toInt - 1).toNat)
                    have nfar_S8 : (a_far S8 ((f_frames S).toInt - 1).toNat).toInt = ((a_far S1) ((f_frames S).toInt - 1).toNat).toInt := congrArg Int32.toInt (congrFun kpF_S8.2.2.2.2.1 ((f_frames S).toInt - 1).toNat)
                    have nvalue_S8 : (a_value S8 ((f_frames S).toInt - 1).toNat).toInt = ((a_value S1) ((f_frames S).toInt - 1).toNat).toInt := congrArg Int64.toInt (congrFun kpF_S8.2.2.2.2.2.1 ((f_frames S).toInt - 1).toNat)
                    have ngrows_S8 : (a_grows S8 ((f_frames S).toInt - 1).toNat).toInt = ((a_grows S1) ((f_frames S).toInt - 1).toNat).toInt := congrArg Int64.toInt (congrFun kpF_S8.2.2.2.2.2.2.1 ((f_frames S).toInt - 1).toNat)
                    have nlast_S8 : (a_last S8 ((f_frames S).toInt - 1).toNat).toInt = ((a_last S1) ((f_frames S).toInt - 1).toNat).toInt := congrArg Int64.toInt (congrFun kpF_S8.2.2.2.2.2.2.2 ((f_frames S).toInt - 1).toNat)
                    have nframes_S8 : (f_frames S8).toInt = (f_frames S1).toInt := congrArg Int32.toInt kpF_S8.1
                    have nunder_S8 : (f_under S8).toInt = (f_under S1).toInt := congrArg Int32.toInt kpF_S8.2.1
                    have nsteps_S8 : (f_steps S8).toInt = (f_steps S1).toInt := congrArg Int32.toInt kpA_S8.2.2.2.2.1
                    have nfuel_S8 : (f_fuel S8).toInt = (f_fuel S1).toInt := congrArg Int32.toInt kpA_S8.2.2.2.1
                    have nlevel_S8 : (f_level S8).toInt = (f_level S1).toInt := congrArg Int32.toInt kpA_S8.2.2.2.2.2.2.1
                    have npending_S8 : (f_pending S8).toInt = (f_pending S1).toInt := congrArg Int32.toInt kpA_S8.2.2.2.2.2.1
                    have nlength_S8 : (f_length S8).toInt = (f_length S1).toInt := congrArg Int32.toInt kpA_S8.1
                    have nat_S8 : (f_at S8).toInt = (f_at S1).toInt := congrArg Int32.toInt kpA_S8.2.1
                    have qhw10 : rv10.toInt = 0 ∨ rv10.toInt = 2 := by simpa only [fx34] using qqhw10
                    refine lv_istore (lv' := [(5, .int rv10), (4, .int j2), (3, .int j1), (2, .int x2), (1, .int x1), (0, .ref h0)]) hx hb d_Mo_advance_311 hl (by decide) rfl (fun ls hl => ?_)
                    refine lv_aload_n hx hb d_Mo_advance_313 rfl (lv_at hl 5 rfl) ?_
                    refine va_get (D := D) (ci := 11) (v := .ref (ar 12)) (C := "PageScribeModel") (T := F_Mo) (N := 45) hx hb hts i_Mo hown hK hP 0 mW_0 cl_11 20 (by decide) (hts _ k_6_180) (fun _ h9 => h9) (mg_value _ _) d_Mo_advance_314 ?_
                    refine lv_iload_n hx hb d_Mo_advance_317 rfl (lv_at hl 4 rfl) ?_
                    refine lv_dup2_11 hx hb d_Mo_advance_318 rfl rfl ?_
                    refine va_lald hx hb hK hP 13 1 (ma_value _ _ _ _) rfl (zt_in fx1 (by omega) (by omega)) d_Mo_advance_319 ?_
                    refine lv_topl (fun x35 ex35 => ?_)
                    have gx35 : x35 = (a_value S8) ((f_frames S).toInt - 1).toNat := ex35.trans (congrArg _ (zt_ix fx1))
                    have fx35 : x35.toInt = ((a_value S8) ((f_frames S).toInt - 1).toNat).toInt := by rw [gx35]
                    refine j_joinH (α := Int64) (fun x H locs ls => (x2.toInt = 3 → x.toInt = (a_grows S8 ((f_frames S).toInt - 1).toNat).toInt) ∧ va_P D classes (mW T h0 ar S8) H ∧ va_D A (mW T h0 ar S8) ∧ va_S A s.heap H locs ∧ lv_has ls 6 [(5, .int rv10), (4, .int j2), (3, .int j1), (2, .int x2), (1, .int x1), (0, .ref h0)]) (fun x ls => F0 m 337 ls (.long x :: [.long x35, .int x1, .ref (ar 12)])) (fun x H locs ls hI9 => ?_) (fun key9 => ?_)
                    · obtain ⟨j9, rfl⟩ : ∃ z, z = x := ⟨_, rfl⟩
                      obtain ⟨hj9, hP, hD, hS, hl⟩ := hI9
                      have hj9 : x2.toInt = 3 → j9.toInt = (a_grows S8 ((f_frames S).toInt - 1).toNat).toInt := hj9
                      have hP : va_P D classes (mW T h0 ar S8) H := hP
                      have hD : va_D A (mW T h0 ar S8) := hD
                      have hl : lv_has ls 6 [(5, .int rv10), (4, .int j2), (3, .int j1), (2, .int x2), (1, .int x1), (0, .ref h0)] := hl
                      refine lv_ladd hx hb d_Mo_advance_337 ?_
                      refine lv_topl (fun x36 ex36 => ?_)
                      have hval : (a_what S8 ((f_frames S).toInt - 1).toNat).toInt = 3 → (0 ≤ (a_grows S8 ((f_frames S).toInt - 1).toNat).toInt → -2147483648 ≤ x36.toInt) ∧ ((a_grows S8 ((f_frames S).toInt - 1).toNat).toInt < 0 → x36.toInt ≤ 2147483647) := fun q => by
                        have q1 := fq_o ft (by omega)
                        have q2 := fq_v ft (by omega) (by omega)
                        have q3 := hj9 (by omega)
                        have q4 : x36.toInt = x35.toInt + j9.toInt := by rw [ex36]; exact zu_add rfl rfl (by omega) (by omega)
                        omega
                      refine va_last hx hb hK hP hD hS 13 1 (ma_value _ _ _ _) rfl (zt_in fx1 (by omega) (by omega)) d_Mo_advance_338 (fun H locs hP hD hS => ?_)
                      rw [ms_value] at hP hD
                      rw [zt_ix fx1] at hP hD
                      have hP : va_P D classes (mW T h0 ar ((S8.1, S8.2.1, ((f_under S8), (a_what S8), (a_array S8), (a_far S8), (vp_updL (a_value S8) (((f_frames S).toInt - 1).toNat) x36), (a_grows S8), (a_last S8), (a_text S8)), S8.2.2.2.1, S8.2.2.2.2.1, S8.2.2.2.2.2) : MS)) H := hP
                      have hD : va_D A (mW T h0 ar ((S8.1, S8.2.1, ((f_under S8), (a_what S8), (a_array S8), (a_far S8), (vp_updL (a_value S8) (((f_frames S).toInt - 1).toNat) x36), (a_grows S8), (a_last S8), (a_text S8)), S8.2.2.2.1, S8.2.2.2.2.1, S8.2.2.2.2.2) : MS)) := hD
                      refine lv_iload hx hb d_Mo_advance_339 (lv_at hl 0 rfl) ?_
                      refine lv_if_eq (tgt := 349) hx hb d_Mo_advance_341 (by decide) (fun c341_6 => ?_) (fun c341_6 => ?_)
                      · have fc341_6 : rv10.toInt = 0 := zt_eq (show rv10.toInt = _ from rfl) tI_0 c341_6
                        refine lv_aload_n hx hb d_Mo_advance_349 rfl (lv_at hl 5 rfl) ?_
                        refine lv_aload_n hx hb d_Mo_advance_350 rfl (lv_at hl 5 rfl) ?_
                        refine va_get (D := D) (ci := 11) (v := .ref (ar 10)) (C := "PageScribeModel") (T := F_Mo) (N := 45) hx hb hts i_Mo hown hK hP 0 mW_0 cl_11 18 (by decide) (hts _ k_6_178) (fun _ h9 => h9) (mg_array _ _) d_Mo_advance_351 ?_
                        refine lv_iload_n hx hb d_Mo_advance_354 rfl (lv_at hl 4 rfl) ?_
                        refine va_lald hx hb hK hP 11 1 (ma_array _ _ _ _) rfl (zt_in fx1 (by omega) (by omega)) d_Mo_advance_355 ?_
                        refine lv_topl (fun x37 ex37 => ?_)
                        have gx37 : x37 = (a_array S8) ((f_frames S).toInt - 1).toNat := ex37.trans (congrArg _ (zt_ix fx1))
                        have fx37 : x37.toInt = ((a_array S8) ((f_frames S).toInt - 1).toNat).toInt := by rw [gx37]
                        refine jm_ci (w := (fun u => u)) hK hP hD hS hA (va_runV (As := [.long x37]) (rest := []) F (m_runArray l D T h0 ar ((S8.1, S8.2.1, ((f_under S8), (a_what S8), (a_array S8), (a_far S8), (vp_updL (a_value S8) (((f_frames S).toInt - 1).toNat) x36), (a_grows S8), (a_last S8), (a_text S8)), S8.2.2.2.1, S8.2.2.2.2.1, S8.2.2.2.2.2) : MS) x37 H.size ⟨i_size, i_taken, i_vals, i_room, i_dicts, i_deep, i_open, i_cells, i_points, i_part, i_length, i_knows, i_page, i_text, i_pats, i_fuel, (fr_val i_fr (fun q => by have := hval (by omega); omega)), i_ink⟩ (show cOk x37 by omega)) (j_cV (k := 1) (C := "PageScribeModel") hts k_8_55 k_1_12 k_8_52 k_8_54 k_0_128 (by decide +kernel) ⟨Nat.le_of_ble_eq_true rfl, Nat.le_of_ble_eq_true rfl⟩) (jm_pre hK hP hD) rfl rfl hl.1 rfl (lv_room (Nat.le_of_ble_eq_true rfl)) d_Mo_advance_356 ⟨Nat.le_of_ble_eq_true rfl, Nat.le_of_ble_eq_true rfl⟩) (fun rv11 S9 H locs hw11 hP hD hS => ?_)
                        have hP : va_P D classes (mW T h0 ar S9) H := hP
                        have hD : va_D A (mW T h0 ar S9) := hD
                        obtain ⟨⟨i_size, i_taken, i_vals, i_room, i_dicts, i_deep, i_open, i_cells, i_points, i_part, i_length, i_knows, i_page, i_text, i_pats, i_fuel, i_fr, i_ink⟩, kpA_S9, qqhw11⟩ := hw11
                        have kST_S9 : kT S S9 := kT_t (show kT S ((S8.1, S8.2.1, ((f_under S8), (a_what S8), (a_array S8), (a_far S8), (vp_updL (a_value S8) (((f_frames S).toInt - 1).toNat) x36), (a_grows S8), (a_last S8), (a_text S8)), S8.2.2.2.1, S8.2.2.2.2.1, S8.2.2.2.2.2) : MS) from kST_S8) (kT_A kpA_S9)
                        have nsteps_S9 : (f_steps S9).toInt = (f_steps S8).toInt := congrArg Int32.toInt kpA_S9.2.2.2.2.1
                        have nfuel_S9 : (f_fuel S9).toInt = (f_fuel S8).toInt := congrArg Int32.toInt kpA_S9.2.2.2.1
                        have nlevel_S9 : (f_level S9).toInt = (f_level S8).toInt := congrArg Int32.toInt kpA_S9.2.2.2.2.2.2.1
                        have npending_S9 : (f_pending S9).toInt = (f_pending S8).toInt := congrArg Int32.toInt kpA_S9.2.2.2.2.2.1
                        have nlength_S9 : (f_length S9).toInt = (f_length S8).toInt := congrArg Int32.toInt kpA_S9.1
                        have nat_S9 : (f_at S9).toInt = (f_at S8).toInt := congrArg Int32.toInt kpA_S9.2.1
                        have qhw11 : (rv11.toInt = 0 ∧ (f_frames S9).toInt = (f_frames S8).toInt + 1) ∨ (rv11.toInt = 12 ∧ (f_frames S9).toInt = (f_frames S8).toInt) := qqhw11
                        exact j_iret F hr hlocks hK hS S9 ⟨⟨i_size, i_taken, i_vals, i_room, i_dicts, i_deep, i_open, i_cells, i_points, i_part, i_length, i_knows, i_page, i_text, i_pats, i_fuel, i_fr, i_ink⟩, kST_S9, (show -1 ≤ rv11.toInt ∧ rv11.toInt ≤ 16 ∧ (rv11.toInt = 16 ∨ (f_frames S9).toInt + 3 * (f_fuel S9).toInt - 3 * (f_steps S9).toInt + 1 ≤ (f_frames S).toInt + 3 * (f_fuel S).toInt - 3 * (f_steps S).toInt) by omega)⟩ hP hD d_Mo_advance_359
                      · have fc341_6 : ¬ rv10.toInt = 0 := zt_ne (show rv10.toInt = _ from rfl) tI_0 c341_6
                        refine lv_iload hx hb d_Mo_advance_344 (lv_at hl 0 rfl) ?_
                        refine lv_goto (tgt := 359) hx hb d_Mo_advance_346 (by decide) ?_
                        exact j_iret F hr hlocks hK hS ((S8.1, S8.2.1, ((f_under S8), (a_what S8), (a_array S8), (a_far S8), (vp_updL (a_value S8) (((f_frames S).toInt - 1).toNat) x36), (a_grows S8), (a_last S8), (a_text S8)), S8.2.2.2.1, S8.2.2.2.2.1, S8.2.2.2.2.2) : MS) ⟨⟨i_size, i_taken, i_vals, i_room, i_dicts, i_deep, i_open, i_cells, i_points, i_part, i_length, i_knows, i_page, i_text, i_pats, i_fuel, (fr_val i_fr (fun q => by have := hval (by omega); omega)), i_ink⟩, kST_S8, (show -1 ≤ rv10.toInt ∧ rv10.toInt ≤ 16 ∧ (rv10.toInt = 16 ∨ (f_frames S8).toInt + 3 * (f_fuel S8).toInt - 3 * (f_steps S8).toInt + 1 ≤ (f_frames S).toInt + 3 * (f_fuel S).toInt - 3 * (f_steps S).toInt) by omega)⟩ hP hD d_Mo_advance_359
                    · refine lv_iload_n hx hb d_Mo_advance_320 rfl (lv_at hl 3 rfl) ?_
                      refine lv_iconst (v := 3) hx hb d_Mo_advance_321 (by decide) ?_
                      refine lv_icmp_ne (tgt := 334) hx hb d_Mo_advance_322 (by decide) (fun c322_6 => ?_) (fun c322_6 => ?_)
                      · have fc322_6 : ¬ x2.toInt = 3 := zt_ne (show x2.toInt = _ from rfl) tI_3 c322_6
                        refine lv_ldc2 (v := (-1)) hx hb hown (hts _ k_7_238) d_Mo_advance_334 ?_
                        exact key9 (-1 : Int64) _ _ _ ⟨(show x2.toInt = 3 → (-1 : Int64).toInt = (a_grows S8 ((f_frames S).toInt - 1).toNat).toInt by have := tJ_m1; omega), hP, hD, hS, lv_sub hl [0, 1, 2, 3, 4, 5] rfl⟩
                      · have fc322_6 : x2.toInt = 3 := zt_eq (show x2.toInt = _ from rfl) tI_3 c322_6
                        refine lv_aload_n hx hb d_Mo_advance_325 rfl (lv_at hl 5 rfl) ?_
                        refine va_get (D := D) (ci := 11) (v := .ref (ar 13)) (C := "PageScribeModel") (T := F_Mo) (N := 45) hx hb hts i_Mo hown hK hP 0 mW_0 cl_11 21 (by decide) (hts _ k_6_181) (fun _ h9 => h9) (mg_grows _ _) d_Mo_advance_326 ?_
                        refine lv_iload_n hx hb d_Mo_advance_329 rfl (lv_at hl 4 rfl) ?_
                        refine va_lald hx hb hK hP 14 1 (ma_grows _ _ _ _) rfl (zt_in fx1 (by omega) (by omega)) d_Mo_advance_330 ?_
                        refine lv_topl (fun x38 ex38 => ?_)
                        have gx38 : x38 = (a_grows S8) ((f_frames S).toInt - 1).toNat := ex38.trans (congrArg _ (zt_ix fx1))
                        have fx38 : x38.toInt = ((a_grows S8) ((f_frames S).toInt - 1).toNat).toInt := by rw [gx38]
                        refine lv_goto (tgt := 337) hx hb d_Mo_advance_331 (by decide) ?_
                        exact key9 (x38) _ _ _ ⟨(show x2.toInt = 3 → x38.toInt = (a_grows S8 ((f_frames S).toInt - 1).toNat).toInt by omega), hP, hD, hS, lv_sub hl [0, 1, 2, 3, 4, 5] rfl⟩
              · have fc259_1 : x2.toInt = 3 := zt_eq (show x2.toInt = _ from rfl) tI_3 c259_1
                refine lv_aload_n hx hb d_Mo_advance_262 rfl (lv_at hl 5 rfl) ?_
                refine lv_iconst (v := 0) hx hb d_Mo_advance_263 (by decide) ?_
                refine lv_aload_n hx hb d_Mo_advance_264 rfl (lv_at hl 5 rfl) ?_
                refine va_get (D := D) (ci := 11) (v := .ref (ar 12)) (C := "PageScribeModel") (T := F_Mo) (N := 45) hx hb hts i_Mo hown hK hP 0 mW_0 cl_11 20 (by decide) (hts _ k_6_180) (fun _ h9 => h9) (mg_value _ _) d_Mo_advance_265 ?_
                refine lv_iload_n hx hb d_Mo_advance_268 rfl (lv_at hl 4 rfl) ?_
                refine va_lald hx hb hK hP 13 1 (ma_value _ _ _ _) rfl (zt_in fx1 (by omega) (by omega)) d_Mo_advance_269 ?_
                refine lv_topl (fun x39 ex39 => ?_)
                have gx39 : x39 = (a_value S1) ((f_frames S).toInt - 1).toNat := ex39.trans (congrArg _ (zt_ix fx1))
                have fx39 : x39.toInt = ((a_value S1) ((f_frames S).toInt - 1).toNat).toInt := by rw [gx39]
                have hvv := fq_v ft (by omega) (by omega)
                refine jm_ci (w := (fun u => u)) hK hP hD hS hA (va_runV (As := [.int 0, .long x39]) (rest := []) F (m_push l D T h0 ar S1 (0 : Int32) x39 H.size ⟨i_size, i_taken, i_vals, i_room, i_dicts, i_deep, i_open, i_cells, i_points, i_part, i_length, i_knows, i_page, i_text, i_pats, i_fuel, i_fr, i_ink⟩ (vO_int (by omega))) (j_cV (k := 2) (C := "PageScribeModel") hts k_7_191 k_1_12 k_7_188 k_7_190 k_0_106 (by decide +kernel) ⟨Nat.le_of_ble_eq_true rfl, Nat.le_of_ble_eq_true rfl⟩) (jm_pre hK hP hD) rfl rfl hl.1 rfl (lv_room (Nat.le_of_ble_eq_true rfl)) d_Mo_advance_270 ⟨Nat.le_of_ble_eq_true rfl, Nat.le_of_ble_eq_true rfl⟩) (fun rv12 S10 H locs hw12 hP hD hS => ?_)
                have hP : va_P D classes (mW T h0 ar S10) H := hP
                have hD : va_D A (mW T h0 ar S10) := hD
                obtain ⟨⟨i_size, i_taken, i_vals, i_room, i_dicts, i_deep, i_open, i_cells, i_points, i_part, i_length, i_knows, i_page, i_text, i_pats, i_fuel, i_fr, i_ink⟩, kpA_S10, kpF_S10, qqhw12⟩ := hw12
                have kST_S10 : kT S S10 := kT_t (show kT S S1 from kST_S1) (kT_A kpA_S10)
                have nwhat_S10 : (a_what S10 ((f_frames S).toInt - 1).toNat).toInt = ((a_what S1) ((f_frames S).toInt - 1).toNat).toInt := congrArg Int32.toInt (congrFun kpF_S10.2.2.1 ((f_frames S).toInt - 1).toNat)
                have narray_S10 : (a_array S10 ((f_frames S).toInt - 1).toNat).toInt = ((a_array S1) ((f_frames S).toInt - 1).toNat).toInt := congrArg Int64.toInt (congrFun kpF_S10.2.2.2.1 ((f_frames S).toInt - 1).toNat)
                have nfar_S10 : (a_far S10 ((f_frames S).toInt - 1).toNat).toInt = ((a_far S1) ((f_frames S).toInt - 1).toNat).toInt := congrArg Int32.toInt (congrFun kpF_S10.2.2.2.2.1 ((f_frames S).toInt - 1).toNat)
                have nvalue_S10 : (a_value S10 ((f_frames S).toInt - 1).toNat).toInt = ((a_value S1) ((f_frames S).toInt - 1).toNat).toInt := congrArg Int64.toInt (congrFun kpF_S10.2.2.2.2.2.1 ((f_frames S).toInt - 1).toNat)
                have ngrows_S10 : (a_grows S10 ((f_frames S).toInt - 1).toNat).toInt = ((a_grows S1) ((f_frames S).toInt - 1).toNat).toInt := congrArg Int64.toInt (congrFun kpF_S10.2.2.2.2.2.2.1 ((f_frames S).toInt - 1).toNat)
                have nlast_S10 : (a_last S10 ((f_frames S).toInt - 1).toNat).toInt = ((a_last S1) ((f_frames S).toInt - 1).toNat).toInt := congrArg Int64.toInt (congrFun kpF_S10.2.2.2.2.2.2.2 ((f_frames S).toInt - 1).toNat)
                have nframes_S10 : (f_frames S10).toInt = (f_frames S1).toInt := congrArg Int32.toInt kpF_S10.1
                have nunder_S10 : (f_under S10).toInt = (f_under S1).toInt := congrArg Int32.toInt kpF_S10.2.1
                have nsteps_S10 : (f_steps S10).toInt = (f_steps S1).toInt := congrArg Int32.toInt kpA_S10.2.2.2.2.1
                have nfuel_S10 : (f_fuel S10).toInt = (f_fuel S1).toInt := congrArg Int32.toInt kpA_S10.2.2.2.1
                have nlevel_S10 : (f_level S10).toInt = (f_level S1).toInt := congrArg Int32.toInt kpA_S10.2.2.2.2.2.2.1
                have npending_S10 : (f_pending S10).toInt = (f_pending S1).toInt := congrArg Int32.toInt kpA_S10.2.2.2.2.2.1
                have nlength_S10 : (f_length S10).toInt = (f_length S1).toInt := congrArg Int32.toInt kpA_S10.1
                have nat_S10 : (f_at S10).toInt = (f_at S1).toInt := congrArg Int32.toInt kpA_S10.2.1
                have qhw12 : rv12.toInt = 0 ∨ rv12.toInt = 2 := by simpa only [tI_0] using qqhw12
                refine lv_istore (lv' := [(5, .int rv12), (4, .int j2), (3, .int j1), (2, .int x2), (1, .int x1), (0, .ref h0)]) hx hb d_Mo_advance_273 hl (by decide) rfl (fun ls hl => ?_)
                refine lv_iload hx hb d_Mo_advance_275 (lv_at hl 0 rfl) ?_
                refine lv_if_ne (tgt := 313) hx hb d_Mo_advance_277 (by decide) (fun c277_3 => ?_) (fun c277_3 => ?_)
                · have fc277_3 : ¬ rv12.toInt = 0 := zt_ne (show rv12.toInt = _ from rfl) tI_0 c277_3
                  refine lv_aload_n hx hb d_Mo_advance_313 rfl (lv_at hl 5 rfl) ?_
                  refine va_get (D := D) (ci := 11) (v := .ref (ar 12)) (C := "PageScribeModel") (T := F_Mo) (N := 45) hx hb hts i_Mo hown hK hP 0 mW_0 cl_11 20 (by decide) (hts _ k_6_180) (fun _ h9 => h9) (mg_value _ _) d_Mo_advance_314 ?_
                  refine lv_iload_n hx hb d_Mo_advance_317 rfl (lv_at hl 4 rfl) ?_
                  refine lv_dup2_11 hx hb d_Mo_advance_318 rfl rfl ?_
                  refine va_lald hx hb hK hP 13 1 (ma_value _ _ _ _) rfl (zt_in fx1 (by omega) (by omega)) d_Mo_advance_319 ?_
                  refine lv_topl (fun x40 ex40 => ?_)
                  have gx40 : x40 = (a_value S10) ((f_frames S).toInt - 1).toNat := ex40.trans (congrArg _ (zt_ix fx1))
                  have fx40 : x40.toInt = ((a_value S10) ((f_frames S).toInt - 1).toNat).toInt := by rw [gx40]
                  refine j_joinH (α := Int64) (fun x H locs ls => (x2.toInt = 3 → x.toInt = (a_grows S10 ((f_frames S).toInt - 1).toNat).toInt) ∧ va_P D classes (mW T h0 ar S10) H ∧ va_D A (mW T h0 ar S10) ∧ va_S A s.heap H locs ∧ lv_has ls 6 [(5, .int rv12), (4, .int j2), (3, .int j1), (2, .int x2), (1, .int x1), (0, .ref h0)]) (fun x ls => F0 m 337 ls (.long x :: [.long x40, .int x1, .ref (ar 12)])) (fun x H locs ls hI9 => ?_) (fun key10 => ?_)
                  · obtain ⟨j10, rfl⟩ : ∃ z, z = x := ⟨_, rfl⟩
                    obtain ⟨hj10, hP, hD, hS, hl⟩ := hI9
                    have hj10 : x2.toInt = 3 → j10.toInt = (a_grows S10 ((f_frames S).toInt - 1).toNat).toInt := hj10
                    have hP : va_P D classes (mW T h0 ar S10) H := hP
                    have hD : va_D A (mW T h0 ar S10) := hD
                    have hl : lv_has ls 6 [(5, .int rv12), (4, .int j2), (3, .int j1), (2, .int x2), (1, .int x1), (0, .ref h0)] := hl
                    refine lv_ladd hx hb d_Mo_advance_337 ?_
                    refine lv_topl (fun x41 ex41 => ?_)
                    have hval : (a_what S10 ((f_frames S).toInt - 1).toNat).toInt = 3 → (0 ≤ (a_grows S10 ((f_frames S).toInt - 1).toNat).toInt → -2147483648 ≤ x41.toInt) ∧ ((a_grows S10 ((f_frames S).toInt - 1).toNat).toInt < 0 → x41.toInt ≤ 2147483647) := fun q => by
                      have q1 := fq_o ft (by omega)
                      have q2 := fq_v ft (by omega) (by omega)
                      have q3 := hj10 (by omega)
                      have q4 : x41.toInt = x40.toInt + j10.toInt := by rw [ex41]; exact zu_add rfl rfl (by omega) (by omega)
                      omega
                    refine va_last hx hb hK hP hD hS 13 1 (ma_value _ _ _ _) rfl (zt_in fx1 (by omega) (by omega)) d_Mo_advance_338 (fun H locs hP hD hS => ?_)
                    rw [ms_value] at hP hD
                    rw [zt_ix fx1] at hP hD
                    have hP : va_P D classes (mW T h0 ar ((S10.1, S10.2.1, ((f_under S10), (a_what S10), (a_array S10), (a_far S10), (vp_updL (a_value S10) (((f_frames S).toInt - 1).toNat) x41), (a_grows S10), (a_last S10), (a_text S10)), S10.2.2.2.1, S10.2.2.2.2.1, S10.2.2.2.2.2) : MS)) H := hP
                    have hD : va_D A (mW T h0 ar ((S10.1, S10.2.1, ((f_under S10), (a_what S10), (a_array S10), (a_far S10), (vp_updL (a_value S10) (((f_frames S).toInt - 1).toNat) x41), (a_grows S10), (a_last S10), (a_text S10)), S10.2.2.2.1, S10.2.2.2.2.1, S10.2.2.2.2.2) : MS)) := hD
                    refine lv_iload hx hb d_Mo_advance_339 (lv_at hl 0 rfl) ?_
                    refine lv_if_eq (tgt := 349) hx hb d_Mo_advance_341 (by decide) (fun c341_7 => ?_) (fun c341_7 => ?_)
                    · have fc341_7 : rv12.toInt = 0 := zt_eq (show rv12.toInt = _ from rfl) tI_0 c341_7
                      refine lv_aload_n hx hb d_Mo_advance_349 rfl (lv_at hl 5 rfl) ?_
                      refine lv_aload_n hx hb d_Mo_advance_350 rfl (lv_at hl 5 rfl) ?_
                      refine va_get (D := D) (ci := 11) (v := .ref (ar 10)) (C := "PageScribeModel") (T := F_Mo) (N := 45) hx hb hts i_Mo hown hK hP 0 mW_0 cl_11 18 (by decide) (hts _ k_6_178) (fun _ h9 => h9) (mg_array _ _) d_Mo_advance_351 ?_
                      refine lv_iload_n hx hb d_Mo_advance_354 rfl (lv_at hl 4 rfl) ?_
                      refine va_lald hx hb hK hP 11 1 (ma_array _ _ _ _) rfl (zt_in fx1 (by omega) (by omega)) d_Mo_advance_355 ?_
                      refine lv_topl (fun x42 ex42 => ?_)
                      have gx42 : x42 = (a_array S10) ((f_frames S).toInt - 1).toNat := ex42.trans (congrArg _ (zt_ix fx1))
                      have fx42 : x42.toInt = ((a_array S10) ((f_frames S).toInt - 1).toNat).toInt := by rw [gx42]
                      refine jm_ci (w := (fun u => u)) hK hP hD hS hA (va_runV (As := [.long x42]) (rest := []) F (m_runArray l D T h0 ar ((S10.1, S10.2.1, ((f_under S10), (a_what S10), (a_array S10), (a_far S10), (vp_updL (a_value S10) (((f_frames S).toInt - 1).toNat) x41), (a_grows S10), (a_last S10), (a_text S10)), S10.2.2.2.1, S10.2.2.2.2.1, S10.2.2.2.2.2) : MS) x42 H.size ⟨i_size, i_taken, i_vals, i_room, i_dicts, i_deep, i_open, i_cells, i_points, i_part, i_length, i_knows, i_page, i_text, i_pats, i_fuel, (fr_val i_fr (fun q => by have := hval (by omega); omega)), i_ink⟩ (show cOk x42 by omega)) (j_cV (k := 1) (C := "PageScribeModel") hts k_8_55 k_1_12 k_8_52 k_8_54 k_0_128 (by decide +kernel) ⟨Nat.le_of_ble_eq_true rfl, Nat.le_of_ble_eq_true rfl⟩) (jm_pre hK hP hD) rfl rfl hl.1 rfl (lv_room (Nat.le_of_ble_eq_true rfl)) d_Mo_advance_356 ⟨Nat.le_of_ble_eq_true rfl, Nat.le_of_ble_eq_true rfl⟩) (fun rv13 S11 H locs hw13 hP hD hS => ?_)
                      have hP : va_P D classes (mW T h0 ar S11) H := hP
                      have hD : va_D A (mW T h0 ar S11) := hD
                      obtain ⟨⟨i_size, i_taken, i_vals, i_room, i_dicts, i_deep, i_open, i_cells, i_points, i_part, i_length, i_knows, i_page, i_text, i_pats, i_fuel, i_fr, i_ink⟩, kpA_S11, qqhw13⟩ := hw13
                      have kST_S11 : kT S S11 := kT_t (show kT S ((S10.1, S10.2.1, ((f_under S10), (a_what S10), (a_array S10), (a_far S10), (vp_updL (a_value S10) (((f_frames S).toInt - 1).toNat) x41), (a_grows S10), (a_last S10), (a_text S10)), S10.2.2.2.1, S10.2.2.2.2.1, S10.2.2.2.2.2) : MS) from kST_S10) (kT_A kpA_S11)
                      have nsteps_S11 : (f_steps S11).toInt = (f_steps S10).toInt := congrArg Int32.toInt kpA_S11.2.2.2.2.1
                      have nfuel_S11 : (f_fuel S11).toInt = (f_fuel S10).toInt := congrArg Int32.toInt kpA_S11.2.2.2.1
                      have nlevel_S11 : (f_level S11).toInt = (f_level S10).toInt := congrArg Int32.toInt kpA_S11.2.2.2.2.2.2.1
                      have npending_S11 : (f_pending S11).toInt = (f_pending S10).toInt := congrArg Int32.toInt kpA_S11.2.2.2.2.2.1
                      have nlength_S11 : (f_length S11).toInt = (f_length S10).toInt := congrArg Int32.toInt kpA_S11.1
                      have nat_S11 : (f_at S11).toInt = (f_at S10).toInt := congrArg Int32.toInt kpA_S11.2.1
                      have qhw13 : (rv13.toInt = 0 ∧ (f_frames S11).toInt = (f_frames S10).toInt + 1) ∨ (rv13.toInt = 12 ∧ (f_frames S11).toInt = (f_frames S10).toInt) := qqhw13
                      exact j_iret F hr hlocks hK hS S11 ⟨⟨i_size, i_taken, i_vals, i_room, i_dicts, i_deep, i_open, i_cells, i_points, i_part, i_length, i_knows, i_page, i_text, i_pats, i_fuel, i_fr, i_ink⟩, kST_S11, (show -1 ≤ rv13.toInt ∧ rv13.toInt ≤ 16 ∧ (rv13.toInt = 16 ∨ (f_frames S11).toInt + 3 * (f_fuel S11).toInt - 3 * (f_steps S11).toInt + 1 ≤ (f_frames S).toInt + 3 * (f_fuel S).toInt - 3 * (f_steps S).toInt) by omega)⟩ hP hD d_Mo_advance_359
                    · have fc341_7 : ¬ rv12.toInt = 0 := zt_ne (show rv12.toInt = _ from rfl) tI_0 c341_7
                      refine lv_iload hx hb d_Mo_advance_344 (lv_at hl 0 rfl) ?_
                      refine lv_goto (tgt := 359) hx hb d_Mo_advance_346 (by decide) ?_
                      exact j_iret F hr hlocks hK hS ((S10.1, S10.2.1, ((f_under S10), (a_what S10), (a_array S10), (a_far S10), (vp_updL (a_value S10) (((f_frames S).toInt - 1).toNat) x41), (a_grows S10), (a_last S10), (a_text S10)), S10.2.2.2.1, S10.2.2.2.2.1, S10.2.2.2.2.2) : MS) ⟨⟨i_size, i_taken, i_vals, i_room, i_dicts, i_deep, i_open, i_cells, i_points, i_part, i_length, i_knows, i_page, i_text, i_pats, i_fuel, (fr_val i_fr (fun q => by have := hval (by omega); omega)), i_ink⟩, kST_S10, (show -1 ≤ rv12.toInt ∧ rv12.toInt ≤ 16 ∧ (rv12.toInt = 16 ∨ (f_frames S10).toInt + 3 * (f_fuel S10).toInt - 3 * (f_steps S10).toInt + 1 ≤ (f_frames S).toInt + 3 * (f_fuel S).toInt - 3 * (f_steps S).toInt) by omega)⟩ hP hD d_Mo_advance_359
                  · refine lv_iload_n hx hb d_Mo_advance_320 rfl (lv_at hl 3 rfl) ?_
                    refine lv_iconst (v := 3) hx hb d_Mo_advance_321 (by decide) ?_
                    refine lv_icmp_ne (tgt := 334) hx hb d_Mo_advance_322 (by decide) (fun c322_7 => ?_) (fun c322_7 => ?_)
                    · have fc322_7 : ¬ x2.toInt = 3 := zt_ne (show x2.toInt = _ from rfl) tI_3 c322_7
                      refine lv_ldc2 (v := (-1)) hx hb hown (hts _ k_7_238) d_Mo_advance_334 ?_
                      exact key10 (-1 : Int64) _ _ _ ⟨(show x2.toInt = 3 → (-1 : Int64).toInt = (a_grows S10 ((f_frames S).toInt - 1).toNat).toInt by have := tJ_m1; omega), hP, hD, hS, lv_sub hl [0, 1, 2, 3, 4, 5] rfl⟩
                    · have fc322_7 : x2.toInt = 3 := zt_eq (show x2.toInt = _ from rfl) tI_3 c322_7
                      refine lv_aload_n hx hb d_Mo_advance_325 rfl (lv_at hl 5 rfl) ?_
                      refine va_get (D := D) (ci := 11) (v := .ref (ar 13)) (C := "PageScribeModel") (T := F_Mo) (N := 45) hx hb hts i_Mo hown hK hP 0 mW_0 cl_11 21 (by decide) (hts _ k_6_181) (fun _ h9 => h9) (mg_grows _ _) d_Mo_advance_326 ?_
                      refine lv_iload_n hx hb d_Mo_advance_329 rfl (lv_at hl 4 rfl) ?_
                      refine va_lald hx hb hK hP 14 1 (ma_grows _ _ _ _) rfl (zt_in fx1 (by omega) (by omega)) d_Mo_advance_330 ?_
                      refine lv_topl (fun x43 ex43 => ?_)
                      have gx43 : x43 = (a_grows S10) ((f_frames S).toInt - 1).toNat := ex43.trans (congrArg _ (zt_ix fx1))
                      have fx43 : x43.toInt = ((a_grows S10) ((f_frames S).toInt - 1).toNat).toInt := by rw [gx43]
                      refine lv_goto (tgt := 337) hx hb d_Mo_advance_331 (by decide) ?_
                      exact key10 (x43) _ _ _ ⟨(show x2.toInt = 3 → x43.toInt = (a_grows S10 ((f_frames S).toInt - 1).toNat).toInt by omega), hP, hD, hS, lv_sub hl [0, 1, 2, 3, 4, 5] rfl⟩
                · have fc277_3 : rv12.toInt = 0 := zt_eq (show rv12.toInt = _ from rfl) tI_0 c277_3
                  refine lv_iload_n hx hb d_Mo_advance_280 rfl (lv_at hl 3 rfl) ?_
                  refine lv_bipush (v := 6) hx hb d_Mo_advance_281 (by decide) ?_
                  refine lv_icmp_ne (tgt := 313) hx hb d_Mo_advance_283 (by decide) (fun c283_3 => ?_) (fun c283_3 => ?_)
                  · have fc283_3 : ¬ x2.toInt = 6 := zt_ne (show x2.toInt = _ from rfl) tI_6 c283_3
                    refine lv_aload_n hx hb d_Mo_advance_313 rfl (lv_at hl 5 rfl) ?_
                    refine va_get (D := D) (ci := 11) (v := .ref (ar 12)) (C := "PageScribeModel") (T := F_Mo) (N := 45) hx hb hts i_Mo hown hK hP 0 mW_0 cl_11 20 (by decide) (hts _ k_6_180) (fun _ h9 => h9) (mg_value _ _) d_Mo_advance_314 ?_
                    refine lv_iload_n hx hb d_Mo_advance_317 rfl (lv_at hl 4 rfl) ?_
                    refine lv_dup2_11 hx hb d_Mo_advance_318 rfl rfl ?_
                    refine va_lald hx hb hK hP 13 1 (ma_value _ _ _ _) rfl (zt_in fx1 (by omega) (by omega)) d_Mo_advance_319 ?_
                    refine lv_topl (fun x44 ex44 => ?_)
                    have gx44 : x44 = (a_value S10) ((f_frames S).toInt - 1).toNat := ex44.trans (congrArg _ (zt_ix fx1))
                    have fx44 : x44.toInt = ((a_value S10) ((f_frames S).toInt - 1).toNat).toInt := by rw [gx44]
                    refine j_joinH (α := Int64) (fun x H locs ls => (x2.toInt = 3 → x.toInt = (a_grows S10 ((f_frames S).toInt - 1).toNat).toInt) ∧ va_P D classes (mW T h0 ar S10) H ∧ va_D A (mW T h0 ar S10) ∧ va_S A s.heap H locs ∧ lv_has ls 6 [(5, .int rv12), (4, .int j2), (3, .int j1), (2, .int x2), (1, .int x1), (0, .ref h0)]) (fun x ls => F0 m 337 ls (.long x :: [.long x44, .int x1, .ref (ar 12)])) (fun x H locs ls hI9 => ?_) (fun key11 => ?_)
                    · obtain ⟨j11, rfl⟩ : ∃ z, z = x := ⟨_, rfl⟩
                      obtain ⟨hj11, hP, hD, hS, hl⟩ := hI9
                      have hj11 : x2.toInt = 3 → j11.toInt = (a_grows S10 ((f_frames S).toInt - 1).toNat).toInt := hj11
                      have hP : va_P D classes (mW T h0 ar S10) H := hP
                      have hD : va_D A (mW T h0 ar S10) := hD
                      have hl : lv_has ls 6 [(5, .int rv12), (4, .int j2), (3, .int j1), (2, .int x2), (1, .int x1), (0, .ref h0)] := hl
                      refine lv_ladd hx hb d_Mo_advance_337 ?_
                      refine lv_topl (fun x45 ex45 => ?_)
                      have hval : (a_what S10 ((f_frames S).toInt - 1).toNat).toInt = 3 → (0 ≤ (a_grows S10 ((f_frames S).toInt - 1).toNat).toInt → -2147483648 ≤ x45.toInt) ∧ ((a_grows S10 ((f_frames S).toInt - 1).toNat).toInt < 0 → x45.toInt ≤ 2147483647) := fun q => by
                        have q1 := fq_o ft (by omega)
                        have q2 := fq_v ft (by omega) (by omega)
                        have q3 := hj11 (by omega)
                        have q4 : x45.toInt = x44.toInt + j11.toInt := by rw [ex45]; exact zu_add rfl rfl (by omega) (by omega)
                        omega
                      refine va_last hx hb hK hP hD hS 13 1 (ma_value _ _ _ _) rfl (zt_in fx1 (by omega) (by omega)) d_Mo_advance_338 (fun H locs hP hD hS => ?_)
                      rw [ms_value] at hP hD
                      rw [zt_ix fx1] at hP hD
                      have hP : va_P D classes (mW T h0 ar ((S10.1, S10.2.1, ((f_under S10), (a_what S10), (a_array S10), (a_far S10), (vp_updL (a_value S10) (((f_frames S).toInt - 1).toNat) x45), (a_grows S10), (a_last S10), (a_text S10)), S10.2.2.2.1, S10.2.2.2.2.1, S10.2.2.2.2.2) : MS)) H := hP
                      have hD : va_D A (mW T h0 ar ((S10.1, S10.2.1, ((f_under S10), (a_what S10), (a_array S10), (a_far S10), (vp_updL (a_value S10) (((f_frames S).toInt - 1).toNat) x45), (a_grows S10), (a_last S10), (a_text S10)), S10.2.2.2.1, S10.2.2.2.2.1, S10.2.2.2.2.2) : MS)) := hD
                      refine lv_iload hx hb d_Mo_advance_339 (lv_at hl 0 rfl) ?_
                      refine lv_if_eq (tgt := 349) hx hb d_Mo_advance_341 (by decide) (fun c341_8 => ?_) (fun c341_8 => ?_)
                      · have fc341_8 : rv12.toInt = 0 := zt_eq (show rv12.toInt = _ from rfl) tI_0 c341_8
                        refine lv_aload_n hx hb d_Mo_advance_349 rfl (lv_at hl 5 rfl) ?_
                        refine lv_aload_n hx hb d_Mo_advance_350 rfl (lv_at hl 5 rfl) ?_
                        refine va_get (D := D) (ci := 11) (v := .ref (ar 10)) (C := "PageScribeModel") (T := F_Mo) (N := 45) hx hb hts i_Mo hown hK hP 0 mW_0 cl_11 18 (by decide) (hts _ k_6_178) (fun _ h9 => h9) (mg_array _ _) d_Mo_advance_351 ?_
                        refine lv_iload_n hx hb d_Mo_advance_354 rfl (lv_at hl 4 rfl) ?_
                        refine va_lald hx hb hK hP 11 1 (ma_array _ _ _ _) rfl (zt_in fx1 (by omega) (by omega)) d_Mo_advance_355 ?_
                        refine lv_topl (fun x46 ex46 => ?_)
                        have gx46 : x46 = (a_array S10) ((f_frames S).toInt - 1).toNat := ex46.trans (congrArg _ (zt_ix fx1))
                        have fx46 : x46.toInt = ((a_array S10) ((f_frames S).toInt - 1).toNat).toInt := by rw [gx46]
                        refine jm_ci (w := (fun u => u)) hK hP hD hS hA (va_runV (As := [.long x46]) (rest := []) F (m_runArray l D T h0 ar ((S10.1, S10.2.1, ((f_under S10), (a_what S10), (a_array S10), (a_far S10), (vp_updL (a_value S10) (((f_frames S).toInt - 1).toNat) x45), (a_grows S10), (a_last S10), (a_text S10)), S10.2.2.2.1, S10.2.2.2.2.1, S10.2.2.2.2.2) : MS) x46 H.size ⟨i_size, i_taken, i_vals, i_room, i_dicts, i_deep, i_open, i_cells, i_points, i_part, i_length, i_knows, i_page, i_text, i_pats, i_fuel, (fr_val i_fr (fun q => by have := hval (by omega); omega)), i_ink⟩ (show cOk x46 by omega)) (j_cV (k := 1) (C := "PageScribeModel") hts k_8_55 k_1_12 k_8_52 k_8_54 k_0_128 (by decide +kernel) ⟨Nat.le_of_ble_eq_true rfl, Nat.le_of_ble_eq_true rfl⟩) (jm_pre hK hP hD) rfl rfl hl.1 rfl (lv_room (Nat.le_of_ble_eq_true rfl)) d_Mo_advance_356 ⟨Nat.le_of_ble_eq_true rfl, Nat.le_of_ble_eq_true rfl⟩) (fun rv14 S12 H locs hw14 hP hD hS => ?_)
                        have hP : va_P D classes (mW T h0 ar S12) H := hP
                        have hD : va_D A (mW T h0 ar S12) := hD
                        obtain ⟨⟨i_size, i_taken, i_vals, i_room, i_dicts, i_deep, i_open, i_cells, i_points, i_part, i_length, i_knows, i_page, i_text, i_pats, i_fuel, i_fr, i_ink⟩, kpA_S12, qqhw14⟩ := hw14
                        have kST_S12 : kT S S12 := kT_t (show kT S ((S10.1, S10.2.1, ((f_under S10), (a_what S10), (a_array S10), (a_far S10), (vp_updL (a_value S10) (((f_frames S).toInt - 1).toNat) x45), (a_grows S10), (a_last S10), (a_text S10)), S10.2.2.2.1, S10.2.2.2.2.1, S10.2.2.2.2.2) : MS) from kST_S10) (kT_A kpA_S12)
                        have nsteps_S12 : (f_steps S12).toInt = (f_steps S10).toInt := congrArg Int32.toInt kpA_S12.2.2.2.2.1
                        have nfuel_S12 : (f_fuel S12).toInt = (f_fuel S10).toInt := congrArg Int32.toInt kpA_S12.2.2.2.1
                        have nlevel_S12 : (f_level S12).toInt = (f_level S10).toInt := congrArg Int32.toInt kpA_S12.2.2.2.2.2.2.1
                        have npending_S12 : (f_pending S12).toInt = (f_pending S10).toInt := congrArg Int32.toInt kpA_S12.2.2.2.2.2.1
                        have nlength_S12 : (f_length S12).toInt = (f_length S10).toInt := congrArg Int32.toInt kpA_S12.1
                        have nat_S12 : (f_at S12).toInt = (f_at S10).toInt := congrArg Int32.toInt kpA_S12.2.1
                        have qhw14 : (rv14.toInt = 0 ∧ (f_frames S12).toInt = (f_frames S10).toInt + 1) ∨ (rv14.toInt = 12 ∧ (f_frames S12).toInt = (f_frames S10).toInt) := qqhw14
                        exact j_iret F hr hlocks hK hS S12 ⟨⟨i_size, i_taken, i_vals, i_room, i_dicts, i_deep, i_open, i_cells, i_points, i_part, i_length, i_knows, i_page, i_text, i_pats, i_fuel, i_fr, i_ink⟩, kST_S12, (show -1 ≤ rv14.toInt ∧ rv14.toInt ≤ 16 ∧ (rv14.toInt = 16 ∨ (f_frames S12).toInt + 3 * (f_fuel S12).toInt - 3 * (f_steps S12).toInt + 1 ≤ (f_frames S).toInt + 3 * (f_fuel S).toInt - 3 * (f_steps S).toInt) by omega)⟩ hP hD d_Mo_advance_359
                      · have fc341_8 : ¬ rv12.toInt = 0 := zt_ne (show rv12.toInt = _ from rfl) tI_0 c341_8
                        refine lv_iload hx hb d_Mo_advance_344 (lv_at hl 0 rfl) ?_
                        refine lv_goto (tgt := 359) hx hb d_Mo_advance_346 (by decide) ?_
                        exact j_iret F hr hlocks hK hS ((S10.1, S10.2.1, ((f_under S10), (a_what S10), (a_array S10), (a_far S10), (vp_updL (a_value S10) (((f_frames S).toInt - 1).toNat) x45), (a_grows S10), (a_last S10), (a_text S10)), S10.2.2.2.1, S10.2.2.2.2.1, S10.2.2.2.2.2) : MS) ⟨⟨i_size, i_taken, i_vals, i_room, i_dicts, i_deep, i_open, i_cells, i_points, i_part, i_length, i_knows, i_page, i_text, i_pats, i_fuel, (fr_val i_fr (fun q => by have := hval (by omega); omega)), i_ink⟩, kST_S10, (show -1 ≤ rv12.toInt ∧ rv12.toInt ≤ 16 ∧ (rv12.toInt = 16 ∨ (f_frames S10).toInt + 3 * (f_fuel S10).toInt - 3 * (f_steps S10).toInt + 1 ≤ (f_frames S).toInt + 3 * (f_fuel S).toInt - 3 * (f_steps S).toInt) by omega)⟩ hP hD d_Mo_advance_359
                    · refine lv_iload_n hx hb d_Mo_advance_320 rfl (lv_at hl 3 rfl) ?_
                      refine lv_iconst (v := 3) hx hb d_Mo_advance_321 (by decide) ?_
                      refine lv_icmp_ne (tgt := 334) hx hb d_Mo_advance_322 (by decide) (fun c322_8 => ?_) (fun c322_8 => ?_)
                      · have fc322_8 : ¬ x2.toInt = 3 := zt_ne (show x2.toInt = _ from rfl) tI_3 c322_8
                        refine lv_ldc2 (v := (-1)) hx hb hown (hts _ k_7_238) d_Mo_advance_334 ?_
                        exact key11 (-1 : Int64) _ _ _ ⟨(show x2.toInt = 3 → (-1 : Int64).toInt = (a_grows S10 ((f_frames S).toInt - 1).toNat).toInt by have := tJ_m1; omega), hP, hD, hS, lv_sub hl [0, 1, 2, 3, 4, 5] rfl⟩
                      · have fc322_8 : x2.toInt = 3 := zt_eq (show x2.toInt = _ from rfl) tI_3 c322_8
                        refine lv_aload_n hx hb d_Mo_advance_325 rfl (lv_at hl 5 rfl) ?_
                        refine va_get (D := D) (ci := 11) (v := .ref (ar 13)) (C := "PageScribeModel") (T := F_Mo) (N := 45) hx hb hts i_Mo hown hK hP 0 mW_0 cl_11 21 (by decide) (hts _ k_6_181) (fun _ h9 => h9) (mg_grows _ _) d_Mo_advance_326 ?_
                        refine lv_iload_n hx hb d_Mo_advance_329 rfl (lv_at hl 4 rfl) ?_
                        refine va_lald hx hb hK hP 14 1 (ma_grows _ _ _ _) rfl (zt_in fx1 (by omega) (by omega)) d_Mo_advance_330 ?_
                        refine lv_topl (fun x47 ex47 => ?_)
                        have gx47 : x47 = (a_grows S10) ((f_frames S).toInt - 1).toNat := ex47.trans (congrArg _ (zt_ix fx1))
                        have fx47 : x47.toInt = ((a_grows S10) ((f_frames S).toInt - 1).toNat).toInt := by rw [gx47]
                        refine lv_goto (tgt := 337) hx hb d_Mo_advance_331 (by decide) ?_
                        exact key11 (x47) _ _ _ ⟨(show x2.toInt = 3 → x47.toInt = (a_grows S10 ((f_frames S).toInt - 1).toNat).toInt by omega), hP, hD, hS, lv_sub hl [0, 1, 2, 3, 4, 5] rfl⟩
                  · have fc283_3 : x2.toInt = 6 := zt_eq (show x2.toInt = _ from rfl) tI_6 c283_3
                    refine lv_aload_n hx hb d_Mo_advance_286 rfl (lv_at hl 5 rfl) ?_
                    refine lv_bipush (v := 50) hx hb d_Mo_advance_287 (by decide) ?_
                    refine lv_aload_n hx hb d_Mo_advance_289 rfl (lv_at hl 5 rfl) ?_
                    refine va_get (D := D) (ci := 11) (v := .ref (ar 14)) (C := "PageScribeModel") (T := F_Mo) (N := 45) hx hb hts i_Mo hown hK hP 0 mW_0 cl_11 22 (by decide) (hts _ k_6_182) (fun _ h9 => h9) (mg_last _ _) d_Mo_advance_290 ?_
                    refine lv_iload_n hx hb d_Mo_advance_293 rfl (lv_at hl 4 rfl) ?_
                    refine va_lald hx hb hK hP 15 1 (ma_last _ _ _ _) rfl (zt_in fx1 (by omega) (by omega)) d_Mo_advance_294 ?_
                    refine lv_topl (fun x48 ex48 => ?_)
                    have gx48 : x48 = (a_last S10) ((f_frames S).toInt - 1).toNat := ex48.trans (congrArg _ (zt_ix fx1))
                    have fx48 : x48.toInt = ((a_last S10) ((f_frames S).toInt - 1).toNat).toInt := by rw [gx48]
                    have flb := fq_l ft (by omega)
                    refine j_ci (wc := []) (wr := (mW T h0 ar S10)) hK hP hD hS hA [] isc rfl isc_all isc_nd (fun _ _ => List.not_mem_nil) (va_runS (As := [.long x48]) (rest := [.int 50, .ref h0]) F (m_first l D T x48 H.size (show 0 ≤ x48.toInt by omega)) (j_cS (k := 1) hts k_8_22 k_1_12 k_8_20 k_8_21 (by decide +kernel) ⟨Nat.le_of_ble_eq_true rfl, Nat.le_of_ble_eq_true rfl⟩) (j_preS hK hP hD [] rfl (by decide) (fun _ _ _ _ h => h) (fun _ _ _ => trivial)) rfl rfl hl.1 rfl (lv_room (Nat.le_of_ble_eq_true rfl)) d_Mo_advance_295 ⟨Nat.le_of_ble_eq_true rfl, Nat.le_of_ble_eq_true rfl⟩) (fun rv15 u3 H locs hw15 hP hD hS => ?_)
                    have hP : va_P D classes (mW T h0 ar S10) H := hP
                    have hD : va_D A (mW T h0 ar S10) := hD
                    have qhw15 : rv15.toInt = x48.toInt % 1024 := hw15
                    refine lv_iadd hx hb d_Mo_advance_298 ?_
                    refine lv_topi (fun x49 ex49 => ?_)
                    have fx49 : x49.toInt = (rv15.toInt + 50) := by rw [ex49]; exact (zt_add tI_50 (show rv15.toInt = _ from rfl) (by omega) (by omega)).trans (by omega)
                    refine lv_aload_n hx hb d_Mo_advance_299 rfl (lv_at hl 5 rfl) ?_
                    refine va_get (D := D) (ci := 11) (v := .ref (ar 11)) (C := "PageScribeModel") (T := F_Mo) (N := 45) hx hb hts i_Mo hown hK hP 0 mW_0 cl_11 19 (by decide) (hts _ k_6_179) (fun _ h9 => h9) (mg_far _ _) d_Mo_advance_300 ?_
                    refine lv_iload_n hx hb d_Mo_advance_303 rfl (lv_at hl 4 rfl) ?_
                    refine va_iald hx hb hK hP 12 0 (ma_far _ _ _ _) rfl (zt_in fx1 (by omega) (by omega)) d_Mo_advance_304 ?_
                    refine lv_topi (fun x50 ex50 => ?_)
                    have gx50 : x50 = (a_far S10) ((f_frames S).toInt - 1).toNat := ex50.trans (congrArg _ (zt_ix fx1))
                    have fx50 : x50.toInt = ((a_far S10) ((f_frames S).toInt - 1).toNat).toInt := by rw [gx50]
                    have hfx : x50.toInt = (a_far S ((f_frames S).toInt - 1).toNat).toInt + 1 := by
                      have h1 := hfar (by omega)
                      have h2 : (upd (a_far S) ((f_frames S).toInt - 1).toNat x4 ((f_frames S).toInt - 1).toNat).toInt = x4.toInt := congrArg Int32.toInt upd_s
                      omega
                    refine lv_iadd hx hb d_Mo_advance_305 ?_
                    refine lv_topi (fun x51 ex51 => ?_)
                    have fx51 : x51.toInt = (rv15.toInt + x50.toInt + 50) := by rw [ex51]; exact (zt_add fx49 (show x50.toInt = _ from rfl) (by omega) (by omega)).trans (by omega)
                    refine lv_iconst (v := 1) hx hb d_Mo_advance_306 (by decide) ?_
                    refine lv_isub hx hb d_Mo_advance_307 ?_
                    refine lv_topi (fun x52 ex52 => ?_)
                    have fx52 : x52.toInt = (rv15.toInt + x50.toInt + 49) := by rw [ex52]; exact (zt_sub fx51 tI_1 (by omega) (by omega)).trans (by omega)
                    refine jm_ci (w := (fun u => u)) hK hP hD hS hA (va_runV (As := [.int x52]) (rest := []) F (m_pushValue l D T h0 ar S10 x52 H.size ⟨i_size, i_taken, i_vals, i_room, i_dicts, i_deep, i_open, i_cells, i_points, i_part, i_length, i_knows, i_page, i_text, i_pats, i_fuel, i_fr, i_ink⟩ (show 0 ≤ x52.toInt ∧ x52.toInt < 1300 by first | omega | (simp only [fx52]; omega))) (j_cV (k := 1) (C := "PageScribeModel") hts k_7_139 k_1_12 k_7_136 k_7_138 k_0_94 (by decide +kernel) ⟨Nat.le_of_ble_eq_true rfl, Nat.le_of_ble_eq_true rfl⟩) (jm_pre hK hP hD) rfl rfl hl.1 rfl (lv_room (Nat.le_of_ble_eq_true rfl)) d_Mo_advance_308 ⟨Nat.le_of_ble_eq_true rfl, Nat.le_of_ble_eq_true rfl⟩) (fun rv16 S13 H locs hw16 hP hD hS => ?_)
                    have hP : va_P D classes (mW T h0 ar S13) H := hP
                    have hD : va_D A (mW T h0 ar S13) := hD
                    obtain ⟨⟨i_size, i_taken, i_vals, i_room, i_dicts, i_deep, i_open, i_cells, i_points, i_part, i_length, i_knows, i_page, i_text, i_pats, i_fuel, i_fr, i_ink⟩, kpA_S13, kpF_S13, qqhw16⟩ := hw16
                    have kST_S13 : kT S S13 := kT_t (show kT S S10 from kST_S10) (kT_A kpA_S13)
                    have nwhat_S13 : (a_what S13 ((f_frames S).toInt - 1).toNat).toInt = ((a_what S10) ((f_frames S).toInt - 1).toNat).toInt := congrArg Int32.toInt (congrFun kpF_S13.2.2.1 ((f_frames S).toInt - 1).toNat)
                    have narray_S13 : (a_array S13 ((f_frames S).toInt - 1).toNat).toInt = ((a_array S10) ((f_frames S).toInt - 1).toNat).toInt := congrArg Int64.toInt (congrFun kpF_S13.2.2.2.1 ((f_frames S).toInt - 1).toNat)
                    have nfar_S13 : (a_far S13 ((f_frames S).toInt - 1).toNat).toInt = ((a_far S10) ((f_frames S).toInt - 1).toNat).toInt := congrArg Int32.toInt (congrFun kpF_S13.2.2.2.2.1 ((f_frames S).toInt - 1).toNat)
                    have nvalue_S13 : (a_value S13 ((f_frames S).toInt - 1).toNat).toInt = ((a_value S10) ((f_frames S).toInt - 1).toNat).toInt := congrArg Int64.toInt (congrFun kpF_S13.2.2.2.2.2.1 ((f_frames S).toInt - 1).toNat)
                    have ngrows_S13 : (a_grows S13 ((f_frames S).toInt - 1).toNat).toInt = ((a_grows S10) ((f_frames S).toInt - 1).toNat).toInt := congrArg Int64.toInt (congrFun kpF_S13.2.2.2.2.2.2.1 ((f_frames S).toInt - 1).toNat)
                    have nlast_S13 : (a_last S13 ((f_frames S).toInt - 1).toNat).toInt = ((a_last S10) ((f_frames S).toInt - 1).toNat).toInt := congrArg Int64.toInt (congrFun kpF_S13.2.2.2.2.2.2.2 ((f_frames S).toInt - 1).toNat)
                    have nframes_S13 : (f_frames S13).toInt = (f_frames S10).toInt := congrArg Int32.toInt kpF_S13.1
                    have nunder_S13 : (f_under S13).toInt = (f_under S10).toInt := congrArg Int32.toInt kpF_S13.2.1
                    have nsteps_S13 : (f_steps S13).toInt = (f_steps S10).toInt := congrArg Int32.toInt kpA_S13.2.2.2.2.1
                    have nfuel_S13 : (f_fuel S13).toInt = (f_fuel S10).toInt := congrArg Int32.toInt kpA_S13.2.2.2.1
                    have nlevel_S13 : (f_level S13).toInt = (f_level S10).toInt := congrArg Int32.toInt kpA_S13.2.2.2.2.2.2.1
                    have npending_S13 : (f_pending S13).toInt = (f_pending S10).toInt := congrArg Int32.toInt kpA_S13.2.2.2.2.2.1
                    have nlength_S13 : (f_length S13).toInt = (f_length S10).toInt := congrArg Int32.toInt kpA_S13.1
                    have nat_S13 : (f_at S13).toInt = (f_at S10).toInt := congrArg Int32.toInt kpA_S13.2.1
                    have qhw16 : rv16.toInt = 0 ∨ rv16.toInt = 2 := by simpa only [fx52] using qqhw16
                    refine lv_istore (lv' := [(5, .int rv16), (4, .int j2), (3, .int j1), (2, .int x2), (1, .int x1), (0, .ref h0)]) hx hb d_Mo_advance_311 hl (by decide) rfl (fun ls hl => ?_)
                    refine lv_aload_n hx hb d_Mo_advance_313 rfl (lv_at hl 5 rfl) ?_
                    refine va_get (D := D) (ci := 11) (v := .ref (ar 12)) (C := "PageScribeModel") (T := F_Mo) (N := 45) hx hb hts i_Mo hown hK hP 0 mW_0 cl_11 20 (by decide) (hts _ k_6_180) (fun _ h9 => h9) (mg_value _ _) d_Mo_advance_314 ?_
                    refine lv_iload_n hx hb d_Mo_advance_317 rfl (lv_at hl 4 rfl) ?_
                    refine lv_dup2_11 hx hb d_Mo_advance_318 rfl rfl ?_
                    refine va_lald hx hb hK hP 13 1 (ma_value _ _ _ _) rfl (zt_in fx1 (by omega) (by omega)) d_Mo_advance_319 ?_
                    refine lv_topl (fun x53 ex53 => ?_)
                    have gx53 : x53 = (a_value S13) ((f_frames S).toInt - 1).toNat := ex53.trans (congrArg _ (zt_ix fx1))
                    have fx53 : x53.toInt = ((a_value S13) ((f_frames S).toInt - 1).toNat).toInt := by rw [gx53]
                    refine j_joinH (α := Int64) (fun x H locs ls => (x2.toInt = 3 → x.toInt = (a_grows S13 ((f_frames S).toInt - 1).toNat).toInt) ∧ va_P D classes (mW T h0 ar S13) H ∧ va_D A (mW T h0 ar S13) ∧ va_S A s.heap H locs ∧ lv_has ls 6 [(5, .int rv16), (4, .int j2), (3, .int j1), (2, .int x2), (1, .int x1), (0, .ref h0)]) (fun x ls => F0 m 337 ls (.long x :: [.long x53, .int x1, .ref (ar 12)])) (fun x H locs ls hI9 => ?_) (fun key12 => ?_)
                    · obtain ⟨j12, rfl⟩ : ∃ z, z = x := ⟨_, rfl⟩
                      obtain ⟨hj12, hP, hD, hS, hl⟩ := hI9
                      have hj12 : x2.toInt = 3 → j12.toInt = (a_grows S13 ((f_frames S).toInt - 1).toNat).toInt := hj12
                      have hP : va_P D classes (mW T h0 ar S13) H := hP
                      have hD : va_D A (mW T h0 ar S13) := hD
                      have hl : lv_has ls 6 [(5, .int rv16), (4, .int j2), (3, .int j1), (2, .int x2), (1, .int x1), (0, .ref h0)] := hl
                      refine lv_ladd hx hb d_Mo_advance_337 ?_
                      refine lv_topl (fun x54 ex54 => ?_)
                      have hval : (a_what S13 ((f_frames S).toInt - 1).toNat).toInt = 3 → (0 ≤ (a_grows S13 ((f_frames S).toInt - 1).toNat).toInt → -2147483648 ≤ x54.toInt) ∧ ((a_grows S13 ((f_frames S).toInt - 1).toNat).toInt < 0 → x54.toInt ≤ 2147483647) := fun q => by
                        have q1 := fq_o ft (by omega)
                        have q2 := fq_v ft (by omega) (by omega)
                        have q3 := hj12 (by omega)
                        have q4 : x54.toInt = x53.toInt + j12.toInt := by rw [ex54]; exact zu_add rfl rfl (by omega) (by omega)
                        omega
                      refine va_last hx hb hK hP hD hS 13 1 (ma_value _ _ _ _) rfl (zt_in fx1 (by omega) (by omega)) d_Mo_advance_338 (fun H locs hP hD hS => ?_)
                      rw [ms_value] at hP hD
                      rw [zt_ix fx1] at hP hD
                      have hP : va_P D classes (mW T h0 ar ((S13.1, S13.2.1, ((f_under S13), (a_what S13), (a_array S13), (a_far S13), (vp_updL (a_value S13) (((f_frames S).toInt - 1).toNat) x54), (a_grows S13), (a_last S13), (a_text S13)), S13.2.2.2.1, S13.2.2.2.2.1, S13.2.2.2.2.2) : MS)) H := hP
                      have hD : va_D A (mW T h0 ar ((S13.1, S13.2.1, ((f_under S13), (a_what S13), (a_array S13), (a_far S13), (vp_updL (a_value S13) (((f_frames S).toInt - 1).toNat) x54), (a_grows S13), (a_last S13), (a_text S13)), S13.2.2.2.1, S13.2.2.2.2.1, S13.2.2.2.2.2) : MS)) := hD
                      refine lv_iload hx hb d_Mo_advance_339 (lv_at hl 0 rfl) ?_
                      refine lv_if_eq (tgt := 349) hx hb d_Mo_advance_341 (by decide) (fun c341_9 => ?_) (fun c341_9 => ?_)
                      · have fc341_9 : rv16.toInt = 0 := zt_eq (show rv16.toInt = _ from rfl) tI_0 c341_9
                        refine lv_aload_n hx hb d_Mo_advance_349 rfl (lv_at hl 5 rfl) ?_
                        refine lv_aload_n hx hb d_Mo_advance_350 rfl (lv_at hl 5 rfl) ?_
                        refine va_get (D := D) (ci := 11) (v := .ref (ar 10)) (C := "PageScribeModel") (T := F_Mo) (N := 45) hx hb hts i_Mo hown hK hP 0 mW_0 cl_11 18 (by decide) (hts _ k_6_178) (fun _ h9 => h9) (mg_array _ _) d_Mo_advance_351 ?_
                        refine lv_iload_n hx hb d_Mo_advance_354 rfl (lv_at hl 4 rfl) ?_
                        refine va_lald hx hb hK hP 11 1 (ma_array _ _ _ _) rfl (zt_in fx1 (by omega) (by omega)) d_Mo_advance_355 ?_
                        refine lv_topl (fun x55 ex55 => ?_)
                        have gx55 : x55 = (a_array S13) ((f_frames S).toInt - 1).toNat := ex55.trans (congrArg _ (zt_ix fx1))
                        have fx55 : x55.toInt = ((a_array S13) ((f_frames S).toInt - 1).toNat).toInt := by rw [gx55]
                        refine jm_ci (w := (fun u => u)) hK hP hD hS hA (va_runV (As := [.long x55]) (rest := []) F (m_runArray l D T h0 ar ((S13.1, S13.2.1, ((f_under S13), (a_what S13), (a_array S13), (a_far S13), (vp_updL (a_value S13) (((f_frames S).toInt - 1).toNat) x54), (a_grows S13), (a_last S13), (a_text S13)), S13.2.2.2.1, S13.2.2.2.2.1, S13.2.2.2.2.2) : MS) x55 H.size ⟨i_size, i_taken, i_vals, i_room, i_dicts, i_deep, i_open, i_cells, i_points, i_part, i_length, i_knows, i_page, i_text, i_pats, i_fuel, (fr_val i_fr (fun q => by have := hval (by omega); omega)), i_ink⟩ (show cOk x55 by omega)) (j_cV (k := 1) (C := "PageScribeModel") hts k_8_55 k_1_12 k_8_52 k_8_54 k_0_128 (by decide +kernel) ⟨Nat.le_of_ble_eq_true rfl, Nat.le_of_ble_eq_true rfl⟩) (jm_pre hK hP hD) rfl rfl hl.1 rfl (lv_room (Nat.le_of_ble_eq_true rfl)) d_Mo_advance_356 ⟨Nat.le_of_ble_eq_true rfl, Nat.le_of_ble_eq_true rfl⟩) (fun rv17 S14 H locs hw17 hP hD hS => ?_)
                        have hP : va_P D classes (mW T h0 ar S14) H := hP
                        have hD : va_D A (mW T h0 ar S14) := hD
                        obtain ⟨⟨i_size, i_taken, i_vals, i_room, i_dicts, i_deep, i_open, i_cells, i_points, i_part, i_length, i_knows, i_page, i_text, i_pats, i_fuel, i_fr, i_ink⟩, kpA_S14, qqhw17⟩ := hw17
                        have kST_S14 : kT S S14 := kT_t (show kT S ((S13.1, S13.2.1, ((f_under S13), (a_what S13), (a_array S13), (a_far S13), (vp_updL (a_value S13) (((f_frames S).toInt - 1).toNat) x54), (a_grows S13), (a_last S13), (a_text S13)), S13.2.2.2.1, S13.2.2.2.2.1, S13.2.2.2.2.2) : MS) from kST_S13) (kT_A kpA_S14)
                        have nsteps_S14 : (f_steps S14).toInt = (f_steps S13).toInt := congrArg Int32.toInt kpA_S14.2.2.2.2.1
                        have nfuel_S14 : (f_fuel S14).toInt = (f_fuel S13).toInt := congrArg Int32.toInt kpA_S14.2.2.2.1
                        have nlevel_S14 : (f_level S14).toInt = (f_level S13).toInt := congrArg Int32.toInt kpA_S14.2.2.2.2.2.2.1
                        have npending_S14 : (f_pending S14).toInt = (f_pending S13).toInt := congrArg Int32.toInt kpA_S14.2.2.2.2.2.1
                        have nlength_S14 : (f_length S14).toInt = (f_length S13).toInt := congrArg Int32.toInt kpA_S14.1
                        have nat_S14 : (f_at S14).toInt = (f_at S13).toInt := congrArg Int32.toInt kpA_S14.2.1
                        have qhw17 : (rv17.toInt = 0 ∧ (f_frames S14).toInt = (f_frames S13).toInt + 1) ∨ (rv17.toInt = 12 ∧ (f_frames S14).toInt = (f_frames S13).toInt) := qqhw17
                        exact j_iret F hr hlocks hK hS S14 ⟨⟨i_size, i_taken, i_vals, i_room, i_dicts, i_deep, i_open, i_cells, i_points, i_part, i_length, i_knows, i_page, i_text, i_pats, i_fuel, i_fr, i_ink⟩, kST_S14, (show -1 ≤ rv17.toInt ∧ rv17.toInt ≤ 16 ∧ (rv17.toInt = 16 ∨ (f_frames S14).toInt + 3 * (f_fuel S14).toInt - 3 * (f_steps S14).toInt + 1 ≤ (f_frames S).toInt + 3 * (f_fuel S).toInt - 3 * (f_steps S).toInt) by omega)⟩ hP hD d_Mo_advance_359
                      · have fc341_9 : ¬ rv16.toInt = 0 := zt_ne (show rv16.toInt = _ from rfl) tI_0 c341_9
                        refine lv_iload hx hb d_Mo_advance_344 (lv_at hl 0 rfl) ?_
                        refine lv_goto (tgt := 359) hx hb d_Mo_advance_346 (by decide) ?_
                        exact j_iret F hr hlocks hK hS ((S13.1, S13.2.1, ((f_under S13), (a_what S13), (a_array S13), (a_far S13), (vp_updL (a_value S13) (((f_frames S).toInt - 1).toNat) x54), (a_grows S13), (a_last S13), (a_text S13)), S13.2.2.2.1, S13.2.2.2.2.1, S13.2.2.2.2.2) : MS) ⟨⟨i_size, i_taken, i_vals, i_room, i_dicts, i_deep, i_open, i_cells, i_points, i_part, i_length, i_knows, i_page, i_text, i_pats, i_fuel, (fr_val i_fr (fun q => by have := hval (by omega); omega)), i_ink⟩, kST_S13, (show -1 ≤ rv16.toInt ∧ rv16.toInt ≤ 16 ∧ (rv16.toInt = 16 ∨ (f_frames S13).toInt + 3 * (f_fuel S13).toInt - 3 * (f_steps S13).toInt + 1 ≤ (f_frames S).toInt + 3 * (f_fuel S).toInt - 3 * (f_steps S).toInt) by omega)⟩ hP hD d_Mo_advance_359
                    · refine lv_iload_n hx hb d_Mo_advance_320 rfl (lv_at hl 3 rfl) ?_
                      refine lv_iconst (v := 3) hx hb d_Mo_advance_321 (by decide) ?_
                      refine lv_icmp_ne (tgt := 334) hx hb d_Mo_advance_322 (by decide) (fun c322_9 => ?_) (fun c322_9 => ?_)
                      · have fc322_9 : ¬ x2.toInt = 3 := zt_ne (show x2.toInt = _ from rfl) tI_3 c322_9
                        refine lv_ldc2 (v := (-1)) hx hb hown (hts _ k_7_238) d_Mo_advance_334 ?_
                        exact key12 (-1 : Int64) _ _ _ ⟨(show x2.toInt = 3 → (-1 : Int64).toInt = (a_grows S13 ((f_frames S).toInt - 1).toNat).toInt by have := tJ_m1; omega), hP, hD, hS, lv_sub hl [0, 1, 2, 3, 4, 5] rfl⟩
                      · have fc322_9 : x2.toInt = 3 := zt_eq (show x2.toInt = _ from rfl) tI_3 c322_9
                        refine lv_aload_n hx hb d_Mo_advance_325 rfl (lv_at hl 5 rfl) ?_
                        refine va_get (D := D) (ci := 11) (v := .ref (ar 13)) (C := "PageScribeModel") (T := F_Mo) (N := 45) hx hb hts i_Mo hown hK hP 0 mW_0 cl_11 21 (by decide) (hts _ k_6_181) (fun _ h9 => h9) (mg_grows _ _) d_Mo_advance_326 ?_
                        refine lv_iload_n hx hb d_Mo_advance_329 rfl (lv_at hl 4 rfl) ?_
                        refine va_lald hx hb hK hP 14 1 (ma_grows _ _ _ _) rfl (zt_in fx1 (by omega) (by omega)) d_Mo_advance_330 ?_
                        refine lv_topl (fun x56 ex56 => ?_)
                        have gx56 : x56 = (a_grows S13) ((f_frames S).toInt - 1).toNat := ex56.trans (congrArg _ (zt_ix fx1))
                        have fx56 : x56.toInt = ((a_grows S13) ((f_frames S).toInt - 1).toNat).toInt := by rw [gx56]
                        refine lv_goto (tgt := 337) hx hb d_Mo_advance_331 (by decide) ?_
                        exact key12 (x56) _ _ _ ⟨(show x2.toInt = 3 → x56.toInt = (a_grows S13 ((f_frames S).toInt - 1).toNat).toInt by omega), hP, hD, hS, lv_sub hl [0, 1, 2, 3, 4, 5] rfl⟩
          · have fc211_1 : x2.toInt = 1 := zt_eq (show x2.toInt = _ from rfl) tI_1 c211_1
            refine lv_aload_n hx hb d_Mo_advance_214 rfl (lv_at hl 4 rfl) ?_
            refine lv_bipush (v := 40) hx hb d_Mo_advance_215 (by decide) ?_
            refine lv_bipush (v := 50) hx hb d_Mo_advance_217 (by decide) ?_
            refine lv_aload_n hx hb d_Mo_advance_219 rfl (lv_at hl 4 rfl) ?_
            refine va_get (D := D) (ci := 11) (v := .ref (ar 10)) (C := "PageScribeModel") (T := F_Mo) (N := 45) hx hb hts i_Mo hown hK hP 0 mW_0 cl_11 18 (by decide) (hts _ k_6_178) (fun _ h9 => h9) (mg_array _ _) d_Mo_advance_220 ?_
            refine lv_iload_n hx hb d_Mo_advance_223 rfl (lv_at hl 3 rfl) ?_
            refine va_lald hx hb hK hP 11 1 (ma_array _ _ _ _) rfl (zt_in fx1 (by omega) (by omega)) d_Mo_advance_224 ?_
            refine lv_topl (fun x57 ex57 => ?_)
            have gx57 : x57 = (a_array S) ((f_frames S).toInt - 1).toNat := ex57.trans (congrArg _ (zt_ix fx1))
            have fx57 : x57.toInt = ((a_array S) ((f_frames S).toInt - 1).toNat).toInt := by rw [gx57]
            refine j_ci (wc := []) (wr := (mW T h0 ar ((S.1, S.2.1, ((f_under S), (a_what S), (a_array S), (upd (a_far S) (((f_frames S).toInt - 1).toNat) x4), (a_value S), (a_grows S), (a_last S), (a_text S)), S.2.2.2.1, S.2.2.2.2.1, S.2.2.2.2.2) : MS))) hK hP hD hS hA [] isc rfl isc_all isc_nd (fun _ _ => List.not_mem_nil) (va_runS (As := [.long x57]) (rest := [.int 50, .int 40, .ref h0]) F (m_first l D T x57 H.size (show 0 ≤ x57.toInt by omega)) (j_cS (k := 1) hts k_8_22 k_1_12 k_8_20 k_8_21 (by decide +kernel) ⟨Nat.le_of_ble_eq_true rfl, Nat.le_of_ble_eq_true rfl⟩) (j_preS hK hP hD [] rfl (by decide) (fun _ _ _ _ h => h) (fun _ _ _ => trivial)) rfl rfl hl.1 rfl (lv_room (Nat.le_of_ble_eq_true rfl)) d_Mo_advance_225 ⟨Nat.le_of_ble_eq_true rfl, Nat.le_of_ble_eq_true rfl⟩) (fun rv18 u4 H locs hw18 hP hD hS => ?_)
            have hP : va_P D classes (mW T h0 ar ((S.1, S.2.1, ((f_under S), (a_what S), (a_array S), (upd (a_far S) (((f_frames S).toInt - 1).toNat) x4), (a_value S), (a_grows S), (a_last S), (a_text S)), S.2.2.2.1, S.2.2.2.2.1, S.2.2.2.2.2) : MS)) H := hP
            have hD : va_D A (mW T h0 ar ((S.1, S.2.1, ((f_under S), (a_what S), (a_array S), (upd (a_far S) (((f_frames S).toInt - 1).toNat) x4), (a_value S), (a_grows S), (a_last S), (a_text S)), S.2.2.2.1, S.2.2.2.2.1, S.2.2.2.2.2) : MS)) := hD
            have qhw18 : rv18.toInt = x57.toInt % 1024 := hw18
            refine lv_iadd hx hb d_Mo_advance_228 ?_
            refine lv_topi (fun x58 ex58 => ?_)
            have fx58 : x58.toInt = (rv18.toInt + 50) := by rw [ex58]; exact (zt_add tI_50 (show rv18.toInt = _ from rfl) (by omega) (by omega)).trans (by omega)
            refine lv_aload_n hx hb d_Mo_advance_229 rfl (lv_at hl 4 rfl) ?_
            refine va_get (D := D) (ci := 11) (v := .ref (ar 11)) (C := "PageScribeModel") (T := F_Mo) (N := 45) hx hb hts i_Mo hown hK hP 0 mW_0 cl_11 19 (by decide) (hts _ k_6_179) (fun _ h9 => h9) (mg_far _ _) d_Mo_advance_230 ?_
            refine lv_iload_n hx hb d_Mo_advance_233 rfl (lv_at hl 3 rfl) ?_
            refine va_iald hx hb hK hP 12 0 (ma_far _ _ _ _) rfl (zt_in fx1 (by omega) (by omega)) d_Mo_advance_234 ?_
            refine lv_topi (fun x59 ex59 => ?_)
            have gx59 : x59 = (upd (a_far S) (((f_frames S).toInt - 1).toNat) x4) ((f_frames S).toInt - 1).toNat := ex59.trans (congrArg _ (zt_ix fx1))
            have fx59 : x59.toInt = ((upd (a_far S) (((f_frames S).toInt - 1).toNat) x4) ((f_frames S).toInt - 1).toNat).toInt := by rw [gx59]
            have ux59 : ((upd (a_far S) (((f_frames S).toInt - 1).toNat) x4) ((f_frames S).toInt - 1).toNat).toInt = _ := congrArg Int32.toInt upd_s
            refine lv_iadd hx hb d_Mo_advance_235 ?_
            refine lv_topi (fun x60 ex60 => ?_)
            have fx60 : x60.toInt = (rv18.toInt + x59.toInt + 50) := by rw [ex60]; exact (zt_add fx58 (show x59.toInt = _ from rfl) (by omega) (by omega)).trans (by omega)
            refine lv_iconst (v := 1) hx hb d_Mo_advance_236 (by decide) ?_
            refine lv_isub hx hb d_Mo_advance_237 ?_
            refine lv_topi (fun x61 ex61 => ?_)
            have fx61 : x61.toInt = (rv18.toInt + x59.toInt + 49) := by rw [ex61]; exact (zt_sub fx60 tI_1 (by omega) (by omega)).trans (by omega)
            refine jm_cv (w := (fun u => u)) hK hP hD hS hA (va_runV (As := [.int 40, .int x61]) (rest := []) F (m_move l D T h0 ar ((S.1, S.2.1, ((f_under S), (a_what S), (a_array S), (upd (a_far S) (((f_frames S).toInt - 1).toNat) x4), (a_value S), (a_grows S), (a_last S), (a_text S)), S.2.2.2.1, S.2.2.2.2.1, S.2.2.2.2.2) : MS) (40 : Int32) x61 H.size (show 0 ≤ (40 : Int32).toInt ∧ (40 : Int32).toInt < 1300 by have := tI_40; first | omega | (simp only [fx61]; omega)) (show 0 ≤ x61.toInt ∧ x61.toInt < 1300 by have := tI_40; first | omega | (simp only [fx61]; omega))) (j_cV (k := 2) (C := "PageScribeModel") hts k_7_76 k_1_12 k_7_73 k_7_75 k_0_82 (by decide +kernel) ⟨Nat.le_of_ble_eq_true rfl, Nat.le_of_ble_eq_true rfl⟩) (jm_pre hK hP hD) rfl rfl hl.1 rfl (lv_room (Nat.le_of_ble_eq_true rfl)) d_Mo_advance_238 ⟨Nat.le_of_ble_eq_true rfl, Nat.le_of_ble_eq_true rfl⟩) (fun S15 H locs hw19 hP hD hS => ?_)
            try simp only [tI_40, fx61] at hw19
            obtain rfl := hw19
            have hP : va_P D classes (mW T h0 ar ((((f_thrown S), (upd (a_kinds S) (40) ((a_kinds S) ((rv18.toInt + x59.toInt + 49).toNat))), (vp_updL (a_codes S) (40) ((a_codes S) ((rv18.toInt + x59.toInt + 49).toNat))), (vf_upd (a_reals S) (40) ((a_reals S) ((rv18.toInt + x59.toInt + 49).toNat))), (f_size S), (f_taken S), (a_words S), (a_many S)), S.2.1, ((f_under S), (a_what S), (a_array S), (upd (a_far S) (((f_frames S).toInt - 1).toNat) x4), (a_value S), (a_grows S), (a_last S), (a_text S)), S.2.2.2.1, S.2.2.2.2.1, S.2.2.2.2.2) : MS)) H := hP
            have hD : va_D A (mW T h0 ar ((((f_thrown S), (upd (a_kinds S) (40) ((a_kinds S) ((rv18.toInt + x59.toInt + 49).toNat))), (vp_updL (a_codes S) (40) ((a_codes S) ((rv18.toInt + x59.toInt + 49).toNat))), (vf_upd (a_reals S) (40) ((a_reals S) ((rv18.toInt + x59.toInt + 49).toNat))), (f_size S), (f_taken S), (a_words S), (a_many S)), S.2.1, ((f_under S), (a_what S), (a_array S), (upd (a_far S) (((f_frames S).toInt - 1).toNat) x4), (a_value S), (a_grows S), (a_last S), (a_text S)), S.2.2.2.1, S.2.2.2.2.1, S.2.2.2.2.2) : MS)) := hD
            have i_vals : ∀ k, k < 1300 → vOk ((upd (a_kinds S) (40) ((a_kinds S) ((rv18.toInt + x59.toInt + 49).toNat))) k) ((vp_updL (a_codes S) (40) ((a_codes S) ((rv18.toInt + x59.toInt + 49).toNat))) k) ((vf_upd (a_reals S) (40) ((a_reals S) ((rv18.toInt + x59.toInt + 49).toNat))) k) := vOk_upd i_vals (i_vals ((rv18.toInt + x59.toInt + 49).toNat) (by omega))
            have fa1 : ((upd (a_kinds S) (40) ((a_kinds S) ((rv18.toInt + x59.toInt + 49).toNat))) 40).toInt = ((a_kinds S) ((rv18.toInt + x59.toInt + 49).toNat)).toInt := congrArg Int32.toInt upd_s
            have fa2 : ((vp_updL (a_codes S) (40) ((a_codes S) ((rv18.toInt + x59.toInt + 49).toNat))) 40).toInt = ((a_codes S) ((rv18.toInt + x59.toInt + 49).toNat)).toInt := congrArg Int64.toInt updL_s
            refine lv_aload_n hx hb d_Mo_advance_241 rfl (lv_at hl 4 rfl) ?_
            refine jm_ci (w := (fun u => u)) hK hP hD hS hA (va_runV (As := []) (rest := []) F (m_doValue l D T h0 ar ((((f_thrown S), (upd (a_kinds S) (40) ((a_kinds S) ((rv18.toInt + x59.toInt + 49).toNat))), (vp_updL (a_codes S) (40) ((a_codes S) ((rv18.toInt + x59.toInt + 49).toNat))), (vf_upd (a_reals S) (40) ((a_reals S) ((rv18.toInt + x59.toInt + 49).toNat))), (f_size S), (f_taken S), (a_words S), (a_many S)), S.2.1, ((f_under S), (a_what S), (a_array S), (upd (a_far S) (((f_frames S).toInt - 1).toNat) x4), (a_value S), (a_grows S), (a_last S), (a_text S)), S.2.2.2.1, S.2.2.2.2.1, S.2.2.2.2.2) : MS)  H.size ⟨i_size, i_taken, i_vals, i_room, i_dicts, i_deep, i_open, i_cells, i_points, i_part, i_length, i_knows, i_page, i_text, i_pats, i_fuel, (fr_far i_fr (fun q => by have := hfar q; omega)), i_ink⟩ (show ((upd (a_kinds S) (40) ((a_kinds S) ((rv18.toInt + x59.toInt + 49).toNat))) 40).toInt = 11 → ((f_frames S).toInt = 0 ∨ ((a_what S) ((f_frames S).toInt - 1).toNat).toInt ≤ 2) by omega)) (j_cV (k := 0) (C := "PageScribeModel") hts k_7_131 k_1_12 k_7_128 k_7_130 k_0_92 (by decide +kernel) ⟨Nat.le_of_ble_eq_true rfl, Nat.le_of_ble_eq_true rfl⟩) (jm_pre hK hP hD) rfl rfl hl.1 rfl (lv_room (Nat.le_of_ble_eq_true rfl)) d_Mo_advance_242 ⟨Nat.le_of_ble_eq_true rfl, Nat.le_of_ble_eq_true rfl⟩) (fun rv20 S16 H locs hw20 hP hD hS => ?_)
            have hP : va_P D classes (mW T h0 ar S16) H := hP
            have hD : va_D A (mW T h0 ar S16) := hD
            obtain ⟨⟨i_size, i_taken, i_vals, i_room, i_dicts, i_deep, i_open, i_cells, i_points, i_part, i_length, i_knows, i_page, i_text, i_pats, i_fuel, i_fr, i_ink⟩, kpT_S16, qqhw20⟩ := hw20
            have kST_S16 : kT S S16 := kT_t (show kT S ((((f_thrown S), (upd (a_kinds S) (40) ((a_kinds S) ((rv18.toInt + x59.toInt + 49).toNat))), (vp_updL (a_codes S) (40) ((a_codes S) ((rv18.toInt + x59.toInt + 49).toNat))), (vf_upd (a_reals S) (40) ((a_reals S) ((rv18.toInt + x59.toInt + 49).toNat))), (f_size S), (f_taken S), (a_words S), (a_many S)), S.2.1, ((f_under S), (a_what S), (a_array S), (upd (a_far S) (((f_frames S).toInt - 1).toNat) x4), (a_value S), (a_grows S), (a_last S), (a_text S)), S.2.2.2.1, S.2.2.2.2.1, S.2.2.2.2.2) : MS) from (kT_r S)) kpT_S16
            have nfuel_S16 : (f_fuel S16).toInt = (f_fuel S).toInt := congrArg Int32.toInt kpT_S16.2.2.2.2.2.2
            have nlevel_S16 : (f_level S16).toInt = (f_level S).toInt := congrArg Int32.toInt kpT_S16.2.2.2.2.1
            have npending_S16 : (f_pending S16).toInt = (f_pending S).toInt := congrArg Int32.toInt kpT_S16.2.2.2.1
            have nlength_S16 : (f_length S16).toInt = (f_length S).toInt := congrArg Int32.toInt kpT_S16.1
            have nat_S16 : (f_at S16).toInt = (f_at S).toInt := congrArg Int32.toInt kpT_S16.2.1
            have qhw20 : -1 ≤ rv20.toInt ∧ rv20.toInt ≤ 16 ∧ (rv20.toInt = 16 ∨ (f_frames S16).toInt + 3 * (f_fuel S16).toInt - 3 * (f_steps S16).toInt + 1 ≤ (f_frames S).toInt + 3 * (f_fuel S).toInt - 3 * (f_steps S).toInt) := qqhw20
            exact j_iret F hr hlocks hK hS S16 ⟨⟨i_size, i_taken, i_vals, i_room, i_dicts, i_deep, i_open, i_cells, i_points, i_part, i_length, i_knows, i_page, i_text, i_pats, i_fuel, i_fr, i_ink⟩, kST_S16, (show -1 ≤ rv20.toInt ∧ rv20.toInt ≤ 16 ∧ (rv20.toInt = 16 ∨ (f_frames S16).toInt + 3 * (f_fuel S16).toInt - 3 * (f_steps S16).toInt + 1 ≤ (f_frames S).toInt + 3 * (f_fuel S).toInt - 3 * (f_steps S).toInt) by omega)⟩ hP hD d_Mo_advance_245
        · refine lv_iload_n hx hb d_Mo_advance_184 rfl (lv_at hl 1 rfl) ?_
          refine lv_if_ne (tgt := 199) hx hb d_Mo_advance_185 (by decide) (fun c185_1 => ?_) (fun c185_1 => ?_)
          · have fc185_1 : ¬ j1.toInt = 0 := zt_ne (show j1.toInt = _ from rfl) tI_0 c185_1
            exact key3 () _ _ _ ⟨(show (x2.toInt = 1 ∧ 0 ≤ (a_far S ((f_frames S).toInt - 1).toNat).toInt ∧ (a_far S ((f_frames S).toInt - 1).toNat).toInt < (a_array S ((f_frames S).toInt - 1).toNat).toInt / 1024) ∨ (x2.toInt = 6 ∧ 0 ≤ (a_far S ((f_frames S).toInt - 1).toNat).toInt ∧ (a_far S ((f_frames S).toInt - 1).toNat).toInt < (a_last S ((f_frames S).toInt - 1).toNat).toInt / 1024) ∨ (x2.toInt = 3 ∧ ((a_grows S ((f_frames S).toInt - 1).toNat).toInt < 0 → (a_last S ((f_frames S).toInt - 1).toNat).toInt ≤ (a_value S ((f_frames S).toInt - 1).toNat).toInt) ∧ (0 ≤ (a_grows S ((f_frames S).toInt - 1).toNat).toInt → (a_value S ((f_frames S).toInt - 1).toNat).toInt ≤ (a_last S ((f_frames S).toInt - 1).toNat).toInt)) ∨ x2.toInt = 4 ∨ x2.toInt = 5 by (have h1 := hj1; have h2 := hj2; clear hj1 hj2; by_cases c3 : (a_what S ((f_frames S).toInt - 1).toNat).toInt = 1; (have := fq_f ft (by omega); omega); by_cases c4 : (a_what S ((f_frames S).toInt - 1).toNat).toInt = 6; (have := fq_f ft (by omega); omega); omega)), hP, hD, hS, lv_sub hl [0, 1, 2, 3, 4] rfl⟩
          · have fc185_1 : j1.toInt = 0 := zt_eq (show j1.toInt = _ from rfl) tI_0 c185_1
            refine lv_iload hx hb d_Mo_advance_188 (lv_at hl 0 rfl) ?_
            refine lv_if_ne (tgt := 199) hx hb d_Mo_advance_190 (by decide) (fun c190_1 => ?_) (fun c190_1 => ?_)
            · have fc190_1 : ¬ j2.toInt = 0 := zt_ne (show j2.toInt = _ from rfl) tI_0 c190_1
              exact key3 () _ _ _ ⟨(show (x2.toInt = 1 ∧ 0 ≤ (a_far S ((f_frames S).toInt - 1).toNat).toInt ∧ (a_far S ((f_frames S).toInt - 1).toNat).toInt < (a_array S ((f_frames S).toInt - 1).toNat).toInt / 1024) ∨ (x2.toInt = 6 ∧ 0 ≤ (a_far S ((f_frames S).toInt - 1).toNat).toInt ∧ (a_far S ((f_frames S).toInt - 1).toNat).toInt < (a_last S ((f_frames S).toInt - 1).toNat).toInt / 1024) ∨ (x2.toInt = 3 ∧ ((a_grows S ((f_frames S).toInt - 1).toNat).toInt < 0 → (a_last S ((f_frames S).toInt - 1).toNat).toInt ≤ (a_value S ((f_frames S).toInt - 1).toNat).toInt) ∧ (0 ≤ (a_grows S ((f_frames S).toInt - 1).toNat).toInt → (a_value S ((f_frames S).toInt - 1).toNat).toInt ≤ (a_last S ((f_frames S).toInt - 1).toNat).toInt)) ∨ x2.toInt = 4 ∨ x2.toInt = 5 by (have h1 := hj1; have h2 := hj2; clear hj1 hj2; by_cases c3 : (a_what S ((f_frames S).toInt - 1).toNat).toInt = 1; (have := fq_f ft (by omega); omega); by_cases c4 : (a_what S ((f_frames S).toInt - 1).toNat).toInt = 6; (have := fq_f ft (by omega); omega); omega)), hP, hD, hS, lv_sub hl [0, 1, 2, 3, 4] rfl⟩
            · have fc190_1 : j2.toInt = 0 := zt_eq (show j2.toInt = _ from rfl) tI_0 c190_1
              refine lv_aload_n hx hb d_Mo_advance_193 rfl (lv_at hl 4 rfl) ?_
              refine jm_cv (w := (fun u => u)) hK hP hD hS hA (va_runV (As := []) (rest := []) F (m_leave l D T h0 ar S  H.size ⟨i_size, i_taken, i_vals, i_room, i_dicts, i_deep, i_open, i_cells, i_points, i_part, i_length, i_knows, i_page, i_text, i_pats, i_fuel, i_fr, i_ink⟩ (show 0 < (f_frames S).toInt by omega)) (j_cV (k := 0) (C := "PageScribeModel") hts k_8_75 k_1_12 k_8_72 k_8_74 k_0_133 (by decide +kernel) ⟨Nat.le_of_ble_eq_true rfl, Nat.le_of_ble_eq_true rfl⟩) (jm_pre hK hP hD) rfl rfl hl.1 rfl (lv_room (Nat.le_of_ble_eq_true rfl)) d_Mo_advance_194 ⟨Nat.le_of_ble_eq_true rfl, Nat.le_of_ble_eq_true rfl⟩) (fun S17 H locs hw21 hP hD hS => ?_)
              have hP : va_P D classes (mW T h0 ar S17) H := hP
              have hD : va_D A (mW T h0 ar S17) := hD
              obtain ⟨⟨i_size, i_taken, i_vals, i_room, i_dicts, i_deep, i_open, i_cells, i_points, i_part, i_length, i_knows, i_page, i_text, i_pats, i_fuel, i_fr, i_ink⟩, kpA_S17, qqhw21⟩ := hw21
              have kSA_S17 : kA S S17 := kA_t (show kA S S from (kA_r S)) kpA_S17
              have kST_S17 : kT S S17 := kT_t (show kT S S from (kT_r S)) (kT_A kpA_S17)
              have kSR_S17 : kR S S17 := kR_t (show kR S S from (kR_r S)) (kR_A kpA_S17)
              have kSC_S17 : kC S S17 := kC_t (show kC S S from (kC_r S)) (kC_A kpA_S17)
              have nsteps_S17 : (f_steps S17).toInt = (f_steps S).toInt := congrArg Int32.toInt kpA_S17.2.2.2.2.1
              have nfuel_S17 : (f_fuel S17).toInt = (f_fuel S).toInt := congrArg Int32.toInt kpA_S17.2.2.2.1
              have nlevel_S17 : (f_level S17).toInt = (f_level S).toInt := congrArg Int32.toInt kpA_S17.2.2.2.2.2.2.1
              have npending_S17 : (f_pending S17).toInt = (f_pending S).toInt := congrArg Int32.toInt kpA_S17.2.2.2.2.2.1
              have nlength_S17 : (f_length S17).toInt = (f_length S).toInt := congrArg Int32.toInt kpA_S17.1
              have nat_S17 : (f_at S17).toInt = (f_at S).toInt := congrArg Int32.toInt kpA_S17.2.1
              have qhw21 : (f_frames S17).toInt = (f_frames S).toInt - 1 ∧ (a_what S17) = (a_what S) ∧ (f_size S17) = (f_size S) ∧ (a_kinds S17) = (a_kinds S) ∧ (a_codes S17) = (a_codes S) := qqhw21
              refine lv_iconst (v := 0) hx hb d_Mo_advance_197 (by decide) ?_
              exact j_iret F hr hlocks hK hS S17 ⟨⟨i_size, i_taken, i_vals, i_room, i_dicts, i_deep, i_open, i_cells, i_points, i_part, i_length, i_knows, i_page, i_text, i_pats, i_fuel, i_fr, i_ink⟩, kST_S17, (show -1 ≤ (0 : Int32).toInt ∧ (0 : Int32).toInt ≤ 16 ∧ ((0 : Int32).toInt = 16 ∨ (f_frames S17).toInt + 3 * (f_fuel S17).toInt - 3 * (f_steps S17).toInt + 1 ≤ (f_frames S).toInt + 3 * (f_fuel S).toInt - 3 * (f_steps S).toInt) by have := tI_0; omega)⟩ hP hD d_Mo_advance_198
      · refine lv_iload_n hx hb d_Mo_advance_92 rfl (lv_at hl 1 rfl) ?_
        refine lv_iconst (v := 3) hx hb d_Mo_advance_93 (by decide) ?_
        refine lv_icmp_ne (tgt := 156) hx hb d_Mo_advance_94 (by decide) (fun c94_1 => ?_) (fun c94_1 => ?_)
        · have fc94_1 : ¬ x2.toInt = 3 := zt_ne (show x2.toInt = _ from rfl) tI_3 c94_1
          refine lv_iload_n hx hb d_Mo_advance_156 rfl (lv_at hl 1 rfl) ?_
          refine lv_iconst (v := 4) hx hb d_Mo_advance_157 (by decide) ?_
          refine lv_icmp_ne (tgt := 172) hx hb d_Mo_advance_158 (by decide) (fun c158_1 => ?_) (fun c158_1 => ?_)
          · have fc158_1 : ¬ x2.toInt = 4 := zt_ne (show x2.toInt = _ from rfl) tI_4 c158_1
            refine lv_iload_n hx hb d_Mo_advance_172 rfl (lv_at hl 1 rfl) ?_
            refine lv_iconst (v := 5) hx hb d_Mo_advance_173 (by decide) ?_
            refine lv_icmp_ne (tgt := 181) hx hb d_Mo_advance_174 (by decide) (fun c174_1 => ?_) (fun c174_1 => ?_)
            · have fc174_1 : ¬ x2.toInt = 5 := zt_ne (show x2.toInt = _ from rfl) tI_5 c174_1
              refine lv_iconst (v := 0) hx hb d_Mo_advance_181 (by decide) ?_
              exact key2 (0 : Int32) _ _ _ ⟨(show ((0 : Int32).toInt = 0 ∨ (0 : Int32).toInt = 1) ∧ ((0 : Int32).toInt = 1 → (x2.toInt = 3 ∧ ((a_grows S ((f_frames S).toInt - 1).toNat).toInt < 0 → (a_last S ((f_frames S).toInt - 1).toNat).toInt ≤ (a_value S ((f_frames S).toInt - 1).toNat).toInt) ∧ (0 ≤ (a_grows S ((f_frames S).toInt - 1).toNat).toInt → (a_value S ((f_frames S).toInt - 1).toNat).toInt ≤ (a_last S ((f_frames S).toInt - 1).toNat).toInt)) ∨ x2.toInt = 4 ∨ x2.toInt = 5) by have := tI_0; omega), hP, hD, hS, lv_sub hl [0, 1, 2, 3] rfl⟩
            · have fc174_1 : x2.toInt = 5 := zt_eq (show x2.toInt = _ from rfl) tI_5 c174_1
              refine lv_iconst (v := 1) hx hb d_Mo_advance_177 (by decide) ?_
              refine lv_goto (tgt := 182) hx hb d_Mo_advance_178 (by decide) ?_
              exact key2 (1 : Int32) _ _ _ ⟨(show ((1 : Int32).toInt = 0 ∨ (1 : Int32).toInt = 1) ∧ ((1 : Int32).toInt = 1 → (x2.toInt = 3 ∧ ((a_grows S ((f_frames S).toInt - 1).toNat).toInt < 0 → (a_last S ((f_frames S).toInt - 1).toNat).toInt ≤ (a_value S ((f_frames S).toInt - 1).toNat).toInt) ∧ (0 ≤ (a_grows S ((f_frames S).toInt - 1).toNat).toInt → (a_value S ((f_frames S).toInt - 1).toNat).toInt ≤ (a_last S ((f_frames S).toInt - 1).toNat).toInt)) ∨ x2.toInt = 4 ∨ x2.toInt = 5) by have := tI_1; omega), hP, hD, hS, lv_sub hl [0, 1, 2, 3] rfl⟩
          · have fc158_1 : x2.toInt = 4 := zt_eq (show x2.toInt = _ from rfl) tI_4 c158_1
            refine lv_aload_n hx hb d_Mo_advance_161 rfl (lv_at hl 3 rfl) ?_
            refine va_get (D := D) (ci := 11) (v := .ref (ar 12)) (C := "PageScribeModel") (T := F_Mo) (N := 45) hx hb hts i_Mo hown hK hP 0 mW_0 cl_11 20 (by decide) (hts _ k_6_180) (fun _ h9 => h9) (mg_value _ _) d_Mo_advance_162 ?_
            refine lv_iload_n hx hb d_Mo_advance_165 rfl (lv_at hl 2 rfl) ?_
            refine va_lald hx hb hK hP 13 1 (ma_value _ _ _ _) rfl (zt_in fx1 (by omega) (by omega)) d_Mo_advance_166 ?_
            refine lv_topl (fun x62 ex62 => ?_)
            have gx62 : x62 = (a_value S) ((f_frames S).toInt - 1).toNat := ex62.trans (congrArg _ (zt_ix fx1))
            have fx62 : x62.toInt = ((a_value S) ((f_frames S).toInt - 1).toNat).toInt := by rw [gx62]
            refine lv_lconst (v := 0) hx hb d_Mo_advance_167 (by decide) ?_
            refine W.lcmp hx hb d_Mo_advance_168 ?_
            refine lv_topi (fun x63 ex63 => ?_)
            refine lv_if_gt (tgt := 177) hx hb d_Mo_advance_169 (by decide) (fun c169_1 => ?_) (fun c169_1 => ?_)
            · have fc169_1 : 0 < x63.toInt := zt_lt tI_0 (show x63.toInt = _ from rfl) c169_1
              have vc169_1 : x62.toInt > 0 := by have := zr_cmp ex63 (show x62.toInt = _ from rfl) tJ_0; have := zt_lt tI_0 (show x63.toInt = _ from rfl) c169_1; omega
              refine lv_iconst (v := 1) hx hb d_Mo_advance_177 (by decide) ?_
              refine lv_goto (tgt := 182) hx hb d_Mo_advance_178 (by decide) ?_
              exact key2 (1 : Int32) _ _ _ ⟨(show ((1 : Int32).toInt = 0 ∨ (1 : Int32).toInt = 1) ∧ ((1 : Int32).toInt = 1 → (x2.toInt = 3 ∧ ((a_grows S ((f_frames S).toInt - 1).toNat).toInt < 0 → (a_last S ((f_frames S).toInt - 1).toNat).toInt ≤ (a_value S ((f_frames S).toInt - 1).toNat).toInt) ∧ (0 ≤ (a_grows S ((f_frames S).toInt - 1).toNat).toInt → (a_value S ((f_frames S).toInt - 1).toNat).toInt ≤ (a_last S ((f_frames S).toInt - 1).toNat).toInt)) ∨ x2.toInt = 4 ∨ x2.toInt = 5) by have := tI_1; omega), hP, hD, hS, lv_sub hl [0, 1, 2, 3] rfl⟩
            · have fc169_1 : x63.toInt ≤ 0 := Int.not_lt.mp (zt_nlt tI_0 (show x63.toInt = _ from rfl) c169_1)
              have vc169_1 : x62.toInt ≤ 0 := by have := zr_cmp ex63 (show x62.toInt = _ from rfl) tJ_0; have := Int.not_lt.mp (zt_nlt tI_0 (show x63.toInt = _ from rfl) c169_1); omega
              refine lv_iload_n hx hb d_Mo_advance_172 rfl (lv_at hl 1 rfl) ?_
              refine lv_iconst (v := 5) hx hb d_Mo_advance_173 (by decide) ?_
              refine lv_icmp_ne (tgt := 181) hx hb d_Mo_advance_174 (by decide) (fun c174_2 => ?_) (fun c174_2 => ?_)
              · have fc174_2 : ¬ x2.toInt = 5 := zt_ne (show x2.toInt = _ from rfl) tI_5 c174_2
                refine lv_iconst (v := 0) hx hb d_Mo_advance_181 (by decide) ?_
                exact key2 (0 : Int32) _ _ _ ⟨(show ((0 : Int32).toInt = 0 ∨ (0 : Int32).toInt = 1) ∧ ((0 : Int32).toInt = 1 → (x2.toInt = 3 ∧ ((a_grows S ((f_frames S).toInt - 1).toNat).toInt < 0 → (a_last S ((f_frames S).toInt - 1).toNat).toInt ≤ (a_value S ((f_frames S).toInt - 1).toNat).toInt) ∧ (0 ≤ (a_grows S ((f_frames S).toInt - 1).toNat).toInt → (a_value S ((f_frames S).toInt - 1).toNat).toInt ≤ (a_last S ((f_frames S).toInt - 1).toNat).toInt)) ∨ x2.toInt = 4 ∨ x2.toInt = 5) by have := tI_0; omega), hP, hD, hS, lv_sub hl [0, 1, 2, 3] rfl⟩
              · have fc174_2 : x2.toInt = 5 := zt_eq (show x2.toInt = _ from rfl) tI_5 c174_2
                refine lv_iconst (v := 1) hx hb d_Mo_advance_177 (by decide) ?_
                refine lv_goto (tgt := 182) hx hb d_Mo_advance_178 (by decide) ?_
                exact key2 (1 : Int32) _ _ _ ⟨(show ((1 : Int32).toInt = 0 ∨ (1 : Int32).toInt = 1) ∧ ((1 : Int32).toInt = 1 → (x2.toInt = 3 ∧ ((a_grows S ((f_frames S).toInt - 1).toNat).toInt < 0 → (a_last S ((f_frames S).toInt - 1).toNat).toInt ≤ (a_value S ((f_frames S).toInt - 1).toNat).toInt) ∧ (0 ≤ (a_grows S ((f_frames S).toInt - 1).toNat).toInt → (a_value S ((f_frames S).toInt - 1).toNat).toInt ≤ (a_last S ((f_frames S).toInt - 1).toNat).toInt)) ∨ x2.toInt = 4 ∨ x2.toInt = 5) by have := tI_1; omega), hP, hD, hS, lv_sub hl [0, 1, 2, 3] rfl⟩
        · have fc94_1 : x2.toInt = 3 := zt_eq (show x2.toInt = _ from rfl) tI_3 c94_1
          refine lv_aload_n hx hb d_Mo_advance_97 rfl (lv_at hl 3 rfl) ?_
          refine va_get (D := D) (ci := 11) (v := .ref (ar 13)) (C := "PageScribeModel") (T := F_Mo) (N := 45) hx hb hts i_Mo hown hK hP 0 mW_0 cl_11 21 (by decide) (hts _ k_6_181) (fun _ h9 => h9) (mg_grows _ _) d_Mo_advance_98 ?_
          refine lv_iload_n hx hb d_Mo_advance_101 rfl (lv_at hl 2 rfl) ?_
          refine va_lald hx hb hK hP 14 1 (ma_grows _ _ _ _) rfl (zt_in fx1 (by omega) (by omega)) d_Mo_advance_102 ?_
          refine lv_topl (fun x64 ex64 => ?_)
          have gx64 : x64 = (a_grows S) ((f_frames S).toInt - 1).toNat := ex64.trans (congrArg _ (zt_ix fx1))
          have fx64 : x64.toInt = ((a_grows S) ((f_frames S).toInt - 1).toNat).toInt := by rw [gx64]
          refine lv_lconst (v := 0) hx hb d_Mo_advance_103 (by decide) ?_
          refine W.lcmp hx hb d_Mo_advance_104 ?_
          refine lv_topi (fun x65 ex65 => ?_)
          refine lv_if_ge (tgt := 132) hx hb d_Mo_advance_105 (by decide) (fun c105_1 => ?_) (fun c105_1 => ?_)
          · have fc105_1 : 0 ≤ x65.toInt := zt_le tI_0 (show x65.toInt = _ from rfl) c105_1
            have vc105_1 : x64.toInt ≥ 0 := by have := zr_cmp ex65 (show x64.toInt = _ from rfl) tJ_0; have := zt_le tI_0 (show x65.toInt = _ from rfl) c105_1; omega
            refine lv_aload_n hx hb d_Mo_advance_132 rfl (lv_at hl 3 rfl) ?_
            refine va_get (D := D) (ci := 11) (v := .ref (ar 12)) (C := "PageScribeModel") (T := F_Mo) (N := 45) hx hb hts i_Mo hown hK hP 0 mW_0 cl_11 20 (by decide) (hts _ k_6_180) (fun _ h9 => h9) (mg_value _ _) d_Mo_advance_133 ?_
            refine lv_iload_n hx hb d_Mo_advance_136 rfl (lv_at hl 2 rfl) ?_
            refine va_lald hx hb hK hP 13 1 (ma_value _ _ _ _) rfl (zt_in fx1 (by omega) (by omega)) d_Mo_advance_137 ?_
            refine lv_topl (fun x66 ex66 => ?_)
            have gx66 : x66 = (a_value S) ((f_frames S).toInt - 1).toNat := ex66.trans (congrArg _ (zt_ix fx1))
            have fx66 : x66.toInt = ((a_value S) ((f_frames S).toInt - 1).toNat).toInt := by rw [gx66]
            refine lv_aload_n hx hb d_Mo_advance_138 rfl (lv_at hl 3 rfl) ?_
            refine va_get (D := D) (ci := 11) (v := .ref (ar 14)) (C := "PageScribeModel") (T := F_Mo) (N := 45) hx hb hts i_Mo hown hK hP 0 mW_0 cl_11 22 (by decide) (hts _ k_6_182) (fun _ h9 => h9) (mg_last _ _) d_Mo_advance_139 ?_
            refine lv_iload_n hx hb d_Mo_advance_142 rfl (lv_at hl 2 rfl) ?_
            refine va_lald hx hb hK hP 15 1 (ma_last _ _ _ _) rfl (zt_in fx1 (by omega) (by omega)) d_Mo_advance_143 ?_
            refine lv_topl (fun x67 ex67 => ?_)
            have gx67 : x67 = (a_last S) ((f_frames S).toInt - 1).toNat := ex67.trans (congrArg _ (zt_ix fx1))
            have fx67 : x67.toInt = ((a_last S) ((f_frames S).toInt - 1).toNat).toInt := by rw [gx67]
            refine W.lcmp hx hb d_Mo_advance_144 ?_
            refine lv_topi (fun x68 ex68 => ?_)
            refine lv_if_gt (tgt := 152) hx hb d_Mo_advance_145 (by decide) (fun c145_1 => ?_) (fun c145_1 => ?_)
            · have fc145_1 : 0 < x68.toInt := zt_lt tI_0 (show x68.toInt = _ from rfl) c145_1
              have vc145_1 : x66.toInt > x67.toInt := by have := zr_cmp ex68 (show x66.toInt = _ from rfl) (show x67.toInt = _ from rfl); have := zt_lt tI_0 (show x68.toInt = _ from rfl) c145_1; omega
              refine lv_iconst (v := 0) hx hb d_Mo_advance_152 (by decide) ?_
              refine lv_goto (tgt := 182) hx hb d_Mo_advance_153 (by decide) ?_
              exact key2 (0 : Int32) _ _ _ ⟨(show ((0 : Int32).toInt = 0 ∨ (0 : Int32).toInt = 1) ∧ ((0 : Int32).toInt = 1 → (x2.toInt = 3 ∧ ((a_grows S ((f_frames S).toInt - 1).toNat).toInt < 0 → (a_last S ((f_frames S).toInt - 1).toNat).toInt ≤ (a_value S ((f_frames S).toInt - 1).toNat).toInt) ∧ (0 ≤ (a_grows S ((f_frames S).toInt - 1).toNat).toInt → (a_value S ((f_frames S).toInt - 1).toNat).toInt ≤ (a_last S ((f_frames S).toInt - 1).toNat).toInt)) ∨ x2.toInt = 4 ∨ x2.toInt = 5) by have := tI_0; omega), hP, hD, hS, lv_sub hl [0, 1, 2, 3] rfl⟩
            · have fc145_1 : x68.toInt ≤ 0 := Int.not_lt.mp (zt_nlt tI_0 (show x68.toInt = _ from rfl) c145_1)
              have vc145_1 : x66.toInt ≤ x67.toInt := by have := zr_cmp ex68 (show x66.toInt = _ from rfl) (show x67.toInt = _ from rfl); have := Int.not_lt.mp (zt_nlt tI_0 (show x68.toInt = _ from rfl) c145_1); omega
              refine lv_iconst (v := 1) hx hb d_Mo_advance_148 (by decide) ?_
              refine lv_goto (tgt := 182) hx hb d_Mo_advance_149 (by decide) ?_
              exact key2 (1 : Int32) _ _ _ ⟨(show ((1 : Int32).toInt = 0 ∨ (1 : Int32).toInt = 1) ∧ ((1 : Int32).toInt = 1 → (x2.toInt = 3 ∧ ((a_grows S ((f_frames S).toInt - 1).toNat).toInt < 0 → (a_last S ((f_frames S).toInt - 1).toNat).toInt ≤ (a_value S ((f_frames S).toInt - 1).toNat).toInt) ∧ (0 ≤ (a_grows S ((f_frames S).toInt - 1).toNat).toInt → (a_value S ((f_frames S).toInt - 1).toNat).toInt ≤ (a_last S ((f_frames S).toInt - 1).toNat).toInt)) ∨ x2.toInt = 4 ∨ x2.toInt = 5) by have := tI_1; omega), hP, hD, hS, lv_sub hl [0, 1, 2, 3] rfl⟩
          · have fc105_1 : x65.toInt < 0 := Int.not_le.mp (zt_nle tI_0 (show x65.toInt = _ from rfl) c105_1)
            have vc105_1 : x64.toInt < 0 := by have := zr_cmp ex65 (show x64.toInt = _ from rfl) tJ_0; have := Int.not_le.mp (zt_nle tI_0 (show x65.toInt = _ from rfl) c105_1); omega
            refine lv_aload_n hx hb d_Mo_advance_108 rfl (lv_at hl 3 rfl) ?_
            refine va_get (D := D) (ci := 11) (v := .ref (ar 12)) (C := "PageScribeModel") (T := F_Mo) (N := 45) hx hb hts i_Mo hown hK hP 0 mW_0 cl_11 20 (by decide) (hts _ k_6_180) (fun _ h9 => h9) (mg_value _ _) d_Mo_advance_109 ?_
            refine lv_iload_n hx hb d_Mo_advance_112 rfl (lv_at hl 2 rfl) ?_
            refine va_lald hx hb hK hP 13 1 (ma_value _ _ _ _) rfl (zt_in fx1 (by omega) (by omega)) d_Mo_advance_113 ?_
            refine lv_topl (fun x69 ex69 => ?_)
            have gx69 : x69 = (a_value S) ((f_frames S).toInt - 1).toNat := ex69.trans (congrArg _ (zt_ix fx1))
            have fx69 : x69.toInt = ((a_value S) ((f_frames S).toInt - 1).toNat).toInt := by rw [gx69]
            refine lv_aload_n hx hb d_Mo_advance_114 rfl (lv_at hl 3 rfl) ?_
            refine va_get (D := D) (ci := 11) (v := .ref (ar 14)) (C := "PageScribeModel") (T := F_Mo) (N := 45) hx hb hts i_Mo hown hK hP 0 mW_0 cl_11 22 (by decide) (hts _ k_6_182) (fun _ h9 => h9) (mg_last _ _) d_Mo_advance_115 ?_
            refine lv_iload_n hx hb d_Mo_advance_118 rfl (lv_at hl 2 rfl) ?_
            refine va_lald hx hb hK hP 15 1 (ma_last _ _ _ _) rfl (zt_in fx1 (by omega) (by omega)) d_Mo_advance_119 ?_
            refine lv_topl (fun x70 ex70 => ?_)
            have gx70 : x70 = (a_last S) ((f_frames S).toInt - 1).toNat := ex70.trans (congrArg _ (zt_ix fx1))
            have fx70 : x70.toInt = ((a_last S) ((f_frames S).toInt - 1).toNat).toInt := by rw [gx70]
            refine W.lcmp hx hb d_Mo_advance_120 ?_
            refine lv_topi (fun x71 ex71 => ?_)
            refine lv_if_lt (tgt := 128) hx hb d_Mo_advance_121 (by decide) (fun c121_1 => ?_) (fun c121_1 => ?_)
            · have fc121_1 : x71.toInt < 0 := zt_lt (show x71.toInt = _ from rfl) tI_0 c121_1
              have vc121_1 : x69.toInt < x70.toInt := by have := zr_cmp ex71 (show x69.toInt = _ from rfl) (show x70.toInt = _ from rfl); have := zt_lt (show x71.toInt = _ from rfl) tI_0 c121_1; omega
              refine lv_iconst (v := 0) hx hb d_Mo_advance_128 (by decide) ?_
              refine lv_goto (tgt := 182) hx hb d_Mo_advance_129 (by decide) ?_
              exact key2 (0 : Int32) _ _ _ ⟨(show ((0 : Int32).toInt = 0 ∨ (0 : Int32).toInt = 1) ∧ ((0 : Int32).toInt = 1 → (x2.toInt = 3 ∧ ((a_grows S ((f_frames S).toInt - 1).toNat).toInt < 0 → (a_last S ((f_frames S).toInt - 1).toNat).toInt ≤ (a_value S ((f_frames S).toInt - 1).toNat).toInt) ∧ (0 ≤ (a_grows S ((f_frames S).toInt - 1).toNat).toInt → (a_value S ((f_frames S).toInt - 1).toNat).toInt ≤ (a_last S ((f_frames S).toInt - 1).toNat).toInt)) ∨ x2.toInt = 4 ∨ x2.toInt = 5) by have := tI_0; omega), hP, hD, hS, lv_sub hl [0, 1, 2, 3] rfl⟩
            · have fc121_1 : 0 ≤ x71.toInt := Int.not_lt.mp (zt_nlt (show x71.toInt = _ from rfl) tI_0 c121_1)
              have vc121_1 : x69.toInt ≥ x70.toInt := by have := zr_cmp ex71 (show x69.toInt = _ from rfl) (show x70.toInt = _ from rfl); have := Int.not_lt.mp (zt_nlt (show x71.toInt = _ from rfl) tI_0 c121_1); omega
              refine lv_iconst (v := 1) hx hb d_Mo_advance_124 (by decide) ?_
              refine lv_goto (tgt := 182) hx hb d_Mo_advance_125 (by decide) ?_
              exact key2 (1 : Int32) _ _ _ ⟨(show ((1 : Int32).toInt = 0 ∨ (1 : Int32).toInt = 1) ∧ ((1 : Int32).toInt = 1 → (x2.toInt = 3 ∧ ((a_grows S ((f_frames S).toInt - 1).toNat).toInt < 0 → (a_last S ((f_frames S).toInt - 1).toNat).toInt ≤ (a_value S ((f_frames S).toInt - 1).toNat).toInt) ∧ (0 ≤ (a_grows S ((f_frames S).toInt - 1).toNat).toInt → (a_value S ((f_frames S).toInt - 1).toNat).toInt ≤ (a_last S ((f_frames S).toInt - 1).toNat).toInt)) ∨ x2.toInt = 4 ∨ x2.toInt = 5) by have := tI_1; omega), hP, hD, hS, lv_sub hl [0, 1, 2, 3] rfl⟩
    · refine lv_iload_n hx hb d_Mo_advance_31 rfl (lv_at hl 0 rfl) ?_
      refine lv_iconst (v := 1) hx hb d_Mo_advance_32 (by decide) ?_
      refine lv_icmp_ne (tgt := 62) hx hb d_Mo_advance_33 (by decide) (fun c33_1 => ?_) (fun c33_1 => ?_)
      · have fc33_1 : ¬ x2.toInt = 1 := zt_ne (show x2.toInt = _ from rfl) tI_1 c33_1
        refine lv_iload_n hx hb d_Mo_advance_62 rfl (lv_at hl 0 rfl) ?_
        refine lv_bipush (v := 6) hx hb d_Mo_advance_63 (by decide) ?_
        refine lv_icmp_ne (tgt := 90) hx hb d_Mo_advance_65 (by decide) (fun c65_1 => ?_) (fun c65_1 => ?_)
        · first | have fc65_1 : x2.toInt < 6 := (by have := zt_ne (show x2.toInt = _ from rfl) tI_6 c65_1; omega) | have fc65_1 : 6 < x2.toInt := (by have := zt_ne (show x2.toInt = _ from rfl) tI_6 c65_1; omega) | skip
          refine lv_iconst (v := 0) hx hb d_Mo_advance_90 (by decide) ?_
          exact key1 (0 : Int32) _ _ _ ⟨(show ((0 : Int32).toInt = 0 ∨ (0 : Int32).toInt = 1) ∧ ((0 : Int32).toInt = 1 → (x2.toInt = 1 ∧ (a_far S ((f_frames S).toInt - 1).toNat).toInt < (a_array S ((f_frames S).toInt - 1).toNat).toInt / 1024) ∨ (x2.toInt = 6 ∧ (a_far S ((f_frames S).toInt - 1).toNat).toInt < (a_last S ((f_frames S).toInt - 1).toNat).toInt / 1024)) by have := tI_0; omega), hP, hD, hS, lv_sub hl [0, 1, 2] rfl⟩
        · have fc65_1 : x2.toInt = 6 := zt_eq (show x2.toInt = _ from rfl) tI_6 c65_1
          refine lv_aload_n hx hb d_Mo_advance_68 rfl (lv_at hl 2 rfl) ?_
          refine va_get (D := D) (ci := 11) (v := .ref (ar 11)) (C := "PageScribeModel") (T := F_Mo) (N := 45) hx hb hts i_Mo hown hK hP 0 mW_0 cl_11 19 (by decide) (hts _ k_6_179) (fun _ h9 => h9) (mg_far _ _) d_Mo_advance_69 ?_
          refine lv_iload_n hx hb d_Mo_advance_72 rfl (lv_at hl 1 rfl) ?_
          refine va_iald hx hb hK hP 12 0 (ma_far _ _ _ _) rfl (zt_in fx1 (by omega) (by omega)) d_Mo_advance_73 ?_
          refine lv_topi (fun x72 ex72 => ?_)
          have gx72 : x72 = (a_far S) ((f_frames S).toInt - 1).toNat := ex72.trans (congrArg _ (zt_ix fx1))
          have fx72 : x72.toInt = ((a_far S) ((f_frames S).toInt - 1).toNat).toInt := by rw [gx72]
          refine lv_aload_n hx hb d_Mo_advance_74 rfl (lv_at hl 2 rfl) ?_
          refine va_get (D := D) (ci := 11) (v := .ref (ar 14)) (C := "PageScribeModel") (T := F_Mo) (N := 45) hx hb hts i_Mo hown hK hP 0 mW_0 cl_11 22 (by decide) (hts _ k_6_182) (fun _ h9 => h9) (mg_last _ _) d_Mo_advance_75 ?_
          refine lv_iload_n hx hb d_Mo_advance_78 rfl (lv_at hl 1 rfl) ?_
          refine va_lald hx hb hK hP 15 1 (ma_last _ _ _ _) rfl (zt_in fx1 (by omega) (by omega)) d_Mo_advance_79 ?_
          refine lv_topl (fun x73 ex73 => ?_)
          have gx73 : x73 = (a_last S) ((f_frames S).toInt - 1).toNat := ex73.trans (congrArg _ (zt_ix fx1))
          have fx73 : x73.toInt = ((a_last S) ((f_frames S).toInt - 1).toNat).toInt := by rw [gx73]
          have fla := fq_l ft (by omega)
          refine j_ci (wc := []) (wr := (mW T h0 ar S)) hK hP hD hS hA [] isc rfl isc_all isc_nd (fun _ _ => List.not_mem_nil) (va_runS (As := [.long x73]) (rest := [.int x72]) F (m_count l D T x73 s.heap.size (show 0 ≤ x73.toInt ∧ x73.toInt < 1048576 by omega)) (j_cS (k := 1) hts k_8_7 k_1_12 k_8_5 k_8_6 (by decide +kernel) ⟨Nat.le_of_ble_eq_true rfl, Nat.le_of_ble_eq_true rfl⟩) (j_preS hK hP hD [] rfl (by decide) (fun _ _ _ _ h => h) (fun _ _ _ => trivial)) rfl rfl hl.1 rfl (lv_room (Nat.le_of_ble_eq_true rfl)) d_Mo_advance_80 ⟨Nat.le_of_ble_eq_true rfl, Nat.le_of_ble_eq_true rfl⟩) (fun rv22 u5 H locs hw22 hP hD hS => ?_)
          have hP : va_P D classes (mW T h0 ar S) H := hP
          have hD : va_D A (mW T h0 ar S) := hD
          have qhw22 : rv22.toInt = x73.toInt / 1024 := hw22
          refine lv_icmp_ge (tgt := 90) hx hb d_Mo_advance_83 (by decide) (fun c83_1 => ?_) (fun c83_1 => ?_)
          · have fc83_1 : rv22.toInt ≤ x72.toInt := zt_le (show rv22.toInt = _ from rfl) (show x72.toInt = _ from rfl) c83_1
            refine lv_iconst (v := 0) hx hb d_Mo_advance_90 (by decide) ?_
            exact key1 (0 : Int32) _ _ _ ⟨(show ((0 : Int32).toInt = 0 ∨ (0 : Int32).toInt = 1) ∧ ((0 : Int32).toInt = 1 → (x2.toInt = 1 ∧ (a_far S ((f_frames S).toInt - 1).toNat).toInt < (a_array S ((f_frames S).toInt - 1).toNat).toInt / 1024) ∨ (x2.toInt = 6 ∧ (a_far S ((f_frames S).toInt - 1).toNat).toInt < (a_last S ((f_frames S).toInt - 1).toNat).toInt / 1024)) by have := tI_0; omega), hP, hD, hS, lv_sub hl [0, 1, 2] rfl⟩
          · have fc83_1 : x72.toInt < rv22.toInt := Int.not_le.mp (zt_nle (show rv22.toInt = _ from rfl) (show x72.toInt = _ from rfl) c83_1)
            refine lv_iconst (v := 1) hx hb d_Mo_advance_86 (by decide) ?_
            refine lv_goto (tgt := 91) hx hb d_Mo_advance_87 (by decide) ?_
            exact key1 (1 : Int32) _ _ _ ⟨(show ((1 : Int32).toInt = 0 ∨ (1 : Int32).toInt = 1) ∧ ((1 : Int32).toInt = 1 → (x2.toInt = 1 ∧ (a_far S ((f_frames S).toInt - 1).toNat).toInt < (a_array S ((f_frames S).toInt - 1).toNat).toInt / 1024) ∨ (x2.toInt = 6 ∧ (a_far S ((f_frames S).toInt - 1).toNat).toInt < (a_last S ((f_frames S).toInt - 1).toNat).toInt / 1024)) by have := tI_1; omega), hP, hD, hS, lv_sub hl [0, 1, 2] rfl⟩
      · have fc33_1 : x2.toInt = 1 := zt_eq (show x2.toInt = _ from rfl) tI_1 c33_1
        refine lv_aload_n hx hb d_Mo_advance_36 rfl (lv_at hl 2 rfl) ?_
        refine va_get (D := D) (ci := 11) (v := .ref (ar 11)) (C := "PageScribeModel") (T := F_Mo) (N := 45) hx hb hts i_Mo hown hK hP 0 mW_0 cl_11 19 (by decide) (hts _ k_6_179) (fun _ h9 => h9) (mg_far _ _) d_Mo_advance_37 ?_
        refine lv_iload_n hx hb d_Mo_advance_40 rfl (lv_at hl 1 rfl) ?_
        refine va_iald hx hb hK hP 12 0 (ma_far _ _ _ _) rfl (zt_in fx1 (by omega) (by omega)) d_Mo_advance_41 ?_
        refine lv_topi (fun x74 ex74 => ?_)
        have gx74 : x74 = (a_far S) ((f_frames S).toInt - 1).toNat := ex74.trans (congrArg _ (zt_ix fx1))
        have fx74 : x74.toInt = ((a_far S) ((f_frames S).toInt - 1).toNat).toInt := by rw [gx74]
        refine lv_aload_n hx hb d_Mo_advance_42 rfl (lv_at hl 2 rfl) ?_
        refine va_get (D := D) (ci := 11) (v := .ref (ar 10)) (C := "PageScribeModel") (T := F_Mo) (N := 45) hx hb hts i_Mo hown hK hP 0 mW_0 cl_11 18 (by decide) (hts _ k_6_178) (fun _ h9 => h9) (mg_array _ _) d_Mo_advance_43 ?_
        refine lv_iload_n hx hb d_Mo_advance_46 rfl (lv_at hl 1 rfl) ?_
        refine va_lald hx hb hK hP 11 1 (ma_array _ _ _ _) rfl (zt_in fx1 (by omega) (by omega)) d_Mo_advance_47 ?_
        refine lv_topl (fun x75 ex75 => ?_)
        have gx75 : x75 = (a_array S) ((f_frames S).toInt - 1).toNat := ex75.trans (congrArg _ (zt_ix fx1))
        have fx75 : x75.toInt = ((a_array S) ((f_frames S).toInt - 1).toNat).toInt := by rw [gx75]
        refine j_ci (wc := []) (wr := (mW T h0 ar S)) hK hP hD hS hA [] isc rfl isc_all isc_nd (fun _ _ => List.not_mem_nil) (va_runS (As := [.long x75]) (rest := [.int x74]) F (m_count l D T x75 s.heap.size (show 0 ≤ x75.toInt ∧ x75.toInt < 1048576 by omega)) (j_cS (k := 1) hts k_8_7 k_1_12 k_8_5 k_8_6 (by decide +kernel) ⟨Nat.le_of_ble_eq_true rfl, Nat.le_of_ble_eq_true rfl⟩) (j_preS hK hP hD [] rfl (by decide) (fun _ _ _ _ h => h) (fun _ _ _ => trivial)) rfl rfl hl.1 rfl (lv_room (Nat.le_of_ble_eq_true rfl)) d_Mo_advance_48 ⟨Nat.le_of_ble_eq_true rfl, Nat.le_of_ble_eq_true rfl⟩) (fun rv23 u6 H locs hw23 hP hD hS => ?_)
        have hP : va_P D classes (mW T h0 ar S) H := hP
        have hD : va_D A (mW T h0 ar S) := hD
        have qhw23 : rv23.toInt = x75.toInt / 1024 := hw23
        refine lv_icmp_ge (tgt := 58) hx hb d_Mo_advance_51 (by decide) (fun c51_1 => ?_) (fun c51_1 => ?_)
        · have fc51_1 : rv23.toInt ≤ x74.toInt := zt_le (show rv23.toInt = _ from rfl) (show x74.toInt = _ from rfl) c51_1
          refine lv_iconst (v := 0) hx hb d_Mo_advance_58 (by decide) ?_
          refine lv_goto (tgt := 91) hx hb d_Mo_advance_59 (by decide) ?_
          exact key1 (0 : Int32) _ _ _ ⟨(show ((0 : Int32).toInt = 0 ∨ (0 : Int32).toInt = 1) ∧ ((0 : Int32).toInt = 1 → (x2.toInt = 1 ∧ (a_far S ((f_frames S).toInt - 1).toNat).toInt < (a_array S ((f_frames S).toInt - 1).toNat).toInt / 1024) ∨ (x2.toInt = 6 ∧ (a_far S ((f_frames S).toInt - 1).toNat).toInt < (a_last S ((f_frames S).toInt - 1).toNat).toInt / 1024)) by have := tI_0; omega), hP, hD, hS, lv_sub hl [0, 1, 2] rfl⟩
        · have fc51_1 : x74.toInt < rv23.toInt := Int.not_le.mp (zt_nle (show rv23.toInt = _ from rfl) (show x74.toInt = _ from rfl) c51_1)
          refine lv_iconst (v := 1) hx hb d_Mo_advance_54 (by decide) ?_
          refine lv_goto (tgt := 91) hx hb d_Mo_advance_55 (by decide) ?_
          exact key1 (1 : Int32) _ _ _ ⟨(show ((1 : Int32).toInt = 0 ∨ (1 : Int32).toInt = 1) ∧ ((1 : Int32).toInt = 1 → (x2.toInt = 1 ∧ (a_far S ((f_frames S).toInt - 1).toNat).toInt < (a_array S ((f_frames S).toInt - 1).toNat).toInt / 1024) ∨ (x2.toInt = 6 ∧ (a_far S ((f_frames S).toInt - 1).toNat).toInt < (a_last S ((f_frames S).toInt - 1).toNat).toInt / 1024)) by have := tI_1; omega), hP, hD, hS, lv_sub hl [0, 1, 2] rfl⟩
  · have fc17_1 : x2.toInt = 7 := zt_eq (show x2.toInt = _ from rfl) tI_7 c17_1
    refine lv_aload_n hx hb d_Mo_advance_20 rfl (lv_at hl 2 rfl) ?_
    refine jm_cv (w := (fun u => u)) hK hP hD hS hA (va_runV (As := []) (rest := []) F (m_leave l D T h0 ar S  s.heap.size ⟨i_size, i_taken, i_vals, i_room, i_dicts, i_deep, i_open, i_cells, i_points, i_part, i_length, i_knows, i_page, i_text, i_pats, i_fuel, i_fr, i_ink⟩ (show 0 < (f_frames S).toInt by omega)) (j_cV (k := 0) (C := "PageScribeModel") hts k_8_75 k_1_12 k_8_72 k_8_74 k_0_133 (by decide +kernel) ⟨Nat.le_of_ble_eq_true rfl, Nat.le_of_ble_eq_true rfl⟩) (jm_pre hK hP hD) rfl rfl hl.1 rfl (lv_room (Nat.le_of_ble_eq_true rfl)) d_Mo_advance_21 ⟨Nat.le_of_ble_eq_true rfl, Nat.le_of_ble_eq_true rfl⟩) (fun S18 H locs hw24 hP hD hS => ?_)
    have hP : va_P D classes (mW T h0 ar S18) H := hP
    have hD : va_D A (mW T h0 ar S18) := hD
    obtain ⟨⟨i_size, i_taken, i_vals, i_room, i_dicts, i_deep, i_open, i_cells, i_points, i_part, i_length, i_knows, i_page, i_text, i_pats, i_fuel, i_fr, i_ink⟩, kpA_S18, qqhw24⟩ := hw24
    have kSA_S18 : kA S S18 := kA_t (show kA S S from (kA_r S)) kpA_S18
    have kST_S18 : kT S S18 := kT_t (show kT S S from (kT_r S)) (kT_A kpA_S18)
    have kSR_S18 : kR S S18 := kR_t (show kR S S from (kR_r S)) (kR_A kpA_S18)
    have kSC_S18 : kC S S18 := kC_t (show kC S S from (kC_r S)) (kC_A kpA_S18)
    have nsteps_S18 : (f_steps S18).toInt = (f_steps S).toInt := congrArg Int32.toInt kpA_S18.2.2.2.2.1
    have nfuel_S18 : (f_fuel S18).toInt = (f_fuel S).toInt := congrArg Int32.toInt kpA_S18.2.2.2.1
    have nlevel_S18 : (f_level S18).toInt = (f_level S).toInt := congrArg Int32.toInt kpA_S18.2.2.2.2.2.2.1
    have npending_S18 : (f_pending S18).toInt = (f_pending S).toInt := congrArg Int32.toInt kpA_S18.2.2.2.2.2.1
    have nlength_S18 : (f_length S18).toInt = (f_length S).toInt := congrArg Int32.toInt kpA_S18.1
    have nat_S18 : (f_at S18).toInt = (f_at S).toInt := congrArg Int32.toInt kpA_S18.2.1
    have qhw24 : (f_frames S18).toInt = (f_frames S).toInt - 1 ∧ (a_what S18) = (a_what S) ∧ (f_size S18) = (f_size S) ∧ (a_kinds S18) = (a_kinds S) ∧ (a_codes S18) = (a_codes S) := qqhw24
    refine lv_aload_n hx hb d_Mo_advance_24 rfl (lv_at hl 2 rfl) ?_
    refine lv_iconst (v := 2) hx hb d_Mo_advance_25 (by decide) ?_
    refine lv_lconst (v := 0) hx hb d_Mo_advance_26 (by decide) ?_
    refine jm_ci (w := (fun u => u)) hK hP hD hS hA (va_runV (As := [.int 2, .long 0]) (rest := []) F (m_push l D T h0 ar S18 (2 : Int32) (0 : Int64) H.size ⟨i_size, i_taken, i_vals, i_room, i_dicts, i_deep, i_open, i_cells, i_points, i_part, i_length, i_knows, i_page, i_text, i_pats, i_fuel, i_fr, i_ink⟩ (vO_of 2 tI_2 (by decide))) (j_cV (k := 2) (C := "PageScribeModel") hts k_7_191 k_1_12 k_7_188 k_7_190 k_0_106 (by decide +kernel) ⟨Nat.le_of_ble_eq_true rfl, Nat.le_of_ble_eq_true rfl⟩) (jm_pre hK hP hD) rfl rfl hl.1 rfl (lv_room (Nat.le_of_ble_eq_true rfl)) d_Mo_advance_27 ⟨Nat.le_of_ble_eq_true rfl, Nat.le_of_ble_eq_true rfl⟩) (fun rv25 S19 H locs hw25 hP hD hS => ?_)
    have hP : va_P D classes (mW T h0 ar S19) H := hP
    have hD : va_D A (mW T h0 ar S19) := hD
    obtain ⟨⟨i_size, i_taken, i_vals, i_room, i_dicts, i_deep, i_open, i_cells, i_points, i_part, i_length, i_knows, i_page, i_text, i_pats, i_fuel, i_fr, i_ink⟩, kpA_S19, kpF_S19, qqhw25⟩ := hw25
    have kSA_S19 : kA S S19 := kA_t (show kA S S18 from kSA_S18) kpA_S19
    have kST_S19 : kT S S19 := kT_t (show kT S S18 from kST_S18) (kT_A kpA_S19)
    have kSR_S19 : kR S S19 := kR_t (show kR S S18 from kSR_S18) (kR_A kpA_S19)
    have kSC_S19 : kC S S19 := kC_t (show kC S S18 from kSC_S18) (kC_A kpA_S19)
    have nwhat_S19 : (a_what S19 ((f_frames S).toInt - 1).toNat).toInt = ((a_what S18) ((f_frames S).toInt - 1).toNat).toInt := congrArg Int32.toInt (congrFun kpF_S19.2.2.1 ((f_frames S).toInt - 1).toNat)
    have narray_S19 : (a_array S19 ((f_frames S).toInt - 1).toNat).toInt = ((a_array S18) ((f_frames S).toInt - 1).toNat).toInt := congrArg Int64.toInt (congrFun kpF_S19.2.2.2.1 ((f_frames S).toInt - 1).toNat)
    have nfar_S19 : (a_far S19 ((f_frames S).toInt - 1).toNat).toInt = ((a_far S18) ((f_frames S).toInt - 1).toNat).toInt := congrArg Int32.toInt (congrFun kpF_S19.2.2.2.2.1 ((f_frames S).toInt - 1).toNat)
    have nvalue_S19 : (a_value S19 ((f_frames S).toInt - 1).toNat).toInt = ((a_value S18) ((f_frames S).toInt - 1).toNat).toInt := congrArg Int64.toInt (congrFun kpF_S19.2.2.2.2.2.1 ((f_frames S).toInt - 1).toNat)
    have ngrows_S19 : (a_grows S19 ((f_frames S).toInt - 1).toNat).toInt = ((a_grows S18) ((f_frames S).toInt - 1).toNat).toInt := congrArg Int64.toInt (congrFun kpF_S19.2.2.2.2.2.2.1 ((f_frames S).toInt - 1).toNat)
    have nlast_S19 : (a_last S19 ((f_frames S).toInt - 1).toNat).toInt = ((a_last S18) ((f_frames S).toInt - 1).toNat).toInt := congrArg Int64.toInt (congrFun kpF_S19.2.2.2.2.2.2.2 ((f_frames S).toInt - 1).toNat)
    have nframes_S19 : (f_frames S19).toInt = (f_frames S18).toInt := congrArg Int32.toInt kpF_S19.1
    have nunder_S19 : (f_under S19).toInt = (f_under S18).toInt := congrArg Int32.toInt kpF_S19.2.1
    have nsteps_S19 : (f_steps S19).toInt = (f_steps S18).toInt := congrArg Int32.toInt kpA_S19.2.2.2.2.1
    have nfuel_S19 : (f_fuel S19).toInt = (f_fuel S18).toInt := congrArg Int32.toInt kpA_S19.2.2.2.1
    have nlevel_S19 : (f_level S19).toInt = (f_level S18).toInt := congrArg Int32.toInt kpA_S19.2.2.2.2.2.2.1
    have npending_S19 : (f_pending S19).toInt = (f_pending S18).toInt := congrArg Int32.toInt kpA_S19.2.2.2.2.2.1
    have nlength_S19 : (f_length S19).toInt = (f_length S18).toInt := congrArg Int32.toInt kpA_S19.1
    have nat_S19 : (f_at S19).toInt = (f_at S18).toInt := congrArg Int32.toInt kpA_S19.2.1
    have qhw25 : rv25.toInt = 0 ∨ rv25.toInt = 2 := by simpa only [tI_2, tJ_0] using qqhw25
    exact j_iret F hr hlocks hK hS S19 ⟨⟨i_size, i_taken, i_vals, i_room, i_dicts, i_deep, i_open, i_cells, i_points, i_part, i_length, i_knows, i_page, i_text, i_pats, i_fuel, i_fr, i_ink⟩, kST_S19, (show -1 ≤ rv25.toInt ∧ rv25.toInt ≤ 16 ∧ (rv25.toInt = 16 ∨ (f_frames S19).toInt + 3 * (f_fuel S19).toInt - 3 * (f_steps S19).toInt + 1 ≤ (f_frames S).toInt + 3 * (f_fuel S).toInt - 3 * (f_steps S).toInt) by omega)⟩ hP hD d_Mo_advance_30
