theorem d_Mo_cover_0 : decode prog_15_method_73_code 0 = .ok (.iload_n 1, 1) := by decide +kernel
theorem d_Mo_cover_1 : decode prog_15_method_73_code 1 = .ok (.aload_n 0, 1) := by decide +kernel
theorem k_6_194 : Cond.fieldLink "PageScribeModel" 236 "PageScribeModel" "columns" "I" ∈ gw := gw_of (tb_6 (List.mem_of_getElem? (i := 194) (by decide +kernel))) (by decide +kernel)
theorem d_Mo_cover_2 : decode prog_15_method_73_code 2 = .ok (.getfield 236, 3) := by decide +kernel
theorem d_Mo_cover_5 : decode prog_15_method_73_code 5 = .ok (.irem, 1) := by decide +kernel
theorem d_Mo_cover_6 : decode prog_15_method_73_code 6 = .ok (.i2d, 1) := by decide +kernel
theorem d_Mo_cover_7 : decode prog_15_method_73_code 7 = .ok (.ldc2_w 484, 3) := by decide +kernel
theorem d_Mo_cover_10 : decode prog_15_method_73_code 10 = .ok (.dadd, 1) := by decide +kernel
theorem d_Mo_cover_11 : decode prog_15_method_73_code 11 = .ok (.dstore_n 3, 1) := by decide +kernel
theorem d_Mo_cover_12 : decode prog_15_method_73_code 12 = .ok (.iload_n 1, 1) := by decide +kernel
theorem d_Mo_cover_13 : decode prog_15_method_73_code 13 = .ok (.aload_n 0, 1) := by decide +kernel
theorem d_Mo_cover_14 : decode prog_15_method_73_code 14 = .ok (.getfield 236, 3) := by decide +kernel
theorem d_Mo_cover_17 : decode prog_15_method_73_code 17 = .ok (.idiv, 1) := by decide +kernel
theorem d_Mo_cover_18 : decode prog_15_method_73_code 18 = .ok (.i2d, 1) := by decide +kernel
theorem d_Mo_cover_19 : decode prog_15_method_73_code 19 = .ok (.ldc2_w 484, 3) := by decide +kernel
theorem d_Mo_cover_22 : decode prog_15_method_73_code 22 = .ok (.dadd, 1) := by decide +kernel
theorem d_Mo_cover_23 : decode prog_15_method_73_code 23 = .ok (.dstore 5, 2) := by decide +kernel
theorem d_Mo_cover_25 : decode prog_15_method_73_code 25 = .ok (.iconst 0, 1) := by decide +kernel
theorem d_Mo_cover_26 : decode prog_15_method_73_code 26 = .ok (.istore 7, 2) := by decide +kernel
theorem d_Mo_cover_28 : decode prog_15_method_73_code 28 = .ok (.iconst 0, 1) := by decide +kernel
theorem d_Mo_cover_29 : decode prog_15_method_73_code 29 = .ok (.istore 8, 2) := by decide +kernel
theorem d_Mo_cover_31 : decode prog_15_method_73_code 31 = .ok (.iconst 0, 1) := by decide +kernel
theorem d_Mo_cover_32 : decode prog_15_method_73_code 32 = .ok (.istore 9, 2) := by decide +kernel
theorem d_Mo_cover_34 : decode prog_15_method_73_code 34 = .ok (.iload 9, 2) := by decide +kernel
theorem d_Mo_cover_36 : decode prog_15_method_73_code 36 = .ok (.aload_n 0, 1) := by decide +kernel
theorem d_Mo_cover_37 : decode prog_15_method_73_code 37 = .ok (.getfield 547, 3) := by decide +kernel
theorem d_Mo_cover_40 : decode prog_15_method_73_code 40 = .ok (.if_icmp .ge 181, 3) := by decide +kernel
theorem d_Mo_cover_256 : decode prog_15_method_73_code 256 = .ok (.istore 9, 2) := by decide +kernel
theorem d_Mo_cover_258 : decode prog_15_method_73_code 258 = .ok (.iload 9, 2) := by decide +kernel
theorem d_Mo_cover_260 : decode prog_15_method_73_code 260 = .ok (.ifCond .eq 37, 3) := by decide +kernel
theorem d_Mo_cover_297 : decode prog_15_method_73_code 297 = .ok (.return_, 1) := by decide +kernel
theorem d_Mo_cover_263 : decode prog_15_method_73_code 263 = .ok (.aload_n 0, 1) := by decide +kernel
theorem k_6_196 : Cond.fieldLink "PageScribeModel" 71 "PageScribeModel" "pixels" "[I" ∈ gw := gw_of (tb_6 (List.mem_of_getElem? (i := 196) (by decide +kernel))) (by decide +kernel)
theorem d_Mo_cover_264 : decode prog_15_method_73_code 264 = .ok (.getfield 71, 3) := by decide +kernel
theorem d_Mo_cover_267 : decode prog_15_method_73_code 267 = .ok (.bipush 24, 2) := by decide +kernel
theorem d_Mo_cover_269 : decode prog_15_method_73_code 269 = .ok (.iload_n 1, 1) := by decide +kernel
theorem d_Mo_cover_270 : decode prog_15_method_73_code 270 = .ok (.aload_n 0, 1) := by decide +kernel
theorem d_Mo_cover_271 : decode prog_15_method_73_code 271 = .ok (.getfield 236, 3) := by decide +kernel
theorem d_Mo_cover_274 : decode prog_15_method_73_code 274 = .ok (.idiv, 1) := by decide +kernel
theorem d_Mo_cover_275 : decode prog_15_method_73_code 275 = .ok (.imul, 1) := by decide +kernel
theorem d_Mo_cover_276 : decode prog_15_method_73_code 276 = .ok (.iload_n 1, 1) := by decide +kernel
theorem d_Mo_cover_277 : decode prog_15_method_73_code 277 = .ok (.aload_n 0, 1) := by decide +kernel
theorem d_Mo_cover_278 : decode prog_15_method_73_code 278 = .ok (.getfield 236, 3) := by decide +kernel
theorem d_Mo_cover_281 : decode prog_15_method_73_code 281 = .ok (.irem, 1) := by decide +kernel
theorem d_Mo_cover_282 : decode prog_15_method_73_code 282 = .ok (.iadd, 1) := by decide +kernel
theorem d_Mo_cover_283 : decode prog_15_method_73_code 283 = .ok (.ldc_w 562, 3) := by decide +kernel
theorem k_8_106 : Cond.constantFloat "PageScribeModel" 562 (1097859072 : UInt32) ∈ gw := gw_of (tb_8 (List.mem_of_getElem? (i := 106) (by decide +kernel))) (by decide +kernel)
theorem d_Mo_cover_286 : decode prog_15_method_73_code 286 = .ok (.aload_n 0, 1) := by decide +kernel
theorem k_6_197 : Cond.fieldLink "PageScribeModel" 74 "PageScribeModel" "gray" "F" ∈ gw := gw_of (tb_6 (List.mem_of_getElem? (i := 197) (by decide +kernel))) (by decide +kernel)
theorem d_Mo_cover_287 : decode prog_15_method_73_code 287 = .ok (.getfield 74, 3) := by decide +kernel
theorem d_Mo_cover_290 : decode prog_15_method_73_code 290 = .ok (.fmul, 1) := by decide +kernel
theorem d_Mo_cover_291 : decode prog_15_method_73_code 291 = .ok (.ldc_w 563, 3) := by decide +kernel
theorem k_8_107 : Cond.constantFloat "PageScribeModel" 563 (1056964608 : UInt32) ∈ gw := gw_of (tb_8 (List.mem_of_getElem? (i := 107) (by decide +kernel))) (by decide +kernel)
theorem d_Mo_cover_294 : decode prog_15_method_73_code 294 = .ok (.fadd, 1) := by decide +kernel
theorem d_Mo_cover_295 : decode prog_15_method_73_code 295 = .ok (.f2i, 1) := by decide +kernel
theorem d_Mo_cover_296 : decode prog_15_method_73_code 296 = .ok (.iastore, 1) := by decide +kernel
theorem d_Mo_cover_221 : decode prog_15_method_73_code 221 = .ok (.iload_n 2, 1) := by decide +kernel
theorem d_Mo_cover_222 : decode prog_15_method_73_code 222 = .ok (.ifCond .eq 22, 3) := by decide +kernel
theorem d_Mo_cover_244 : decode prog_15_method_73_code 244 = .ok (.iload 7, 2) := by decide +kernel
theorem d_Mo_cover_246 : decode prog_15_method_73_code 246 = .ok (.iload 8, 2) := by decide +kernel
theorem d_Mo_cover_248 : decode prog_15_method_73_code 248 = .ok (.if_icmp .eq 7, 3) := by decide +kernel
theorem d_Mo_cover_255 : decode prog_15_method_73_code 255 = .ok (.iconst 0, 1) := by decide +kernel
theorem d_Mo_cover_251 : decode prog_15_method_73_code 251 = .ok (.iconst 1, 1) := by decide +kernel
theorem d_Mo_cover_252 : decode prog_15_method_73_code 252 = .ok (.goto 4, 3) := by decide +kernel
theorem d_Mo_cover_225 : decode prog_15_method_73_code 225 = .ok (.iload 7, 2) := by decide +kernel
theorem d_Mo_cover_227 : decode prog_15_method_73_code 227 = .ok (.iload 8, 2) := by decide +kernel
theorem d_Mo_cover_229 : decode prog_15_method_73_code 229 = .ok (.iadd, 1) := by decide +kernel
theorem d_Mo_cover_230 : decode prog_15_method_73_code 230 = .ok (.iconst 2, 1) := by decide +kernel
theorem d_Mo_cover_231 : decode prog_15_method_73_code 231 = .ok (.irem, 1) := by decide +kernel
theorem d_Mo_cover_232 : decode prog_15_method_73_code 232 = .ok (.iconst 1, 1) := by decide +kernel
theorem d_Mo_cover_233 : decode prog_15_method_73_code 233 = .ok (.if_icmp .ne 7, 3) := by decide +kernel
theorem d_Mo_cover_240 : decode prog_15_method_73_code 240 = .ok (.iconst 0, 1) := by decide +kernel
theorem d_Mo_cover_241 : decode prog_15_method_73_code 241 = .ok (.goto 15, 3) := by decide +kernel
theorem d_Mo_cover_236 : decode prog_15_method_73_code 236 = .ok (.iconst 1, 1) := by decide +kernel
theorem d_Mo_cover_237 : decode prog_15_method_73_code 237 = .ok (.goto 19, 3) := by decide +kernel
theorem d_Mo_cover_87 : decode prog_15_method_73_code 87 = .ok (.istore 10, 2) := by decide +kernel
theorem d_Mo_cover_89 : decode prog_15_method_73_code 89 = .ok (.aload_n 0, 1) := by decide +kernel
theorem d_Mo_cover_90 : decode prog_15_method_73_code 90 = .ok (.getfield 78, 3) := by decide +kernel
theorem d_Mo_cover_93 : decode prog_15_method_73_code 93 = .ok (.iload 10, 2) := by decide +kernel
theorem d_Mo_cover_95 : decode prog_15_method_73_code 95 = .ok (.daload, 1) := by decide +kernel
theorem d_Mo_cover_96 : decode prog_15_method_73_code 96 = .ok (.aload_n 0, 1) := by decide +kernel
theorem d_Mo_cover_97 : decode prog_15_method_73_code 97 = .ok (.getfield 78, 3) := by decide +kernel
theorem d_Mo_cover_100 : decode prog_15_method_73_code 100 = .ok (.iload 9, 2) := by decide +kernel
theorem d_Mo_cover_102 : decode prog_15_method_73_code 102 = .ok (.daload, 1) := by decide +kernel
theorem d_Mo_cover_103 : decode prog_15_method_73_code 103 = .ok (.dsub, 1) := by decide +kernel
theorem d_Mo_cover_104 : decode prog_15_method_73_code 104 = .ok (.dload 5, 2) := by decide +kernel
theorem d_Mo_cover_106 : decode prog_15_method_73_code 106 = .ok (.aload_n 0, 1) := by decide +kernel
theorem d_Mo_cover_107 : decode prog_15_method_73_code 107 = .ok (.getfield 81, 3) := by decide +kernel
theorem d_Mo_cover_110 : decode prog_15_method_73_code 110 = .ok (.iload 9, 2) := by decide +kernel
theorem d_Mo_cover_112 : decode prog_15_method_73_code 112 = .ok (.daload, 1) := by decide +kernel
theorem d_Mo_cover_113 : decode prog_15_method_73_code 113 = .ok (.dsub, 1) := by decide +kernel
theorem d_Mo_cover_114 : decode prog_15_method_73_code 114 = .ok (.dmul, 1) := by decide +kernel
theorem d_Mo_cover_115 : decode prog_15_method_73_code 115 = .ok (.dload_n 3, 1) := by decide +kernel
theorem d_Mo_cover_116 : decode prog_15_method_73_code 116 = .ok (.aload_n 0, 1) := by decide +kernel
theorem d_Mo_cover_117 : decode prog_15_method_73_code 117 = .ok (.getfield 78, 3) := by decide +kernel
theorem d_Mo_cover_120 : decode prog_15_method_73_code 120 = .ok (.iload 9, 2) := by decide +kernel
theorem d_Mo_cover_122 : decode prog_15_method_73_code 122 = .ok (.daload, 1) := by decide +kernel
theorem d_Mo_cover_123 : decode prog_15_method_73_code 123 = .ok (.dsub, 1) := by decide +kernel
theorem d_Mo_cover_124 : decode prog_15_method_73_code 124 = .ok (.aload_n 0, 1) := by decide +kernel
theorem d_Mo_cover_125 : decode prog_15_method_73_code 125 = .ok (.getfield 81, 3) := by decide +kernel
theorem d_Mo_cover_128 : decode prog_15_method_73_code 128 = .ok (.iload 10, 2) := by decide +kernel
theorem d_Mo_cover_130 : decode prog_15_method_73_code 130 = .ok (.daload, 1) := by decide +kernel
theorem d_Mo_cover_131 : decode prog_15_method_73_code 131 = .ok (.aload_n 0, 1) := by decide +kernel
theorem d_Mo_cover_132 : decode prog_15_method_73_code 132 = .ok (.getfield 81, 3) := by decide +kernel
theorem d_Mo_cover_135 : decode prog_15_method_73_code 135 = .ok (.iload 9, 2) := by decide +kernel
theorem d_Mo_cover_137 : decode prog_15_method_73_code 137 = .ok (.daload, 1) := by decide +kernel
theorem d_Mo_cover_138 : decode prog_15_method_73_code 138 = .ok (.dsub, 1) := by decide +kernel
theorem d_Mo_cover_139 : decode prog_15_method_73_code 139 = .ok (.dmul, 1) := by decide +kernel
theorem d_Mo_cover_140 : decode prog_15_method_73_code 140 = .ok (.dsub, 1) := by decide +kernel
theorem d_Mo_cover_141 : decode prog_15_method_73_code 141 = .ok (.dstore 11, 2) := by decide +kernel
theorem d_Mo_cover_143 : decode prog_15_method_73_code 143 = .ok (.aload_n 0, 1) := by decide +kernel
theorem d_Mo_cover_144 : decode prog_15_method_73_code 144 = .ok (.getfield 81, 3) := by decide +kernel
theorem d_Mo_cover_147 : decode prog_15_method_73_code 147 = .ok (.iload 9, 2) := by decide +kernel
theorem d_Mo_cover_149 : decode prog_15_method_73_code 149 = .ok (.daload, 1) := by decide +kernel
theorem d_Mo_cover_150 : decode prog_15_method_73_code 150 = .ok (.dload 5, 2) := by decide +kernel
theorem d_Mo_cover_152 : decode prog_15_method_73_code 152 = .ok (.dcmp .g, 1) := by decide +kernel
theorem d_Mo_cover_153 : decode prog_15_method_73_code 153 = .ok (.ifCond .gt 26, 3) := by decide +kernel
theorem d_Mo_cover_179 : decode prog_15_method_73_code 179 = .ok (.aload_n 0, 1) := by decide +kernel
theorem d_Mo_cover_180 : decode prog_15_method_73_code 180 = .ok (.getfield 81, 3) := by decide +kernel
theorem d_Mo_cover_183 : decode prog_15_method_73_code 183 = .ok (.iload 10, 2) := by decide +kernel
theorem d_Mo_cover_185 : decode prog_15_method_73_code 185 = .ok (.daload, 1) := by decide +kernel
theorem d_Mo_cover_186 : decode prog_15_method_73_code 186 = .ok (.dload 5, 2) := by decide +kernel
theorem d_Mo_cover_188 : decode prog_15_method_73_code 188 = .ok (.dcmp .g, 1) := by decide +kernel
theorem d_Mo_cover_189 : decode prog_15_method_73_code 189 = .ok (.ifCond .gt 26, 3) := by decide +kernel
theorem d_Mo_cover_215 : decode prog_15_method_73_code 215 = .ok (.iinc 9 1, 3) := by decide +kernel
theorem d_Mo_cover_218 : decode prog_15_method_73_code 218 = .ok (.goto (-184), 3) := by decide +kernel
theorem d_Mo_cover_192 : decode prog_15_method_73_code 192 = .ok (.dload 5, 2) := by decide +kernel
theorem d_Mo_cover_194 : decode prog_15_method_73_code 194 = .ok (.aload_n 0, 1) := by decide +kernel
theorem d_Mo_cover_195 : decode prog_15_method_73_code 195 = .ok (.getfield 81, 3) := by decide +kernel
theorem d_Mo_cover_198 : decode prog_15_method_73_code 198 = .ok (.iload 9, 2) := by decide +kernel
theorem d_Mo_cover_200 : decode prog_15_method_73_code 200 = .ok (.daload, 1) := by decide +kernel
theorem d_Mo_cover_201 : decode prog_15_method_73_code 201 = .ok (.dcmp .g, 1) := by decide +kernel
theorem d_Mo_cover_202 : decode prog_15_method_73_code 202 = .ok (.ifCond .ge 13, 3) := by decide +kernel
theorem d_Mo_cover_205 : decode prog_15_method_73_code 205 = .ok (.dload 11, 2) := by decide +kernel
theorem d_Mo_cover_207 : decode prog_15_method_73_code 207 = .ok (.dconst 0, 1) := by decide +kernel
theorem d_Mo_cover_208 : decode prog_15_method_73_code 208 = .ok (.dcmp .g, 1) := by decide +kernel
theorem d_Mo_cover_209 : decode prog_15_method_73_code 209 = .ok (.ifCond .ge 6, 3) := by decide +kernel
theorem d_Mo_cover_212 : decode prog_15_method_73_code 212 = .ok (.iinc 8 1, 3) := by decide +kernel
theorem d_Mo_cover_156 : decode prog_15_method_73_code 156 = .ok (.dload 5, 2) := by decide +kernel
theorem d_Mo_cover_158 : decode prog_15_method_73_code 158 = .ok (.aload_n 0, 1) := by decide +kernel
theorem d_Mo_cover_159 : decode prog_15_method_73_code 159 = .ok (.getfield 81, 3) := by decide +kernel
theorem d_Mo_cover_162 : decode prog_15_method_73_code 162 = .ok (.iload 10, 2) := by decide +kernel
theorem d_Mo_cover_164 : decode prog_15_method_73_code 164 = .ok (.daload, 1) := by decide +kernel
theorem d_Mo_cover_165 : decode prog_15_method_73_code 165 = .ok (.dcmp .g, 1) := by decide +kernel
theorem d_Mo_cover_166 : decode prog_15_method_73_code 166 = .ok (.ifCond .ge 13, 3) := by decide +kernel
theorem d_Mo_cover_169 : decode prog_15_method_73_code 169 = .ok (.dload 11, 2) := by decide +kernel
theorem d_Mo_cover_171 : decode prog_15_method_73_code 171 = .ok (.dconst 0, 1) := by decide +kernel
theorem d_Mo_cover_172 : decode prog_15_method_73_code 172 = .ok (.dcmp .l, 1) := by decide +kernel
theorem d_Mo_cover_173 : decode prog_15_method_73_code 173 = .ok (.ifCond .le 6, 3) := by decide +kernel
theorem d_Mo_cover_176 : decode prog_15_method_73_code 176 = .ok (.iinc 7 1, 3) := by decide +kernel
theorem d_Mo_cover_43 : decode prog_15_method_73_code 43 = .ok (.iload 9, 2) := by decide +kernel
theorem d_Mo_cover_45 : decode prog_15_method_73_code 45 = .ok (.iconst 1, 1) := by decide +kernel
theorem d_Mo_cover_46 : decode prog_15_method_73_code 46 = .ok (.iadd, 1) := by decide +kernel
theorem d_Mo_cover_47 : decode prog_15_method_73_code 47 = .ok (.aload_n 0, 1) := by decide +kernel
theorem d_Mo_cover_48 : decode prog_15_method_73_code 48 = .ok (.getfield 547, 3) := by decide +kernel
theorem d_Mo_cover_51 : decode prog_15_method_73_code 51 = .ok (.if_icmp .ge 29, 3) := by decide +kernel
theorem d_Mo_cover_80 : decode prog_15_method_73_code 80 = .ok (.aload_n 0, 1) := by decide +kernel
theorem d_Mo_cover_81 : decode prog_15_method_73_code 81 = .ok (.getfield 84, 3) := by decide +kernel
theorem d_Mo_cover_84 : decode prog_15_method_73_code 84 = .ok (.iload 9, 2) := by decide +kernel
theorem d_Mo_cover_86 : decode prog_15_method_73_code 86 = .ok (.iaload, 1) := by decide +kernel
theorem d_Mo_cover_54 : decode prog_15_method_73_code 54 = .ok (.aload_n 0, 1) := by decide +kernel
theorem d_Mo_cover_55 : decode prog_15_method_73_code 55 = .ok (.getfield 84, 3) := by decide +kernel
theorem d_Mo_cover_58 : decode prog_15_method_73_code 58 = .ok (.iload 9, 2) := by decide +kernel
theorem d_Mo_cover_60 : decode prog_15_method_73_code 60 = .ok (.iconst 1, 1) := by decide +kernel
theorem d_Mo_cover_61 : decode prog_15_method_73_code 61 = .ok (.iadd, 1) := by decide +kernel
theorem d_Mo_cover_62 : decode prog_15_method_73_code 62 = .ok (.iaload, 1) := by decide +kernel
theorem d_Mo_cover_63 : decode prog_15_method_73_code 63 = .ok (.aload_n 0, 1) := by decide +kernel
theorem d_Mo_cover_64 : decode prog_15_method_73_code 64 = .ok (.getfield 84, 3) := by decide +kernel
theorem d_Mo_cover_67 : decode prog_15_method_73_code 67 = .ok (.iload 9, 2) := by decide +kernel
theorem d_Mo_cover_69 : decode prog_15_method_73_code 69 = .ok (.iaload, 1) := by decide +kernel
theorem d_Mo_cover_70 : decode prog_15_method_73_code 70 = .ok (.if_icmp .ne 10, 3) := by decide +kernel
theorem d_Mo_cover_73 : decode prog_15_method_73_code 73 = .ok (.iload 9, 2) := by decide +kernel
theorem d_Mo_cover_75 : decode prog_15_method_73_code 75 = .ok (.iconst 1, 1) := by decide +kernel
theorem d_Mo_cover_76 : decode prog_15_method_73_code 76 = .ok (.iadd, 1) := by decide +kernel
theorem d_Mo_cover_77 : decode prog_15_method_73_code 77 = .ok (.goto 10, 3) := by decide +kernel
set_option maxHeartbeats 4000000 in
set_option maxRecDepth 100000 in
theorem m_cover (l : Launch) (D : va_G) (T : Nat → ClassId) (h0 : Nat) (ar : Nat → Nat) (S : MS) (p0 : Int32) (p1 : Int32) (sz : Nat) (hI : MI S) (h1 : pxP p0.toInt (f_columns S).toInt (f_rows S).toInt) : Met l ⟨"PageScribeModel", "cover", "(IZ)V"⟩ (wy ⟨"PageScribeModel", "cover", "(IZ)V"⟩ prog_15_method_73_code 13 none) ({ frames := 0, cells := 0, slots := 0, locals := 0 }) (va_Pc [.ref h0, .int p0, .int p1] (Pw D T (mW T h0 ar S) sz E0)) (va_Qv (fun (u : MS) => MI u ∧ kA S u ∧ kF S u) (fun u t => Bw D T (va_A (mW T h0 ar S) sz) (mW T h0 ar u) t) (va_A (mW T h0 ar S) sz)) 0 0 (va_A (mW T h0 ar S) sz) := by
  refine j_met (y := ⟨"PageScribeModel", "cover", "(IZ)V"⟩) (b := prog_15_method_73_code) (n := 13) (ret := none) (av := [.ref h0, .int p0, .int p1]) (Qc := fun A => va_Qv (fun (u : MS) => MI u ∧ kA S u ∧ kF S u) (fun u t => Bw D T A (mW T h0 ar u) t) A) (by decide +kernel) (Nat.le_of_ble_eq_true rfl) (fun p e s m args below meth c A ls F hr hlocks hnm hK hP hD hS hA hN hE hl => ?_)
  obtain ⟨hx, hb, hml, hown, hts⟩ := id F
  have hl : lv_has ls 13 [(0, .ref h0), (1, .int p0), (2, .int p1)] := hl
  obtain ⟨i_size, i_taken, i_vals, i_room, i_dicts, i_deep, i_open, i_cells, i_points, i_part, i_length, i_knows, i_page, i_text, i_pats, i_fuel, i_fr, i_ink⟩ := id hI
  have hz0 := h1.1
  refine lv_iload_n hx hb d_Mo_cover_0 rfl (lv_at hl 1 rfl) ?_
  refine lv_aload_n hx hb d_Mo_cover_1 rfl (lv_at hl 0 rfl) ?_
  refine va_get (D := D) (ci := 11) (v := .int (f_columns S)) (C := "PageScribeModel") (T := F_Mo) (N := 45) hx hb hts i_Mo hown hK hP 0 mW_0 cl_11 34 (by decide) (hts _ k_6_194) (fun _ h9 => h9) (mg_columns _ _) d_Mo_cover_2 ?_
  refine lv_irem hx hb d_Mo_cover_5 (zt_n0 rfl (by omega)) ?_
  refine lv_topi (fun x1 ex1 => ?_)
  try have fx1 : x1.toInt = p0.toInt % (f_columns S).toInt := by rw [ex1]; exact zt_rem (show p0.toInt = _ from rfl) (show (f_columns S).toInt = _ from rfl) (by omega) (by omega)
  have bx1 : 0 ≤ x1.toInt ∧ x1.toInt ≤ 23 := by rw [fx1]; exact px_mod (by omega) (by omega)
  refine lv_i2d hx hb d_Mo_cover_6 ?_
  refine lv_topd (fun x2 ex2 => ?_)
  have fx2 : dB x2 := by rw [ex2]; exact zd_i2d _
  have mx2 : dM 1056 x2 := by rw [ex2]; exact FP.Core.i2d_mag _
  refine lv_ldc2d (v := 4602678819172646912) hx hb hown (hts _ k_7_229) d_Mo_cover_7 ?_
  have := tD_4602678819172646912
  have m10_0 : dM 1058 (FP.dadd x2 4602678819172646912) := dM_add (K := 1056) (dM_le mx2 (by decide)) (dM_le (show dM 1023 4602678819172646912 by unfold dM; decide +kernel) (by decide)) (by decide)
  refine lv_dadd hx hb d_Mo_cover_10 (vf_N (dF_N (dM_F m10_0 (by decide)))) ?_
  refine lv_topd (fun x3 ex3 => ?_)
  rw [show FP.dadd x2 4602678819172646912 = x3 from ex3.symm] at m10_0
  have dx3 : dF x3 := dM_F m10_0 (by decide)
  refine lv_dstore_n (lv' := [(3, .double x3), (0, .ref h0), (1, .int p0), (2, .int p1)]) hx hb d_Mo_cover_11 rfl hl (by decide) rfl (fun ls hl => ?_)
  refine lv_iload_n hx hb d_Mo_cover_12 rfl (lv_at hl 2 rfl) ?_
  refine lv_aload_n hx hb d_Mo_cover_13 rfl (lv_at hl 1 rfl) ?_
  refine va_get (D := D) (ci := 11) (v := .int (f_columns S)) (C := "PageScribeModel") (T := F_Mo) (N := 45) hx hb hts i_Mo hown hK hP 0 mW_0 cl_11 34 (by decide) (hts _ k_6_194) (fun _ h9 => h9) (mg_columns _ _) d_Mo_cover_14 ?_
  refine lv_idiv hx hb d_Mo_cover_17 (zt_n0 rfl (by omega)) ?_
  refine lv_topi (fun x4 ex4 => ?_)
  try have fx4 : x4.toInt = p0.toInt / (f_columns S).toInt := by rw [ex4]; exact zt_div (show p0.toInt = _ from rfl) (show (f_columns S).toInt = _ from rfl) (by omega) (by omega)
  have bx4 : 0 ≤ x4.toInt ∧ x4.toInt ≤ 15 := by rw [fx4]; exact px_div h1.1 (by omega) (by omega) h1.2
  refine lv_i2d hx hb d_Mo_cover_18 ?_
  refine lv_topd (fun x5 ex5 => ?_)
  have fx5 : dB x5 := by rw [ex5]; exact zd_i2d _
  have mx5 : dM 1056 x5 := by rw [ex5]; exact FP.Core.i2d_mag _
  refine lv_ldc2d (v := 4602678819172646912) hx hb hown (hts _ k_7_229) d_Mo_cover_19 ?_
  have := tD_4602678819172646912
  have m22_1 : dM 1058 (FP.dadd x5 4602678819172646912) := dM_add (K := 1056) (dM_le mx5 (by decide)) (dM_le (show dM 1023 4602678819172646912 by unfold dM; decide +kernel) (by decide)) (by decide)
  refine lv_dadd hx hb d_Mo_cover_22 (vf_N (dF_N (dM_F m22_1 (by decide)))) ?_
  refine lv_topd (fun x6 ex6 => ?_)
  rw [show FP.dadd x5 4602678819172646912 = x6 from ex6.symm] at m22_1
  have dx6 : dF x6 := dM_F m22_1 (by decide)
  refine lv_dstore (lv' := [(5, .double x6), (3, .double x3), (0, .ref h0), (1, .int p0), (2, .int p1)]) hx hb d_Mo_cover_23 hl (by decide) rfl (fun ls hl => ?_)
  refine lv_iconst (v := 0) hx hb d_Mo_cover_25 (by decide) ?_
  refine lv_istore (lv' := [(7, .int 0), (5, .double x6), (3, .double x3), (0, .ref h0), (1, .int p0), (2, .int p1)]) hx hb d_Mo_cover_26 hl (by decide) rfl (fun ls hl => ?_)
  refine lv_iconst (v := 0) hx hb d_Mo_cover_28 (by decide) ?_
  refine lv_istore (lv' := [(8, .int 0), (7, .int 0), (5, .double x6), (3, .double x3), (0, .ref h0), (1, .int p0), (2, .int p1)]) hx hb d_Mo_cover_29 hl (by decide) rfl (fun ls hl => ?_)
  refine lv_iconst (v := 0) hx hb d_Mo_cover_31 (by decide) ?_
  refine lv_istore (lv' := [(9, .int 0), (8, .int 0), (7, .int 0), (5, .double x6), (3, .double x3), (0, .ref h0), (1, .int p0), (2, .int p1)]) hx hb d_Mo_cover_32 hl (by decide) rfl (fun ls hl => ?_)
  refine j_loop (α := Int32 × Int32 × Int32) (fun k x H locs ls => (0 ≤ x.2.2.toInt ∧ x.2.2.toInt ≤ (f_points S).toInt ∧ (f_points S).toInt ≤ x.2.2.toInt + ((k : Nat) : Int) ∧ 0 ≤ x.1.toInt ∧ x.1.toInt ≤ x.2.2.toInt ∧ 0 ≤ x.2.1.toInt ∧ x.2.1.toInt ≤ x.2.2.toInt) ∧ va_P D classes (mW T h0 ar S) H ∧ va_D A (mW T h0 ar S) ∧ va_S A s.heap H locs ∧ lv_has ls 13 [(9, .int x.2.2), (8, .int x.2.1), (7, .int x.1), (5, .double x6), (3, .double x3), (0, .ref h0), (1, .int p0), (2, .int p1)]) (fun _ _ ls => F0 m 34 ls []) (fun k x H locs ls hI9 ih => ?_) 30 ((0 : Int32), (0 : Int32), (0 : Int32)) _ _ _ ⟨(show 0 ≤ (0 : Int32).toInt ∧ (0 : Int32).toInt ≤ (f_points S).toInt ∧ (f_points S).toInt ≤ (0 : Int32).toInt + ((30 : Nat) : Int) ∧ 0 ≤ (0 : Int32).toInt ∧ (0 : Int32).toInt ≤ (0 : Int32).toInt ∧ 0 ≤ (0 : Int32).toInt ∧ (0 : Int32).toInt ≤ (0 : Int32).toInt by have := tI_0; have := tI_0; have := tI_0; omega), hP, hD, hS, lv_sub hl [0, 1, 2, 3, 4, 5, 6, 7] rfl⟩
  obtain ⟨a, b, i⟩ := x
  obtain ⟨hf1, hP, hD, hS, hl⟩ := hI9
  have hf1 : 0 ≤ i.toInt ∧ i.toInt ≤ (f_points S).toInt ∧ (f_points S).toInt ≤ i.toInt + ((k : Nat) : Int) ∧ 0 ≤ a.toInt ∧ a.toInt ≤ i.toInt ∧ 0 ≤ b.toInt ∧ b.toInt ≤ i.toInt := hf1
  have hP : va_P D classes (mW T h0 ar S) H := hP
  have hD : va_D A (mW T h0 ar S) := hD
  have hl : lv_has ls 13 [(9, .int i), (8, .int b), (7, .int a), (5, .double x6), (3, .double x3), (0, .ref h0), (1, .int p0), (2, .int p1)] := hl
  refine lv_iload hx hb d_Mo_cover_34 (lv_at hl 0 rfl) ?_
  refine lv_aload_n hx hb d_Mo_cover_36 rfl (lv_at hl 5 rfl) ?_
  refine va_get (D := D) (ci := 11) (v := .int (f_points S)) (C := "PageScribeModel") (T := F_Mo) (N := 45) hx hb hts i_Mo hown hK hP 0 mW_0 cl_11 41 (by decide) (hts _ k_6_201) (fun _ h9 => h9) (mg_points _ _) d_Mo_cover_37 ?_
  refine lv_icmp_ge (tgt := 221) hx hb d_Mo_cover_40 (by decide) (fun c40_1 => ?_) (fun c40_1 => ?_)
  · have fc40_1 : (f_points S).toInt ≤ i.toInt := zt_le (show (f_points S).toInt = _ from rfl) (show i.toInt = _ from rfl) c40_1
    refine j_joinH (α := Int32) (fun x H locs ls => (x.toInt = 0 ∨ x.toInt = 1) ∧ va_P D classes (mW T h0 ar S) H ∧ va_D A (mW T h0 ar S) ∧ va_S A s.heap H locs ∧ lv_has ls 13 [(9, .int i), (8, .int b), (7, .int a), (5, .double x6), (3, .double x3), (0, .ref h0), (1, .int p0), (2, .int p1)]) (fun x ls => F0 m 256 ls (.int x :: [])) (fun x H locs ls hI9 => ?_) (fun key1 => ?_)
    · obtain ⟨j1, rfl⟩ : ∃ z, z = x := ⟨_, rfl⟩
      obtain ⟨hj1, hP, hD, hS, hl⟩ := hI9
      have hj1 : j1.toInt = 0 ∨ j1.toInt = 1 := hj1
      have hP : va_P D classes (mW T h0 ar S) H := hP
      have hD : va_D A (mW T h0 ar S) := hD
      have hl : lv_has ls 13 [(9, .int i), (8, .int b), (7, .int a), (5, .double x6), (3, .double x3), (0, .ref h0), (1, .int p0), (2, .int p1)] := hl
      refine lv_istore (lv' := [(9, .int j1), (8, .int b), (7, .int a), (5, .double x6), (3, .double x3), (0, .ref h0), (1, .int p0), (2, .int p1)]) hx hb d_Mo_cover_256 hl (by decide) rfl (fun ls hl => ?_)
      refine lv_iload hx hb d_Mo_cover_258 (lv_at hl 0 rfl) ?_
      refine lv_if_eq (tgt := 297) hx hb d_Mo_cover_260 (by decide) (fun c260_1 => ?_) (fun c260_1 => ?_)
      · have fc260_1 : j1.toInt = 0 := zt_eq (show j1.toInt = _ from rfl) tI_0 c260_1
        exact j_vret F hr hlocks hK hS S ⟨⟨i_size, i_taken, i_vals, i_room, i_dicts, i_deep, i_open, i_cells, i_points, i_part, i_length, i_knows, i_page, i_text, i_pats, i_fuel, i_fr, i_ink⟩, (kA_r S), (kF_r S)⟩ hP hD d_Mo_cover_297
      · first | have fc260_1 : j1.toInt < 0 := (by have := zt_ne (show j1.toInt = _ from rfl) tI_0 c260_1; omega) | have fc260_1 : 0 < j1.toInt := (by have := zt_ne (show j1.toInt = _ from rfl) tI_0 c260_1; omega) | skip
        refine lv_aload_n hx hb d_Mo_cover_263 rfl (lv_at hl 5 rfl) ?_
        refine va_get (D := D) (ci := 11) (v := .ref (ar 18)) (C := "PageScribeModel") (T := F_Mo) (N := 45) hx hb hts i_Mo hown hK hP 0 mW_0 cl_11 36 (by decide) (hts _ k_6_196) (fun _ h9 => h9) (mg_pixels _ _) d_Mo_cover_264 ?_
        refine lv_bipush (v := 24) hx hb d_Mo_cover_267 (by decide) ?_
        refine lv_iload_n hx hb d_Mo_cover_269 rfl (lv_at hl 6 rfl) ?_
        refine lv_aload_n hx hb d_Mo_cover_270 rfl (lv_at hl 5 rfl) ?_
        refine va_get (D := D) (ci := 11) (v := .int (f_columns S)) (C := "PageScribeModel") (T := F_Mo) (N := 45) hx hb hts i_Mo hown hK hP 0 mW_0 cl_11 34 (by decide) (hts _ k_6_194) (fun _ h9 => h9) (mg_columns _ _) d_Mo_cover_271 ?_
        refine lv_idiv hx hb d_Mo_cover_274 (zt_n0 rfl (by omega)) ?_
        refine lv_topi (fun x7 ex7 => ?_)
        try have fx7 : x7.toInt = p0.toInt / (f_columns S).toInt := by rw [ex7]; exact zt_div (show p0.toInt = _ from rfl) (show (f_columns S).toInt = _ from rfl) (by omega) (by omega)
        have bx7 : 0 ≤ x7.toInt ∧ x7.toInt ≤ 15 := by rw [fx7]; exact px_div h1.1 (by omega) (by omega) h1.2
        refine lv_imul hx hb d_Mo_cover_275 ?_
        refine lv_topi (fun x8 ex8 => ?_)
        have fx8 : x8.toInt = (24 * x7.toInt) := by rw [ex8]; exact (zt_mul tI_24 (show x7.toInt = _ from rfl) rfl (by omega) (by omega)).trans (by omega)
        refine lv_iload_n hx hb d_Mo_cover_276 rfl (lv_at hl 6 rfl) ?_
        refine lv_aload_n hx hb d_Mo_cover_277 rfl (lv_at hl 5 rfl) ?_
        refine va_get (D := D) (ci := 11) (v := .int (f_columns S)) (C := "PageScribeModel") (T := F_Mo) (N := 45) hx hb hts i_Mo hown hK hP 0 mW_0 cl_11 34 (by decide) (hts _ k_6_194) (fun _ h9 => h9) (mg_columns _ _) d_Mo_cover_278 ?_
        refine lv_irem hx hb d_Mo_cover_281 (zt_n0 rfl (by omega)) ?_
        refine lv_topi (fun x9 ex9 => ?_)
        try have fx9 : x9.toInt = p0.toInt % (f_columns S).toInt := by rw [ex9]; exact zt_rem (show p0.toInt = _ from rfl) (show (f_columns S).toInt = _ from rfl) (by omega) (by omega)
        have bx9 : 0 ≤ x9.toInt ∧ x9.toInt ≤ 23 := by rw [fx9]; exact px_mod (by omega) (by omega)
        refine lv_iadd hx hb d_Mo_cover_282 ?_
        refine lv_topi (fun x10 ex10 => ?_)
        have fx10 : x10.toInt = (24 * x7.toInt + x9.toInt) := by rw [ex10]; exact (zt_add fx8 (show x9.toInt = _ from rfl) (by omega) (by omega)).trans (by omega)
        refine lv_ldcwf (v := 1097859072) hx hb hown (hts _ k_8_106) d_Mo_cover_283 ?_
        refine lv_aload_n hx hb d_Mo_cover_286 rfl (lv_at hl 5 rfl) ?_
        refine va_get (D := D) (ci := 11) (v := .float (f_gray S)) (C := "PageScribeModel") (T := F_Mo) (N := 45) hx hb hts i_Mo hown hK hP 0 mW_0 cl_11 37 (by decide) (hts _ k_6_197) (fun _ h9 => h9) (mg_gray _ _) d_Mo_cover_287 ?_
        have nf1 := zf_mul15 i_ink.1
        refine lv_fmul hx hb d_Mo_cover_290 (zf_N nf1) ?_
        refine lv_ldcwf (v := 1056964608) hx hb hown (hts _ k_8_107) d_Mo_cover_291 ?_
        have nf2 := zf_add05 nf1
        refine lv_fadd hx hb d_Mo_cover_294 (zf_N nf2) ?_
        refine lv_f2i hx hb d_Mo_cover_295 ?_
        refine lv_topi (fun x11 ex11 => ?_)
        refine va_iast hx hb hK hP hD hS 19 0 (ma_pixels _ _ _ _) rfl (zt_in fx10 (by omega) (by omega)) d_Mo_cover_296 (fun H locs hP hD hS => ?_)
        rw [ms_pixels] at hP hD
        rw [zt_ix fx10] at hP hD
        have hP : va_P D classes (mW T h0 ar ((S.1, S.2.1, S.2.2.1, S.2.2.2.1, ((f_steps S), (f_failure S), (f_columns S), (f_rows S), (upd (a_pixels S) ((24 * x7.toInt + x9.toInt).toNat) x11), (f_gray S), (a_across S), (a_along S)), S.2.2.2.2.2) : MS)) H := hP
        have hD : va_D A (mW T h0 ar ((S.1, S.2.1, S.2.2.1, S.2.2.2.1, ((f_steps S), (f_failure S), (f_columns S), (f_rows S), (upd (a_pixels S) ((24 * x7.toInt + x9.toInt).toNat) x11), (f_gray S), (a_across S), (a_along S)), S.2.2.2.2.2) : MS)) := hD
        exact j_vret F hr hlocks hK hS ((S.1, S.2.1, S.2.2.1, S.2.2.2.1, ((f_steps S), (f_failure S), (f_columns S), (f_rows S), (upd (a_pixels S) ((24 * x7.toInt + x9.toInt).toNat) x11), (f_gray S), (a_across S), (a_along S)), S.2.2.2.2.2) : MS) ⟨⟨i_size, i_taken, i_vals, i_room, i_dicts, i_deep, i_open, i_cells, i_points, i_part, i_length, i_knows, i_page, i_text, i_pats, i_fuel, i_fr, i_ink⟩, (kA_r S), (kF_r S)⟩ hP hD d_Mo_cover_297
    · refine lv_iload_n hx hb d_Mo_cover_221 rfl (lv_at hl 7 rfl) ?_
      refine lv_if_eq (tgt := 244) hx hb d_Mo_cover_222 (by decide) (fun c222_1 => ?_) (fun c222_1 => ?_)
      · have fc222_1 : p1.toInt = 0 := zt_eq (show p1.toInt = _ from rfl) tI_0 c222_1
        refine lv_iload hx hb d_Mo_cover_244 (lv_at hl 2 rfl) ?_
        refine lv_iload hx hb d_Mo_cover_246 (lv_at hl 1 rfl) ?_
        refine lv_icmp_eq (tgt := 255) hx hb d_Mo_cover_248 (by decide) (fun c248_1 => ?_) (fun c248_1 => ?_)
        · have fc248_1 : a.toInt = b.toInt := zt_eq (show a.toInt = _ from rfl) (show b.toInt = _ from rfl) c248_1
          refine lv_iconst (v := 0) hx hb d_Mo_cover_255 (by decide) ?_
          exact key1 (0 : Int32) _ _ _ ⟨(show (0 : Int32).toInt = 0 ∨ (0 : Int32).toInt = 1 by have := tI_0; omega), hP, hD, hS, lv_sub hl [0, 1, 2, 3, 4, 5, 6, 7] rfl⟩
        · first | have fc248_1 : a.toInt < b.toInt := (by have := zt_ne (show a.toInt = _ from rfl) (show b.toInt = _ from rfl) c248_1; omega) | have fc248_1 : b.toInt < a.toInt := (by have := zt_ne (show a.toInt = _ from rfl) (show b.toInt = _ from rfl) c248_1; omega) | skip
          refine lv_iconst (v := 1) hx hb d_Mo_cover_251 (by decide) ?_
          refine lv_goto (tgt := 256) hx hb d_Mo_cover_252 (by decide) ?_
          exact key1 (1 : Int32) _ _ _ ⟨(show (1 : Int32).toInt = 0 ∨ (1 : Int32).toInt = 1 by have := tI_1; omega), hP, hD, hS, lv_sub hl [0, 1, 2, 3, 4, 5, 6, 7] rfl⟩
      · first | have fc222_1 : p1.toInt < 0 := (by have := zt_ne (show p1.toInt = _ from rfl) tI_0 c222_1; omega) | have fc222_1 : 0 < p1.toInt := (by have := zt_ne (show p1.toInt = _ from rfl) tI_0 c222_1; omega) | skip
        refine lv_iload hx hb d_Mo_cover_225 (lv_at hl 2 rfl) ?_
        refine lv_iload hx hb d_Mo_cover_227 (lv_at hl 1 rfl) ?_
        refine lv_iadd hx hb d_Mo_cover_229 ?_
        refine lv_topi (fun x12 ex12 => ?_)
        have fx12 : x12.toInt = (a.toInt + b.toInt) := by rw [ex12]; exact (zt_add (show a.toInt = _ from rfl) (show b.toInt = _ from rfl) (by omega) (by omega)).trans (by omega)
        refine lv_iconst (v := 2) hx hb d_Mo_cover_230 (by decide) ?_
        refine lv_irem hx hb d_Mo_cover_231 (zt_n0 tI_2 (by omega)) ?_
        refine lv_topi (fun x13 ex13 => ?_)
        try have fx13 : x13.toInt = (a.toInt + b.toInt) % 2 := by rw [ex13]; exact zt_rem fx12 tI_2 (by omega) (by omega)
        refine lv_iconst (v := 1) hx hb d_Mo_cover_232 (by decide) ?_
        refine lv_icmp_ne (tgt := 240) hx hb d_Mo_cover_233 (by decide) (fun c233_1 => ?_) (fun c233_1 => ?_)
        · first | have fc233_1 : x13.toInt < 1 := (by have := zt_ne (show x13.toInt = _ from rfl) tI_1 c233_1; omega) | have fc233_1 : 1 < x13.toInt := (by have := zt_ne (show x13.toInt = _ from rfl) tI_1 c233_1; omega) | skip
          refine lv_iconst (v := 0) hx hb d_Mo_cover_240 (by decide) ?_
          refine lv_goto (tgt := 256) hx hb d_Mo_cover_241 (by decide) ?_
          exact key1 (0 : Int32) _ _ _ ⟨(show (0 : Int32).toInt = 0 ∨ (0 : Int32).toInt = 1 by have := tI_0; omega), hP, hD, hS, lv_sub hl [0, 1, 2, 3, 4, 5, 6, 7] rfl⟩
        · have fc233_1 : x13.toInt = 1 := zt_eq (show x13.toInt = _ from rfl) tI_1 c233_1
          refine lv_iconst (v := 1) hx hb d_Mo_cover_236 (by decide) ?_
          refine lv_goto (tgt := 256) hx hb d_Mo_cover_237 (by decide) ?_
          exact key1 (1 : Int32) _ _ _ ⟨(show (1 : Int32).toInt = 0 ∨ (1 : Int32).toInt = 1 by have := tI_1; omega), hP, hD, hS, lv_sub hl [0, 1, 2, 3, 4, 5, 6, 7] rfl⟩
  · have fc40_1 : i.toInt < (f_points S).toInt := Int.not_le.mp (zt_nle (show (f_points S).toInt = _ from rfl) (show i.toInt = _ from rfl) c40_1)
    refine j_joinH (α := Int32) (fun x H locs ls => (0 ≤ x.toInt ∧ x.toInt ≤ 29) ∧ va_P D classes (mW T h0 ar S) H ∧ va_D A (mW T h0 ar S) ∧ va_S A s.heap H locs ∧ lv_has ls 13 [(9, .int i), (8, .int b), (7, .int a), (5, .double x6), (3, .double x3), (0, .ref h0), (1, .int p0), (2, .int p1)]) (fun x ls => F0 m 87 ls (.int x :: [])) (fun x H locs ls hI9 => ?_) (fun key2 => ?_)
    · obtain ⟨j2, rfl⟩ : ∃ z, z = x := ⟨_, rfl⟩
      obtain ⟨hj2, hP, hD, hS, hl⟩ := hI9
      have hj2 : 0 ≤ j2.toInt ∧ j2.toInt ≤ 29 := hj2
      have hP : va_P D classes (mW T h0 ar S) H := hP
      have hD : va_D A (mW T h0 ar S) := hD
      have hl : lv_has ls 13 [(9, .int i), (8, .int b), (7, .int a), (5, .double x6), (3, .double x3), (0, .ref h0), (1, .int p0), (2, .int p1)] := hl
      refine lv_istore (lv' := [(10, .int j2), (9, .int i), (8, .int b), (7, .int a), (5, .double x6), (3, .double x3), (0, .ref h0), (1, .int p0), (2, .int p1)]) hx hb d_Mo_cover_87 hl (by decide) rfl (fun ls hl => ?_)
      refine lv_aload_n hx hb d_Mo_cover_89 rfl (lv_at hl 6 rfl) ?_
      refine va_get (D := D) (ci := 11) (v := .ref (ar 19)) (C := "PageScribeModel") (T := F_Mo) (N := 45) hx hb hts i_Mo hown hK hP 0 mW_0 cl_11 38 (by decide) (hts _ k_6_198) (fun _ h9 => h9) (mg_across _ _) d_Mo_cover_90 ?_
      refine lv_iload hx hb d_Mo_cover_93 (lv_at hl 0 rfl) ?_
      refine va_dald hx hb hK hP 20 3 (ma_across _ _ _ _) rfl (zt_in (show j2.toInt = _ from rfl) (by omega) (by omega)) d_Mo_cover_95 ?_
      refine lv_topd (fun x14 ex14 => ?_)
      have gx14 : x14 = (a_across S) j2.toInt.toNat := ex14.trans (congrArg _ (zt_ix (show j2.toInt = _ from rfl)))
      have mx14 : dM 1043 x14 := by rw [gx14]; exact dM_pt (i_ink.2 (j2.toInt.toNat) (by omega)).1
      have dx14 : dF x14 := dM_F mx14 (by decide)
      refine lv_aload_n hx hb d_Mo_cover_96 rfl (lv_at hl 6 rfl) ?_
      refine va_get (D := D) (ci := 11) (v := .ref (ar 19)) (C := "PageScribeModel") (T := F_Mo) (N := 45) hx hb hts i_Mo hown hK hP 0 mW_0 cl_11 38 (by decide) (hts _ k_6_198) (fun _ h9 => h9) (mg_across _ _) d_Mo_cover_97 ?_
      refine lv_iload hx hb d_Mo_cover_100 (lv_at hl 1 rfl) ?_
      refine va_dald hx hb hK hP 20 3 (ma_across _ _ _ _) rfl (zt_in (show i.toInt = _ from rfl) (by omega) (by omega)) d_Mo_cover_102 ?_
      refine lv_topd (fun x15 ex15 => ?_)
      have gx15 : x15 = (a_across S) i.toInt.toNat := ex15.trans (congrArg _ (zt_ix (show i.toInt = _ from rfl)))
      have mx15 : dM 1043 x15 := by rw [gx15]; exact dM_pt (i_ink.2 (i.toInt.toNat) (by omega)).1
      have dx15 : dF x15 := dM_F mx15 (by decide)
      have m103_2 : dM 1045 (FP.dsub x14 x15) := dM_sub (K := 1043) (dM_le mx14 (by decide)) (dM_le mx15 (by decide)) (by decide)
      refine lv_dsub hx hb d_Mo_cover_103 (vf_N (dF_N (dM_F m103_2 (by decide)))) ?_
      refine lv_topd (fun x16 ex16 => ?_)
      rw [show FP.dsub x14 x15 = x16 from ex16.symm] at m103_2
      have dx16 : dF x16 := dM_F m103_2 (by decide)
      refine lv_dload hx hb d_Mo_cover_104 (lv_at hl 4 rfl) ?_
      refine lv_aload_n hx hb d_Mo_cover_106 rfl (lv_at hl 6 rfl) ?_
      refine va_get (D := D) (ci := 11) (v := .ref (ar 20)) (C := "PageScribeModel") (T := F_Mo) (N := 45) hx hb hts i_Mo hown hK hP 0 mW_0 cl_11 39 (by decide) (hts _ k_6_199) (fun _ h9 => h9) (mg_along _ _) d_Mo_cover_107 ?_
      refine lv_iload hx hb d_Mo_cover_110 (lv_at hl 1 rfl) ?_
      refine va_dald hx hb hK hP 21 3 (ma_along _ _ _ _) rfl (zt_in (show i.toInt = _ from rfl) (by omega) (by omega)) d_Mo_cover_112 ?_
      refine lv_topd (fun x17 ex17 => ?_)
      have gx17 : x17 = (a_along S) i.toInt.toNat := ex17.trans (congrArg _ (zt_ix (show i.toInt = _ from rfl)))
      have mx17 : dM 1043 x17 := by rw [gx17]; exact dM_pt (i_ink.2 (i.toInt.toNat) (by omega)).2
      have dx17 : dF x17 := dM_F mx17 (by decide)
      have m113_3 : dM 1060 (FP.dsub x6 x17) := dM_sub (K := 1058) (dM_le m22_1 (by decide)) (dM_le mx17 (by decide)) (by decide)
      refine lv_dsub hx hb d_Mo_cover_113 (vf_N (dF_N (dM_F m113_3 (by decide)))) ?_
      refine lv_topd (fun x18 ex18 => ?_)
      rw [show FP.dsub x6 x17 = x18 from ex18.symm] at m113_3
      have dx18 : dF x18 := dM_F m113_3 (by decide)
      have m114_4 : dM 1083 (FP.dmul x16 x18) := dM_mul (Ka := 1045) (Kb := 1060) m103_2 m113_3 (by decide) (by decide)
      refine lv_dmul hx hb d_Mo_cover_114 (vf_N (dF_N (dM_F m114_4 (by decide)))) ?_
      refine lv_topd (fun x19 ex19 => ?_)
      rw [show FP.dmul x16 x18 = x19 from ex19.symm] at m114_4
      have dx19 : dF x19 := dM_F m114_4 (by decide)
      refine lv_dload_n hx hb d_Mo_cover_115 rfl (lv_at hl 5 rfl) ?_
      refine lv_aload_n hx hb d_Mo_cover_116 rfl (lv_at hl 6 rfl) ?_
      refine va_get (D := D) (ci := 11) (v := .ref (ar 19)) (C := "PageScribeModel") (T := F_Mo) (N := 45) hx hb hts i_Mo hown hK hP 0 mW_0 cl_11 38 (by decide) (hts _ k_6_198) (fun _ h9 => h9) (mg_across _ _) d_Mo_cover_117 ?_
      refine lv_iload hx hb d_Mo_cover_120 (lv_at hl 1 rfl) ?_
      refine va_dald hx hb hK hP 20 3 (ma_across _ _ _ _) rfl (zt_in (show i.toInt = _ from rfl) (by omega) (by omega)) d_Mo_cover_122 ?_
      refine lv_topd (fun x20 ex20 => ?_)
      have gx20 : x20 = (a_across S) i.toInt.toNat := ex20.trans (congrArg _ (zt_ix (show i.toInt = _ from rfl)))
      have mx20 : dM 1043 x20 := by rw [gx20]; exact dM_pt (i_ink.2 (i.toInt.toNat) (by omega)).1
      have dx20 : dF x20 := dM_F mx20 (by decide)
      have m123_5 : dM 1060 (FP.dsub x3 x20) := dM_sub (K := 1058) (dM_le m10_0 (by decide)) (dM_le mx20 (by decide)) (by decide)
      refine lv_dsub hx hb d_Mo_cover_123 (vf_N (dF_N (dM_F m123_5 (by decide)))) ?_
      refine lv_topd (fun x21 ex21 => ?_)
      rw [show FP.dsub x3 x20 = x21 from ex21.symm] at m123_5
      have dx21 : dF x21 := dM_F m123_5 (by decide)
      refine lv_aload_n hx hb d_Mo_cover_124 rfl (lv_at hl 6 rfl) ?_
      refine va_get (D := D) (ci := 11) (v := .ref (ar 20)) (C := "PageScribeModel") (T := F_Mo) (N := 45) hx hb hts i_Mo hown hK hP 0 mW_0 cl_11 39 (by decide) (hts _ k_6_199) (fun _ h9 => h9) (mg_along _ _) d_Mo_cover_125 ?_
      refine lv_iload hx hb d_Mo_cover_128 (lv_at hl 0 rfl) ?_
      refine va_dald hx hb hK hP 21 3 (ma_along _ _ _ _) rfl (zt_in (show j2.toInt = _ from rfl) (by omega) (by omega)) d_Mo_cover_130 ?_
      refine lv_topd (fun x22 ex22 => ?_)
      have gx22 : x22 = (a_along S) j2.toInt.toNat := ex22.trans (congrArg _ (zt_ix (show j2.toInt = _ from rfl)))
      have mx22 : dM 1043 x22 := by rw [gx22]; exact dM_pt (i_ink.2 (j2.toInt.toNat) (by omega)).2
      have dx22 : dF x22 := dM_F mx22 (by decide)
      refine lv_aload_n hx hb d_Mo_cover_131 rfl (lv_at hl 6 rfl) ?_
      refine va_get (D := D) (ci := 11) (v := .ref (ar 20)) (C := "PageScribeModel") (T := F_Mo) (N := 45) hx hb hts i_Mo hown hK hP 0 mW_0 cl_11 39 (by decide) (hts _ k_6_199) (fun _ h9 => h9) (mg_along _ _) d_Mo_cover_132 ?_
      refine lv_iload hx hb d_Mo_cover_135 (lv_at hl 1 rfl) ?_
      refine va_dald hx hb hK hP 21 3 (ma_along _ _ _ _) rfl (zt_in (show i.toInt = _ from rfl) (by omega) (by omega)) d_Mo_cover_137 ?_
      refine lv_topd (fun x23 ex23 => ?_)
      have gx23 : x23 = (a_along S) i.toInt.toNat := ex23.trans (congrArg _ (zt_ix (show i.toInt = _ from rfl)))
      have mx23 : dM 1043 x23 := by rw [gx23]; exact dM_pt (i_ink.2 (i.toInt.toNat) (by omega)).2
      have dx23 : dF x23 := dM_F mx23 (by decide)
      have m138_6 : dM 1045 (FP.dsub x22 x23) := dM_sub (K := 1043) (dM_le mx22 (by decide)) (dM_le mx23 (by decide)) (by decide)
      refine lv_dsub hx hb d_Mo_cover_138 (vf_N (dF_N (dM_F m138_6 (by decide)))) ?_
      refine lv_topd (fun x24 ex24 => ?_)
      rw [show FP.dsub x22 x23 = x24 from ex24.symm] at m138_6
      have dx24 : dF x24 := dM_F m138_6 (by decide)
      have m139_7 : dM 1083 (FP.dmul x21 x24) := dM_mul (Ka := 1060) (Kb := 1045) m123_5 m138_6 (by decide) (by decide)
      refine lv_dmul hx hb d_Mo_cover_139 (vf_N (dF_N (dM_F m139_7 (by decide)))) ?_
      refine lv_topd (fun x25 ex25 => ?_)
      rw [show FP.dmul x21 x24 = x25 from ex25.symm] at m139_7
      have dx25 : dF x25 := dM_F m139_7 (by decide)
      have m140_8 : dM 1085 (FP.dsub x19 x25) := dM_sub (K := 1083) (dM_le m114_4 (by decide)) (dM_le m139_7 (by decide)) (by decide)
      refine lv_dsub hx hb d_Mo_cover_140 (vf_N (dF_N (dM_F m140_8 (by decide)))) ?_
      refine lv_topd (fun x26 ex26 => ?_)
      rw [show FP.dsub x19 x25 = x26 from ex26.symm] at m140_8
      have dx26 : dF x26 := dM_F m140_8 (by decide)
      refine lv_dstore (lv' := [(11, .double x26), (10, .int j2), (9, .int i), (8, .int b), (7, .int a), (5, .double x6), (3, .double x3), (0, .ref h0), (1, .int p0), (2, .int p1)]) hx hb d_Mo_cover_141 hl (by decide) rfl (fun ls hl => ?_)
      refine lv_aload_n hx hb d_Mo_cover_143 rfl (lv_at hl 7 rfl) ?_
      refine va_get (D := D) (ci := 11) (v := .ref (ar 20)) (C := "PageScribeModel") (T := F_Mo) (N := 45) hx hb hts i_Mo hown hK hP 0 mW_0 cl_11 39 (by decide) (hts _ k_6_199) (fun _ h9 => h9) (mg_along _ _) d_Mo_cover_144 ?_
      refine lv_iload hx hb d_Mo_cover_147 (lv_at hl 2 rfl) ?_
      refine va_dald hx hb hK hP 21 3 (ma_along _ _ _ _) rfl (zt_in (show i.toInt = _ from rfl) (by omega) (by omega)) d_Mo_cover_149 ?_
      refine lv_topd (fun x27 ex27 => ?_)
      have gx27 : x27 = (a_along S) i.toInt.toNat := ex27.trans (congrArg _ (zt_ix (show i.toInt = _ from rfl)))
      have mx27 : dM 1043 x27 := by rw [gx27]; exact dM_pt (i_ink.2 (i.toInt.toNat) (by omega)).2
      have dx27 : dF x27 := dM_F mx27 (by decide)
      refine lv_dload hx hb d_Mo_cover_150 (lv_at hl 5 rfl) ?_
      refine lv_dcmp hx hb d_Mo_cover_152 ?_
      refine lv_topi (fun x28 ex28 => ?_)
      refine lv_if_gt (tgt := 179) hx hb d_Mo_cover_153 (by decide) (fun c153_1 => ?_) (fun c153_1 => ?_)
      · have fc153_1 : 0 < x28.toInt := zt_lt tI_0 (show x28.toInt = _ from rfl) c153_1
        have vc153_1 : dk x27 > dk x6 := by have := zr_dcmp (a := x27) (b := x6) ex28 (show dN x27 by omega) (show dN x6 by omega); have := zt_lt tI_0 (show x28.toInt = _ from rfl) c153_1; omega
        refine lv_aload_n hx hb d_Mo_cover_179 rfl (lv_at hl 7 rfl) ?_
        refine va_get (D := D) (ci := 11) (v := .ref (ar 20)) (C := "PageScribeModel") (T := F_Mo) (N := 45) hx hb hts i_Mo hown hK hP 0 mW_0 cl_11 39 (by decide) (hts _ k_6_199) (fun _ h9 => h9) (mg_along _ _) d_Mo_cover_180 ?_
        refine lv_iload hx hb d_Mo_cover_183 (lv_at hl 1 rfl) ?_
        refine va_dald hx hb hK hP 21 3 (ma_along _ _ _ _) rfl (zt_in (show j2.toInt = _ from rfl) (by omega) (by omega)) d_Mo_cover_185 ?_
        refine lv_topd (fun x29 ex29 => ?_)
        have gx29 : x29 = (a_along S) j2.toInt.toNat := ex29.trans (congrArg _ (zt_ix (show j2.toInt = _ from rfl)))
        have mx29 : dM 1043 x29 := by rw [gx29]; exact dM_pt (i_ink.2 (j2.toInt.toNat) (by omega)).2
        have dx29 : dF x29 := dM_F mx29 (by decide)
        refine lv_dload hx hb d_Mo_cover_186 (lv_at hl 5 rfl) ?_
        refine lv_dcmp hx hb d_Mo_cover_188 ?_
        refine lv_topi (fun x30 ex30 => ?_)
        refine lv_if_gt (tgt := 215) hx hb d_Mo_cover_189 (by decide) (fun c189_1 => ?_) (fun c189_1 => ?_)
        · have fc189_1 : 0 < x30.toInt := zt_lt tI_0 (show x30.toInt = _ from rfl) c189_1
          have vc189_1 : dk x29 > dk x6 := by have := zr_dcmp (a := x29) (b := x6) ex30 (show dN x29 by omega) (show dN x6 by omega); have := zt_lt tI_0 (show x30.toInt = _ from rfl) c189_1; omega
          refine lv_iinc (v := (i + 1)) (lv' := [(9, .int (i + 1)), (11, .double x26), (10, .int j2), (8, .int b), (7, .int a), (5, .double x6), (3, .double x3), (0, .ref h0), (1, .int p0), (2, .int p1)]) hx hb d_Mo_cover_215 hl (k := 2) rfl (by first | rfl | decide) (by decide) rfl (fun ls hl => ?_)
          obtain ⟨x31, ex31⟩ : ∃ z, z = (i + 1) := ⟨_, rfl⟩
          rw [← ex31] at hl
          have fx31 : x31.toInt = (i.toInt + 1) := by rw [ex31]; exact (zt_add (show i.toInt = _ from rfl) tI_1 (by omega) (by omega)).trans (by omega)
          have hl : lv_has ls 13 [(9, .int x31), (11, .double x26), (10, .int j2), (8, .int b), (7, .int a), (5, .double x6), (3, .double x3), (0, .ref h0), (1, .int p0), (2, .int p1)] := hl
          refine lv_goto (tgt := 34) hx hb d_Mo_cover_218 (by decide) ?_
          exact ih (k - 1) (a, b, x31) _ _ _ (by omega) ⟨(show 0 ≤ x31.toInt ∧ x31.toInt ≤ (f_points S).toInt ∧ (f_points S).toInt ≤ x31.toInt + (((k - 1) : Nat) : Int) ∧ 0 ≤ a.toInt ∧ a.toInt ≤ x31.toInt ∧ 0 ≤ b.toInt ∧ b.toInt ≤ x31.toInt by omega), hP, hD, hS, lv_sub hl [0, 3, 4, 5, 6, 7, 8, 9] rfl⟩
        · have fc189_1 : x30.toInt ≤ 0 := Int.not_lt.mp (zt_nlt tI_0 (show x30.toInt = _ from rfl) c189_1)
          have vc189_1 : dk x29 ≤ dk x6 := by have := zr_dcmp (a := x29) (b := x6) ex30 (show dN x29 by omega) (show dN x6 by omega); have := Int.not_lt.mp (zt_nlt tI_0 (show x30.toInt = _ from rfl) c189_1); omega
          refine lv_dload hx hb d_Mo_cover_192 (lv_at hl 5 rfl) ?_
          refine lv_aload_n hx hb d_Mo_cover_194 rfl (lv_at hl 7 rfl) ?_
          refine va_get (D := D) (ci := 11) (v := .ref (ar 20)) (C := "PageScribeModel") (T := F_Mo) (N := 45) hx hb hts i_Mo hown hK hP 0 mW_0 cl_11 39 (by decide) (hts _ k_6_199) (fun _ h9 => h9) (mg_along _ _) d_Mo_cover_195 ?_
          refine lv_iload hx hb d_Mo_cover_198 (lv_at hl 2 rfl) ?_
          refine va_dald hx hb hK hP 21 3 (ma_along _ _ _ _) rfl (zt_in (show i.toInt = _ from rfl) (by omega) (by omega)) d_Mo_cover_200 ?_
          refine lv_topd (fun x32 ex32 => ?_)
          have gx32 : x32 = (a_along S) i.toInt.toNat := ex32.trans (congrArg _ (zt_ix (show i.toInt = _ from rfl)))
          have mx32 : dM 1043 x32 := by rw [gx32]; exact dM_pt (i_ink.2 (i.toInt.toNat) (by omega)).2
          have dx32 : dF x32 := dM_F mx32 (by decide)
          refine lv_dcmp hx hb d_Mo_cover_201 ?_
          refine lv_topi (fun x33 ex33 => ?_)
          refine lv_if_ge (tgt := 215) hx hb d_Mo_cover_202 (by decide) (fun c202_1 => ?_) (fun c202_1 => ?_)
          · have fc202_1 : 0 ≤ x33.toInt := zt_le tI_0 (show x33.toInt = _ from rfl) c202_1
            have vc202_1 : dk x6 ≥ dk x32 := by have := zr_dcmp (a := x6) (b := x32) ex33 (show dN x6 by omega) (show dN x32 by omega); have := zt_le tI_0 (show x33.toInt = _ from rfl) c202_1; omega
            refine lv_iinc (v := (i + 1)) (lv' := [(9, .int (i + 1)), (11, .double x26), (10, .int j2), (8, .int b), (7, .int a), (5, .double x6), (3, .double x3), (0, .ref h0), (1, .int p0), (2, .int p1)]) hx hb d_Mo_cover_215 hl (k := 2) rfl (by first | rfl | decide) (by decide) rfl (fun ls hl => ?_)
            obtain ⟨x34, ex34⟩ : ∃ z, z = (i + 1) := ⟨_, rfl⟩
            rw [← ex34] at hl
            have fx34 : x34.toInt = (i.toInt + 1) := by rw [ex34]; exact (zt_add (show i.toInt = _ from rfl) tI_1 (by omega) (by omega)).trans (by omega)
            have hl : lv_has ls 13 [(9, .int x34), (11, .double x26), (10, .int j2), (8, .int b), (7, .int a), (5, .double x6), (3, .double x3), (0, .ref h0), (1, .int p0), (2, .int p1)] := hl
            refine lv_goto (tgt := 34) hx hb d_Mo_cover_218 (by decide) ?_
            exact ih (k - 1) (a, b, x34) _ _ _ (by omega) ⟨(show 0 ≤ x34.toInt ∧ x34.toInt ≤ (f_points S).toInt ∧ (f_points S).toInt ≤ x34.toInt + (((k - 1) : Nat) : Int) ∧ 0 ≤ a.toInt ∧ a.toInt ≤ x34.toInt ∧ 0 ≤ b.toInt ∧ b.toInt ≤ x34.toInt by omega), hP, hD, hS, lv_sub hl [0, 3, 4, 5, 6, 7, 8, 9] rfl⟩
          · have fc202_1 : x33.toInt < 0 := Int.not_le.mp (zt_nle tI_0 (show x33.toInt = _ from rfl) c202_1)
            have vc202_1 : dk x6 < dk x32 := by have := zr_dcmp (a := x6) (b := x32) ex33 (show dN x6 by omega) (show dN x32 by omega); have := Int.not_le.mp (zt_nle tI_0 (show x33.toInt = _ from rfl) c202_1); omega
            refine lv_dload hx hb d_Mo_cover_205 (lv_at hl 0 rfl) ?_
            refine lv_dconst0 hx hb d_Mo_cover_207 ?_
            have := tD_0
            refine lv_dcmp hx hb d_Mo_cover_208 ?_
            refine lv_topi (fun x35 ex35 => ?_)
            refine lv_if_ge (tgt := 215) hx hb d_Mo_cover_209 (by decide) (fun c209_1 => ?_) (fun c209_1 => ?_)
            · have fc209_1 : 0 ≤ x35.toInt := zt_le tI_0 (show x35.toInt = _ from rfl) c209_1
              have vc209_1 : dk x26 ≥ dk 0 := by have := zr_dcmp (a := x26) (b := 0) ex35 (show dN x26 by omega) (show dN 0 by omega); have := zt_le tI_0 (show x35.toInt = _ from rfl) c209_1; omega
              refine lv_iinc (v := (i + 1)) (lv' := [(9, .int (i + 1)), (11, .double x26), (10, .int j2), (8, .int b), (7, .int a), (5, .double x6), (3, .double x3), (0, .ref h0), (1, .int p0), (2, .int p1)]) hx hb d_Mo_cover_215 hl (k := 2) rfl (by first | rfl | decide) (by decide) rfl (fun ls hl => ?_)
              obtain ⟨x36, ex36⟩ : ∃ z, z = (i + 1) := ⟨_, rfl⟩
              rw [← ex36] at hl
              have fx36 : x36.toInt = (i.toInt + 1) := by rw [ex36]; exact (zt_add (show i.toInt = _ from rfl) tI_1 (by omega) (by omega)).trans (by omega)
              have hl : lv_has ls 13 [(9, .int x36), (11, .double x26), (10, .int j2), (8, .int b), (7, .int a), (5, .double x6), (3, .double x3), (0, .ref h0), (1, .int p0), (2, .int p1)] := hl
              refine lv_goto (tgt := 34) hx hb d_Mo_cover_218 (by decide) ?_
              exact ih (k - 1) (a, b, x36) _ _ _ (by omega) ⟨(show 0 ≤ x36.toInt ∧ x36.toInt ≤ (f_points S).toInt ∧ (f_points S).toInt ≤ x36.toInt + (((k - 1) : Nat) : Int) ∧ 0 ≤ a.toInt ∧ a.toInt ≤ x36.toInt ∧ 0 ≤ b.toInt ∧ b.toInt ≤ x36.toInt by omega), hP, hD, hS, lv_sub hl [0, 3, 4, 5, 6, 7, 8, 9] rfl⟩
            · have fc209_1 : x35.toInt < 0 := Int.not_le.mp (zt_nle tI_0 (show x35.toInt = _ from rfl) c209_1)
              have vc209_1 : dk x26 < dk 0 := by have := zr_dcmp (a := x26) (b := 0) ex35 (show dN x26 by omega) (show dN 0 by omega); have := Int.not_le.mp (zt_nle tI_0 (show x35.toInt = _ from rfl) c209_1); omega
              refine lv_iinc (v := (b + 1)) (lv' := [(8, .int (b + 1)), (11, .double x26), (10, .int j2), (9, .int i), (7, .int a), (5, .double x6), (3, .double x3), (0, .ref h0), (1, .int p0), (2, .int p1)]) hx hb d_Mo_cover_212 hl (k := 3) rfl (by first | rfl | decide) (by decide) rfl (fun ls hl => ?_)
              obtain ⟨x37, ex37⟩ : ∃ z, z = (b + 1) := ⟨_, rfl⟩
              rw [← ex37] at hl
              have fx37 : x37.toInt = (b.toInt + 1) := by rw [ex37]; exact (zt_add (show b.toInt = _ from rfl) tI_1 (by omega) (by omega)).trans (by omega)
              have hl : lv_has ls 13 [(8, .int x37), (11, .double x26), (10, .int j2), (9, .int i), (7, .int a), (5, .double x6), (3, .double x3), (0, .ref h0), (1, .int p0), (2, .int p1)] := hl
              refine lv_iinc (v := (i + 1)) (lv' := [(9, .int (i + 1)), (8, .int x37), (11, .double x26), (10, .int j2), (7, .int a), (5, .double x6), (3, .double x3), (0, .ref h0), (1, .int p0), (2, .int p1)]) hx hb d_Mo_cover_215 hl (k := 3) rfl (by first | rfl | decide) (by decide) rfl (fun ls hl => ?_)
              obtain ⟨x38, ex38⟩ : ∃ z, z = (i + 1) := ⟨_, rfl⟩
              rw [← ex38] at hl
              have fx38 : x38.toInt = (i.toInt + 1) := by rw [ex38]; exact (zt_add (show i.toInt = _ from rfl) tI_1 (by omega) (by omega)).trans (by omega)
              have hl : lv_has ls 13 [(9, .int x38), (8, .int x37), (11, .double x26), (10, .int j2), (7, .int a), (5, .double x6), (3, .double x3), (0, .ref h0), (1, .int p0), (2, .int p1)] := hl
              refine lv_goto (tgt := 34) hx hb d_Mo_cover_218 (by decide) ?_
              exact ih (k - 1) (a, x37, x38) _ _ _ (by omega) ⟨(show 0 ≤ x38.toInt ∧ x38.toInt ≤ (f_points S).toInt ∧ (f_points S).toInt ≤ x38.toInt + (((k - 1) : Nat) : Int) ∧ 0 ≤ a.toInt ∧ a.toInt ≤ x38.toInt ∧ 0 ≤ x37.toInt ∧ x37.toInt ≤ x38.toInt by omega), hP, hD, hS, lv_sub hl [0, 1, 4, 5, 6, 7, 8, 9] rfl⟩
      · have fc153_1 : x28.toInt ≤ 0 := Int.not_lt.mp (zt_nlt tI_0 (show x28.toInt = _ from rfl) c153_1)
        have vc153_1 : dk x27 ≤ dk x6 := by have := zr_dcmp (a := x27) (b := x6) ex28 (show dN x27 by omega) (show dN x6 by omega); have := Int.not_lt.mp (zt_nlt tI_0 (show x28.toInt = _ from rfl) c153_1); omega
        refine lv_dload hx hb d_Mo_cover_156 (lv_at hl 5 rfl) ?_
        refine lv_aload_n hx hb d_Mo_cover_158 rfl (lv_at hl 7 rfl) ?_
        refine va_get (D := D) (ci := 11) (v := .ref (ar 20)) (C := "PageScribeModel") (T := F_Mo) (N := 45) hx hb hts i_Mo hown hK hP 0 mW_0 cl_11 39 (by decide) (hts _ k_6_199) (fun _ h9 => h9) (mg_along _ _) d_Mo_cover_159 ?_
        refine lv_iload hx hb d_Mo_cover_162 (lv_at hl 1 rfl) ?_
        refine va_dald hx hb hK hP 21 3 (ma_along _ _ _ _) rfl (zt_in (show j2.toInt = _ from rfl) (by omega) (by omega)) d_Mo_cover_164 ?_
        refine lv_topd (fun x39 ex39 => ?_)
        have gx39 : x39 = (a_along S) j2.toInt.toNat := ex39.trans (congrArg _ (zt_ix (show j2.toInt = _ from rfl)))
        have mx39 : dM 1043 x39 := by rw [gx39]; exact dM_pt (i_ink.2 (j2.toInt.toNat) (by omega)).2
        have dx39 : dF x39 := dM_F mx39 (by decide)
        refine lv_dcmp hx hb d_Mo_cover_165 ?_
        refine lv_topi (fun x40 ex40 => ?_)
        refine lv_if_ge (tgt := 179) hx hb d_Mo_cover_166 (by decide) (fun c166_1 => ?_) (fun c166_1 => ?_)
        · have fc166_1 : 0 ≤ x40.toInt := zt_le tI_0 (show x40.toInt = _ from rfl) c166_1
          have vc166_1 : dk x6 ≥ dk x39 := by have := zr_dcmp (a := x6) (b := x39) ex40 (show dN x6 by omega) (show dN x39 by omega); have := zt_le tI_0 (show x40.toInt = _ from rfl) c166_1; omega
          refine lv_aload_n hx hb d_Mo_cover_179 rfl (lv_at hl 7 rfl) ?_
          refine va_get (D := D) (ci := 11) (v := .ref (ar 20)) (C := "PageScribeModel") (T := F_Mo) (N := 45) hx hb hts i_Mo hown hK hP 0 mW_0 cl_11 39 (by decide) (hts _ k_6_199) (fun _ h9 => h9) (mg_along _ _) d_Mo_cover_180 ?_
          refine lv_iload hx hb d_Mo_cover_183 (lv_at hl 1 rfl) ?_
          refine va_dald hx hb hK hP 21 3 (ma_along _ _ _ _) rfl (zt_in (show j2.toInt = _ from rfl) (by omega) (by omega)) d_Mo_cover_185 ?_
          refine lv_topd (fun x41 ex41 => ?_)
          have gx41 : x41 = (a_along S) j2.toInt.toNat := ex41.trans (congrArg _ (zt_ix (show j2.toInt = _ from rfl)))
          have mx41 : dM 1043 x41 := by rw [gx41]; exact dM_pt (i_ink.2 (j2.toInt.toNat) (by omega)).2
          have dx41 : dF x41 := dM_F mx41 (by decide)
          refine lv_dload hx hb d_Mo_cover_186 (lv_at hl 5 rfl) ?_
          refine lv_dcmp hx hb d_Mo_cover_188 ?_
          refine lv_topi (fun x42 ex42 => ?_)
          refine lv_if_gt (tgt := 215) hx hb d_Mo_cover_189 (by decide) (fun c189_2 => ?_) (fun c189_2 => ?_)
          · have fc189_2 : 0 < x42.toInt := zt_lt tI_0 (show x42.toInt = _ from rfl) c189_2
            have vc189_2 : dk x41 > dk x6 := by have := zr_dcmp (a := x41) (b := x6) ex42 (show dN x41 by omega) (show dN x6 by omega); have := zt_lt tI_0 (show x42.toInt = _ from rfl) c189_2; omega
            refine lv_iinc (v := (i + 1)) (lv' := [(9, .int (i + 1)), (11, .double x26), (10, .int j2), (8, .int b), (7, .int a), (5, .double x6), (3, .double x3), (0, .ref h0), (1, .int p0), (2, .int p1)]) hx hb d_Mo_cover_215 hl (k := 2) rfl (by first | rfl | decide) (by decide) rfl (fun ls hl => ?_)
            obtain ⟨x43, ex43⟩ : ∃ z, z = (i + 1) := ⟨_, rfl⟩
            rw [← ex43] at hl
            have fx43 : x43.toInt = (i.toInt + 1) := by rw [ex43]; exact (zt_add (show i.toInt = _ from rfl) tI_1 (by omega) (by omega)).trans (by omega)
            have hl : lv_has ls 13 [(9, .int x43), (11, .double x26), (10, .int j2), (8, .int b), (7, .int a), (5, .double x6), (3, .double x3), (0, .ref h0), (1, .int p0), (2, .int p1)] := hl
            refine lv_goto (tgt := 34) hx hb d_Mo_cover_218 (by decide) ?_
            exact ih (k - 1) (a, b, x43) _ _ _ (by omega) ⟨(show 0 ≤ x43.toInt ∧ x43.toInt ≤ (f_points S).toInt ∧ (f_points S).toInt ≤ x43.toInt + (((k - 1) : Nat) : Int) ∧ 0 ≤ a.toInt ∧ a.toInt ≤ x43.toInt ∧ 0 ≤ b.toInt ∧ b.toInt ≤ x43.toInt by omega), hP, hD, hS, lv_sub hl [0, 3, 4, 5, 6, 7, 8, 9] rfl⟩
          · have fc189_2 : x42.toInt ≤ 0 := Int.not_lt.mp (zt_nlt tI_0 (show x42.toInt = _ from rfl) c189_2)
            have vc189_2 : dk x41 ≤ dk x6 := by have := zr_dcmp (a := x41) (b := x6) ex42 (show dN x41 by omega) (show dN x6 by omega); have := Int.not_lt.mp (zt_nlt tI_0 (show x42.toInt = _ from rfl) c189_2); omega
            refine lv_dload hx hb d_Mo_cover_192 (lv_at hl 5 rfl) ?_
            refine lv_aload_n hx hb d_Mo_cover_194 rfl (lv_at hl 7 rfl) ?_
            refine va_get (D := D) (ci := 11) (v := .ref (ar 20)) (C := "PageScribeModel") (T := F_Mo) (N := 45) hx hb hts i_Mo hown hK hP 0 mW_0 cl_11 39 (by decide) (hts _ k_6_199) (fun _ h9 => h9) (mg_along _ _) d_Mo_cover_195 ?_
            refine lv_iload hx hb d_Mo_cover_198 (lv_at hl 2 rfl) ?_
            refine va_dald hx hb hK hP 21 3 (ma_along _ _ _ _) rfl (zt_in (show i.toInt = _ from rfl) (by omega) (by omega)) d_Mo_cover_200 ?_
            refine lv_topd (fun x44 ex44 => ?_)
            have gx44 : x44 = (a_along S) i.toInt.toNat := ex44.trans (congrArg _ (zt_ix (show i.toInt = _ from rfl)))
            have mx44 : dM 1043 x44 := by rw [gx44]; exact dM_pt (i_ink.2 (i.toInt.toNat) (by omega)).2
            have dx44 : dF x44 := dM_F mx44 (by decide)
            refine lv_dcmp hx hb d_Mo_cover_201 ?_
            refine lv_topi (fun x45 ex45 => ?_)
            refine lv_if_ge (tgt := 215) hx hb d_Mo_cover_202 (by decide) (fun c202_2 => ?_) (fun c202_2 => ?_)
            · have fc202_2 : 0 ≤ x45.toInt := zt_le tI_0 (show x45.toInt = _ from rfl) c202_2
              have vc202_2 : dk x6 ≥ dk x44 := by have := zr_dcmp (a := x6) (b := x44) ex45 (show dN x6 by omega) (show dN x44 by omega); have := zt_le tI_0 (show x45.toInt = _ from rfl) c202_2; omega
              refine lv_iinc (v := (i + 1)) (lv' := [(9, .int (i + 1)), (11, .double x26), (10, .int j2), (8, .int b), (7, .int a), (5, .double x6), (3, .double x3), (0, .ref h0), (1, .int p0), (2, .int p1)]) hx hb d_Mo_cover_215 hl (k := 2) rfl (by first | rfl | decide) (by decide) rfl (fun ls hl => ?_)
              obtain ⟨x46, ex46⟩ : ∃ z, z = (i + 1) := ⟨_, rfl⟩
              rw [← ex46] at hl
              have fx46 : x46.toInt = (i.toInt + 1) := by rw [ex46]; exact (zt_add (show i.toInt = _ from rfl) tI_1 (by omega) (by omega)).trans (by omega)
              have hl : lv_has ls 13 [(9, .int x46), (11, .double x26), (10, .int j2), (8, .int b), (7, .int a), (5, .double x6), (3, .double x3), (0, .ref h0), (1, .int p0), (2, .int p1)] := hl
              refine lv_goto (tgt := 34) hx hb d_Mo_cover_218 (by decide) ?_
              exact ih (k - 1) (a, b, x46) _ _ _ (by omega) ⟨(show 0 ≤ x46.toInt ∧ x46.toInt ≤ (f_points S).toInt ∧ (f_points S).toInt ≤ x46.toInt + (((k - 1) : Nat) : Int) ∧ 0 ≤ a.toInt ∧ a.toInt ≤ x46.toInt ∧ 0 ≤ b.toInt ∧ b.toInt ≤ x46.toInt by omega), hP, hD, hS, lv_sub hl [0, 3, 4, 5, 6, 7, 8, 9] rfl⟩
            · have fc202_2 : x45.toInt < 0 := Int.not_le.mp (zt_nle tI_0 (show x45.toInt = _ from rfl) c202_2)
              have vc202_2 : dk x6 < dk x44 := by have := zr_dcmp (a := x6) (b := x44) ex45 (show dN x6 by omega) (show dN x44 by omega); have := Int.not_le.mp (zt_nle tI_0 (show x45.toInt = _ from rfl) c202_2); omega
              refine lv_dload hx hb d_Mo_cover_205 (lv_at hl 0 rfl) ?_
              refine lv_dconst0 hx hb d_Mo_cover_207 ?_
              have := tD_0
              refine lv_dcmp hx hb d_Mo_cover_208 ?_
              refine lv_topi (fun x47 ex47 => ?_)
              refine lv_if_ge (tgt := 215) hx hb d_Mo_cover_209 (by decide) (fun c209_2 => ?_) (fun c209_2 => ?_)
              · have fc209_2 : 0 ≤ x47.toInt := zt_le tI_0 (show x47.toInt = _ from rfl) c209_2
                have vc209_2 : dk x26 ≥ dk 0 := by have := zr_dcmp (a := x26) (b := 0) ex47 (show dN x26 by omega) (show dN 0 by omega); have := zt_le tI_0 (show x47.toInt = _ from rfl) c209_2; omega
                refine lv_iinc (v := (i + 1)) (lv' := [(9, .int (i + 1)), (11, .double x26), (10, .int j2), (8, .int b), (7, .int a), (5, .double x6), (3, .double x3), (0, .ref h0), (1, .int p0), (2, .int p1)]) hx hb d_Mo_cover_215 hl (k := 2) rfl (by first | rfl | decide) (by decide) rfl (fun ls hl => ?_)
                obtain ⟨x48, ex48⟩ : ∃ z, z = (i + 1) := ⟨_, rfl⟩
                rw [← ex48] at hl
                have fx48 : x48.toInt = (i.toInt + 1) := by rw [ex48]; exact (zt_add (show i.toInt = _ from rfl) tI_1 (by omega) (by omega)).trans (by omega)
                have hl : lv_has ls 13 [(9, .int x48), (11, .double x26), (10, .int j2), (8, .int b), (7, .int a), (5, .double x6), (3, .double x3), (0, .ref h0), (1, .int p0), (2, .int p1)] := hl
                refine lv_goto (tgt := 34) hx hb d_Mo_cover_218 (by decide) ?_
                exact ih (k - 1) (a, b, x48) _ _ _ (by omega) ⟨(show 0 ≤ x48.toInt ∧ x48.toInt ≤ (f_points S).toInt ∧ (f_points S).toInt ≤ x48.toInt + (((k - 1) : Nat) : Int) ∧ 0 ≤ a.toInt ∧ a.toInt ≤ x48.toInt ∧ 0 ≤ b.toInt ∧ b.toInt ≤ x48.toInt by omega), hP, hD, hS, lv_sub hl [0, 3, 4, 5, 6, 7, 8, 9] rfl⟩
              · have fc209_2 : x47.toInt < 0 := Int.not_le.mp (zt_nle tI_0 (show x47.toInt = _ from rfl) c209_2)
                have vc209_2 : dk x26 < dk 0 := by have := zr_dcmp (a := x26) (b := 0) ex47 (show dN x26 by omega) (show dN 0 by omega); have := Int.not_le.mp (zt_nle tI_0 (show x47.toInt = _ from rfl) c209_2); omega
                refine lv_iinc (v := (b + 1)) (lv' := [(8, .int (b + 1)), (11, .double x26), (10, .int j2), (9, .int i), (7, .int a), (5, .double x6), (3, .double x3), (0, .ref h0), (1, .int p0), (2, .int p1)]) hx hb d_Mo_cover_212 hl (k := 3) rfl (by first | rfl | decide) (by decide) rfl (fun ls hl => ?_)
                obtain ⟨x49, ex49⟩ : ∃ z, z = (b + 1) := ⟨_, rfl⟩
                rw [← ex49] at hl
                have fx49 : x49.toInt = (b.toInt + 1) := by rw [ex49]; exact (zt_add (show b.toInt = _ from rfl) tI_1 (by omega) (by omega)).trans (by omega)
                have hl : lv_has ls 13 [(8, .int x49), (11, .double x26), (10, .int j2), (9, .int i), (7, .int a), (5, .double x6), (3, .double x3), (0, .ref h0), (1, .int p0), (2, .int p1)] := hl
                refine lv_iinc (v := (i + 1)) (lv' := [(9, .int (i + 1)), (8, .int x49), (11, .double x26), (10, .int j2), (7, .int a), (5, .double x6), (3, .double x3), (0, .ref h0), (1, .int p0), (2, .int p1)]) hx hb d_Mo_cover_215 hl (k := 3) rfl (by first | rfl | decide) (by decide) rfl (fun ls hl => ?_)
                obtain ⟨x50, ex50⟩ : ∃ z, z = (i + 1) := ⟨_, rfl⟩
                rw [← ex50] at hl
                have fx50 : x50.toInt = (i.toInt + 1) := by rw [ex50]; exact (zt_add (show i.toInt = _ from rfl) tI_1 (by omega) (by omega)).trans (by omega)
                have hl : lv_has ls 13 [(9, .int x50), (8, .int x49), (11, .double x26), (10, .int j2), (7, .int a), (5, .double x6), (3, .double x3), (0, .ref h0), (1, .int p0), (2, .int p1)] := hl
                refine lv_goto (tgt := 34) hx hb d_Mo_cover_218 (by decide) ?_
                exact ih (k - 1) (a, x49, x50) _ _ _ (by omega) ⟨(show 0 ≤ x50.toInt ∧ x50.toInt ≤ (f_points S).toInt ∧ (f_points S).toInt ≤ x50.toInt + (((k - 1) : Nat) : Int) ∧ 0 ≤ a.toInt ∧ a.toInt ≤ x50.toInt ∧ 0 ≤ x49.toInt ∧ x49.toInt ≤ x50.toInt by omega), hP, hD, hS, lv_sub hl [0, 1, 4, 5, 6, 7, 8, 9] rfl⟩
        · have fc166_1 : x40.toInt < 0 := Int.not_le.mp (zt_nle tI_0 (show x40.toInt = _ from rfl) c166_1)
          have vc166_1 : dk x6 < dk x39 := by have := zr_dcmp (a := x6) (b := x39) ex40 (show dN x6 by omega) (show dN x39 by omega); have := Int.not_le.mp (zt_nle tI_0 (show x40.toInt = _ from rfl) c166_1); omega
          refine lv_dload hx hb d_Mo_cover_169 (lv_at hl 0 rfl) ?_
          refine lv_dconst0 hx hb d_Mo_cover_171 ?_
          have := tD_0
          refine lv_dcmp hx hb d_Mo_cover_172 ?_
          refine lv_topi (fun x51 ex51 => ?_)
          refine lv_if_le (tgt := 179) hx hb d_Mo_cover_173 (by decide) (fun c173_1 => ?_) (fun c173_1 => ?_)
          · have fc173_1 : x51.toInt ≤ 0 := zt_le (show x51.toInt = _ from rfl) tI_0 c173_1
            have vc173_1 : dk x26 ≤ dk 0 := by have := zr_dcmp (a := x26) (b := 0) ex51 (show dN x26 by omega) (show dN 0 by omega); have := zt_le (show x51.toInt = _ from rfl) tI_0 c173_1; omega
            refine lv_aload_n hx hb d_Mo_cover_179 rfl (lv_at hl 7 rfl) ?_
            refine va_get (D := D) (ci := 11) (v := .ref (ar 20)) (C := "PageScribeModel") (T := F_Mo) (N := 45) hx hb hts i_Mo hown hK hP 0 mW_0 cl_11 39 (by decide) (hts _ k_6_199) (fun _ h9 => h9) (mg_along _ _) d_Mo_cover_180 ?_
            refine lv_iload hx hb d_Mo_cover_183 (lv_at hl 1 rfl) ?_
            refine va_dald hx hb hK hP 21 3 (ma_along _ _ _ _) rfl (zt_in (show j2.toInt = _ from rfl) (by omega) (by omega)) d_Mo_cover_185 ?_
            refine lv_topd (fun x52 ex52 => ?_)
            have gx52 : x52 = (a_along S) j2.toInt.toNat := ex52.trans (congrArg _ (zt_ix (show j2.toInt = _ from rfl)))
            have mx52 : dM 1043 x52 := by rw [gx52]; exact dM_pt (i_ink.2 (j2.toInt.toNat) (by omega)).2
            have dx52 : dF x52 := dM_F mx52 (by decide)
            refine lv_dload hx hb d_Mo_cover_186 (lv_at hl 5 rfl) ?_
            refine lv_dcmp hx hb d_Mo_cover_188 ?_
            refine lv_topi (fun x53 ex53 => ?_)
            refine lv_if_gt (tgt := 215) hx hb d_Mo_cover_189 (by decide) (fun c189_3 => ?_) (fun c189_3 => ?_)
            · have fc189_3 : 0 < x53.toInt := zt_lt tI_0 (show x53.toInt = _ from rfl) c189_3
              have vc189_3 : dk x52 > dk x6 := by have := zr_dcmp (a := x52) (b := x6) ex53 (show dN x52 by omega) (show dN x6 by omega); have := zt_lt tI_0 (show x53.toInt = _ from rfl) c189_3; omega
              refine lv_iinc (v := (i + 1)) (lv' := [(9, .int (i + 1)), (11, .double x26), (10, .int j2), (8, .int b), (7, .int a), (5, .double x6), (3, .double x3), (0, .ref h0), (1, .int p0), (2, .int p1)]) hx hb d_Mo_cover_215 hl (k := 2) rfl (by first | rfl | decide) (by decide) rfl (fun ls hl => ?_)
              obtain ⟨x54, ex54⟩ : ∃ z, z = (i + 1) := ⟨_, rfl⟩
              rw [← ex54] at hl
              have fx54 : x54.toInt = (i.toInt + 1) := by rw [ex54]; exact (zt_add (show i.toInt = _ from rfl) tI_1 (by omega) (by omega)).trans (by omega)
              have hl : lv_has ls 13 [(9, .int x54), (11, .double x26), (10, .int j2), (8, .int b), (7, .int a), (5, .double x6), (3, .double x3), (0, .ref h0), (1, .int p0), (2, .int p1)] := hl
              refine lv_goto (tgt := 34) hx hb d_Mo_cover_218 (by decide) ?_
              exact ih (k - 1) (a, b, x54) _ _ _ (by omega) ⟨(show 0 ≤ x54.toInt ∧ x54.toInt ≤ (f_points S).toInt ∧ (f_points S).toInt ≤ x54.toInt + (((k - 1) : Nat) : Int) ∧ 0 ≤ a.toInt ∧ a.toInt ≤ x54.toInt ∧ 0 ≤ b.toInt ∧ b.toInt ≤ x54.toInt by omega), hP, hD, hS, lv_sub hl [0, 3, 4, 5, 6, 7, 8, 9] rfl⟩
            · have fc189_3 : x53.toInt ≤ 0 := Int.not_lt.mp (zt_nlt tI_0 (show x53.toInt = _ from rfl) c189_3)
              have vc189_3 : dk x52 ≤ dk x6 := by have := zr_dcmp (a := x52) (b := x6) ex53 (show dN x52 by omega) (show dN x6 by omega); have := Int.not_lt.mp (zt_nlt tI_0 (show x53.toInt = _ from rfl) c189_3); omega
              refine lv_dload hx hb d_Mo_cover_192 (lv_at hl 5 rfl) ?_
              refine lv_aload_n hx hb d_Mo_cover_194 rfl (lv_at hl 7 rfl) ?_
              refine va_get (D := D) (ci := 11) (v := .ref (ar 20)) (C := "PageScribeModel") (T := F_Mo) (N := 45) hx hb hts i_Mo hown hK hP 0 mW_0 cl_11 39 (by decide) (hts _ k_6_199) (fun _ h9 => h9) (mg_along _ _) d_Mo_cover_195 ?_
              refine lv_iload hx hb d_Mo_cover_198 (lv_at hl 2 rfl) ?_
              refine va_dald hx hb hK hP 21 3 (ma_along _ _ _ _) rfl (zt_in (show i.toInt = _ from rfl) (by omega) (by omega)) d_Mo_cover_200 ?_
              refine lv_topd (fun x55 ex55 => ?_)
              have gx55 : x55 = (a_along S) i.toInt.toNat := ex55.trans (congrArg _ (zt_ix (show i.toInt = _ from rfl)))
              have mx55 : dM 1043 x55 := by rw [gx55]; exact dM_pt (i_ink.2 (i.toInt.toNat) (by omega)).2
              have dx55 : dF x55 := dM_F mx55 (by decide)
              refine lv_dcmp hx hb d_Mo_cover_201 ?_
              refine lv_topi (fun x56 ex56 => ?_)
              refine lv_if_ge (tgt := 215) hx hb d_Mo_cover_202 (by decide) (fun c202_3 => ?_) (fun c202_3 => ?_)
              · have fc202_3 : 0 ≤ x56.toInt := zt_le tI_0 (show x56.toInt = _ from rfl) c202_3
                have vc202_3 : dk x6 ≥ dk x55 := by have := zr_dcmp (a := x6) (b := x55) ex56 (show dN x6 by omega) (show dN x55 by omega); have := zt_le tI_0 (show x56.toInt = _ from rfl) c202_3; omega
                refine lv_iinc (v := (i + 1)) (lv' := [(9, .int (i + 1)), (11, .double x26), (10, .int j2), (8, .int b), (7, .int a), (5, .double x6), (3, .double x3), (0, .ref h0), (1, .int p0), (2, .int p1)]) hx hb d_Mo_cover_215 hl (k := 2) rfl (by first | rfl | decide) (by decide) rfl (fun ls hl => ?_)
                obtain ⟨x57, ex57⟩ : ∃ z, z = (i + 1) := ⟨_, rfl⟩
                rw [← ex57] at hl
                have fx57 : x57.toInt = (i.toInt + 1) := by rw [ex57]; exact (zt_add (show i.toInt = _ from rfl) tI_1 (by omega) (by omega)).trans (by omega)
                have hl : lv_has ls 13 [(9, .int x57), (11, .double x26), (10, .int j2), (8, .int b), (7, .int a), (5, .double x6), (3, .double x3), (0, .ref h0), (1, .int p0), (2, .int p1)] := hl
                refine lv_goto (tgt := 34) hx hb d_Mo_cover_218 (by decide) ?_
                exact ih (k - 1) (a, b, x57) _ _ _ (by omega) ⟨(show 0 ≤ x57.toInt ∧ x57.toInt ≤ (f_points S).toInt ∧ (f_points S).toInt ≤ x57.toInt + (((k - 1) : Nat) : Int) ∧ 0 ≤ a.toInt ∧ a.toInt ≤ x57.toInt ∧ 0 ≤ b.toInt ∧ b.toInt ≤ x57.toInt by omega), hP, hD, hS, lv_sub hl [0, 3, 4, 5, 6, 7, 8, 9] rfl⟩
              · have fc202_3 : x56.toInt < 0 := Int.not_le.mp (zt_nle tI_0 (show x56.toInt = _ from rfl) c202_3)
                have vc202_3 : dk x6 < dk x55 := by have := zr_dcmp (a := x6) (b := x55) ex56 (show dN x6 by omega) (show dN x55 by omega); have := Int.not_le.mp (zt_nle tI_0 (show x56.toInt = _ from rfl) c202_3); omega
                refine lv_dload hx hb d_Mo_cover_205 (lv_at hl 0 rfl) ?_
                refine lv_dconst0 hx hb d_Mo_cover_207 ?_
                have := tD_0
                refine lv_dcmp hx hb d_Mo_cover_208 ?_
                refine lv_topi (fun x58 ex58 => ?_)
                refine lv_if_ge (tgt := 215) hx hb d_Mo_cover_209 (by decide) (fun c209_3 => ?_) (fun c209_3 => ?_)
                · have fc209_3 : 0 ≤ x58.toInt := zt_le tI_0 (show x58.toInt = _ from rfl) c209_3
                  have vc209_3 : dk x26 ≥ dk 0 := by have := zr_dcmp (a := x26) (b := 0) ex58 (show dN x26 by omega) (show dN 0 by omega); have := zt_le tI_0 (show x58.toInt = _ from rfl) c209_3; omega
                  refine lv_iinc (v := (i + 1)) (lv' := [(9, .int (i + 1)), (11, .double x26), (10, .int j2), (8, .int b), (7, .int a), (5, .double x6), (3, .double x3), (0, .ref h0), (1, .int p0), (2, .int p1)]) hx hb d_Mo_cover_215 hl (k := 2) rfl (by first | rfl | decide) (by decide) rfl (fun ls hl => ?_)
                  obtain ⟨x59, ex59⟩ : ∃ z, z = (i + 1) := ⟨_, rfl⟩
                  rw [← ex59] at hl
                  have fx59 : x59.toInt = (i.toInt + 1) := by rw [ex59]; exact (zt_add (show i.toInt = _ from rfl) tI_1 (by omega) (by omega)).trans (by omega)
                  have hl : lv_has ls 13 [(9, .int x59), (11, .double x26), (10, .int j2), (8, .int b), (7, .int a), (5, .double x6), (3, .double x3), (0, .ref h0), (1, .int p0), (2, .int p1)] := hl
                  refine lv_goto (tgt := 34) hx hb d_Mo_cover_218 (by decide) ?_
                  exact ih (k - 1) (a, b, x59) _ _ _ (by omega) ⟨(show 0 ≤ x59.toInt ∧ x59.toInt ≤ (f_points S).toInt ∧ (f_points S).toInt ≤ x59.toInt + (((k - 1) : Nat) : Int) ∧ 0 ≤ a.toInt ∧ a.toInt ≤ x59.toInt ∧ 0 ≤ b.toInt ∧ b.toInt ≤ x59.toInt by omega), hP, hD, hS, lv_sub hl [0, 3, 4, 5, 6, 7, 8, 9] rfl⟩
                · have fc209_3 : x58.toInt < 0 := Int.not_le.mp (zt_nle tI_0 (show x58.toInt = _ from rfl) c209_3)
                  have vc209_3 : dk x26 < dk 0 := by have := zr_dcmp (a := x26) (b := 0) ex58 (show dN x26 by omega) (show dN 0 by omega); have := Int.not_le.mp (zt_nle tI_0 (show x58.toInt = _ from rfl) c209_3); omega
                  refine lv_iinc (v := (b + 1)) (lv' := [(8, .int (b + 1)), (11, .double x26), (10, .int j2), (9, .int i), (7, .int a), (5, .double x6), (3, .double x3), (0, .ref h0), (1, .int p0), (2, .int p1)]) hx hb d_Mo_cover_212 hl (k := 3) rfl (by first | rfl | decide) (by decide) rfl (fun ls hl => ?_)
                  obtain ⟨x60, ex60⟩ : ∃ z, z = (b + 1) := ⟨_, rfl⟩
                  rw [← ex60] at hl
                  have fx60 : x60.toInt = (b.toInt + 1) := by rw [ex60]; exact (zt_add (show b.toInt = _ from rfl) tI_1 (by omega) (by omega)).trans (by omega)
                  have hl : lv_has ls 13 [(8, .int x60), (11, .double x26), (10, .int j2), (9, .int i), (7, .int a), (5, .double x6), (3, .double x3), (0, .ref h0), (1, .int p0), (2, .int p1)] := hl
                  refine lv_iinc (v := (i + 1)) (lv' := [(9, .int (i + 1)), (8, .int x60), (11, .double x26), (10, .int j2), (7, .int a), (5, .double x6), (3, .double x3), (0, .ref h0), (1, .int p0), (2, .int p1)]) hx hb d_Mo_cover_215 hl (k := 3) rfl (by first | rfl | decide) (by decide) rfl (fun ls hl => ?_)
                  obtain ⟨x61, ex61⟩ : ∃ z, z = (i + 1) := ⟨_, rfl⟩
                  rw [← ex61] at hl
                  have fx61 : x61.toInt = (i.toInt + 1) := by rw [ex61]; exact (zt_add (show i.toInt = _ from rfl) tI_1 (by omega) (by omega)).trans (by omega)
                  have hl : lv_has ls 13 [(9, .int x61), (8, .int x60), (11, .double x26), (10, .int j2), (7, .int a), (5, .double x6), (3, .double x3), (0, .ref h0), (1, .int p0), (2, .int p1)] := hl
                  refine lv_goto (tgt := 34) hx hb d_Mo_cover_218 (by decide) ?_
                  exact ih (k - 1) (a, x60, x61) _ _ _ (by omega) ⟨(show 0 ≤ x61.toInt ∧ x61.toInt ≤ (f_points S).toInt ∧ (f_points S).toInt ≤ x61.toInt + (((k - 1) : Nat) : Int) ∧ 0 ≤ a.toInt ∧ a.toInt ≤ x61.toInt ∧ 0 ≤ x60.toInt ∧ x60.toInt ≤ x61.toInt by omega), hP, hD, hS, lv_sub hl [0, 1, 4, 5, 6, 7, 8, 9] rfl⟩
          · have fc173_1 : 0 < x51.toInt := Int.not_le.mp (zt_nle (show x51.toInt = _ from rfl) tI_0 c173_1)
            have vc173_1 : dk x26 > dk 0 := by have := zr_dcmp (a := x26) (b := 0) ex51 (show dN x26 by omega) (show dN 0 by omega); have := Int.not_le.mp (zt_nle (show x51.toInt = _ from rfl) tI_0 c173_1); omega
            refine lv_iinc (v := (a + 1)) (lv' := [(7, .int (a + 1)), (11, .double x26), (10, .int j2), (9, .int i), (8, .int b), (5, .double x6), (3, .double x3), (0, .ref h0), (1, .int p0), (2, .int p1)]) hx hb d_Mo_cover_176 hl (k := 4) rfl (by first | rfl | decide) (by decide) rfl (fun ls hl => ?_)
            obtain ⟨x62, ex62⟩ : ∃ z, z = (a + 1) := ⟨_, rfl⟩
            rw [← ex62] at hl
            have fx62 : x62.toInt = (a.toInt + 1) := by rw [ex62]; exact (zt_add (show a.toInt = _ from rfl) tI_1 (by omega) (by omega)).trans (by omega)
            have hl : lv_has ls 13 [(7, .int x62), (11, .double x26), (10, .int j2), (9, .int i), (8, .int b), (5, .double x6), (3, .double x3), (0, .ref h0), (1, .int p0), (2, .int p1)] := hl
            refine lv_aload_n hx hb d_Mo_cover_179 rfl (lv_at hl 7 rfl) ?_
            refine va_get (D := D) (ci := 11) (v := .ref (ar 20)) (C := "PageScribeModel") (T := F_Mo) (N := 45) hx hb hts i_Mo hown hK hP 0 mW_0 cl_11 39 (by decide) (hts _ k_6_199) (fun _ h9 => h9) (mg_along _ _) d_Mo_cover_180 ?_
            refine lv_iload hx hb d_Mo_cover_183 (lv_at hl 2 rfl) ?_
            refine va_dald hx hb hK hP 21 3 (ma_along _ _ _ _) rfl (zt_in (show j2.toInt = _ from rfl) (by omega) (by omega)) d_Mo_cover_185 ?_
            refine lv_topd (fun x63 ex63 => ?_)
            have gx63 : x63 = (a_along S) j2.toInt.toNat := ex63.trans (congrArg _ (zt_ix (show j2.toInt = _ from rfl)))
            have mx63 : dM 1043 x63 := by rw [gx63]; exact dM_pt (i_ink.2 (j2.toInt.toNat) (by omega)).2
            have dx63 : dF x63 := dM_F mx63 (by decide)
            refine lv_dload hx hb d_Mo_cover_186 (lv_at hl 5 rfl) ?_
            refine lv_dcmp hx hb d_Mo_cover_188 ?_
            refine lv_topi (fun x64 ex64 => ?_)
            refine lv_if_gt (tgt := 215) hx hb d_Mo_cover_189 (by decide) (fun c189_4 => ?_) (fun c189_4 => ?_)
            · have fc189_4 : 0 < x64.toInt := zt_lt tI_0 (show x64.toInt = _ from rfl) c189_4
              have vc189_4 : dk x63 > dk x6 := by have := zr_dcmp (a := x63) (b := x6) ex64 (show dN x63 by omega) (show dN x6 by omega); have := zt_lt tI_0 (show x64.toInt = _ from rfl) c189_4; omega
              refine lv_iinc (v := (i + 1)) (lv' := [(9, .int (i + 1)), (7, .int x62), (11, .double x26), (10, .int j2), (8, .int b), (5, .double x6), (3, .double x3), (0, .ref h0), (1, .int p0), (2, .int p1)]) hx hb d_Mo_cover_215 hl (k := 3) rfl (by first | rfl | decide) (by decide) rfl (fun ls hl => ?_)
              obtain ⟨x65, ex65⟩ : ∃ z, z = (i + 1) := ⟨_, rfl⟩
              rw [← ex65] at hl
              have fx65 : x65.toInt = (i.toInt + 1) := by rw [ex65]; exact (zt_add (show i.toInt = _ from rfl) tI_1 (by omega) (by omega)).trans (by omega)
              have hl : lv_has ls 13 [(9, .int x65), (7, .int x62), (11, .double x26), (10, .int j2), (8, .int b), (5, .double x6), (3, .double x3), (0, .ref h0), (1, .int p0), (2, .int p1)] := hl
              refine lv_goto (tgt := 34) hx hb d_Mo_cover_218 (by decide) ?_
              exact ih (k - 1) (x62, b, x65) _ _ _ (by omega) ⟨(show 0 ≤ x65.toInt ∧ x65.toInt ≤ (f_points S).toInt ∧ (f_points S).toInt ≤ x65.toInt + (((k - 1) : Nat) : Int) ∧ 0 ≤ x62.toInt ∧ x62.toInt ≤ x65.toInt ∧ 0 ≤ b.toInt ∧ b.toInt ≤ x65.toInt by omega), hP, hD, hS, lv_sub hl [0, 4, 1, 5, 6, 7, 8, 9] rfl⟩
            · have fc189_4 : x64.toInt ≤ 0 := Int.not_lt.mp (zt_nlt tI_0 (show x64.toInt = _ from rfl) c189_4)
              have vc189_4 : dk x63 ≤ dk x6 := by have := zr_dcmp (a := x63) (b := x6) ex64 (show dN x63 by omega) (show dN x6 by omega); have := Int.not_lt.mp (zt_nlt tI_0 (show x64.toInt = _ from rfl) c189_4); omega
              refine lv_dload hx hb d_Mo_cover_192 (lv_at hl 5 rfl) ?_
              refine lv_aload_n hx hb d_Mo_cover_194 rfl (lv_at hl 7 rfl) ?_
              refine va_get (D := D) (ci := 11) (v := .ref (ar 20)) (C := "PageScribeModel") (T := F_Mo) (N := 45) hx hb hts i_Mo hown hK hP 0 mW_0 cl_11 39 (by decide) (hts _ k_6_199) (fun _ h9 => h9) (mg_along _ _) d_Mo_cover_195 ?_
              refine lv_iload hx hb d_Mo_cover_198 (lv_at hl 3 rfl) ?_
              refine va_dald hx hb hK hP 21 3 (ma_along _ _ _ _) rfl (zt_in (show i.toInt = _ from rfl) (by omega) (by omega)) d_Mo_cover_200 ?_
              refine lv_topd (fun x66 ex66 => ?_)
              have gx66 : x66 = (a_along S) i.toInt.toNat := ex66.trans (congrArg _ (zt_ix (show i.toInt = _ from rfl)))
              have mx66 : dM 1043 x66 := by rw [gx66]; exact dM_pt (i_ink.2 (i.toInt.toNat) (by omega)).2
              have dx66 : dF x66 := dM_F mx66 (by decide)
              refine lv_dcmp hx hb d_Mo_cover_201 ?_
              refine lv_topi (fun x67 ex67 => ?_)
              refine lv_if_ge (tgt := 215) hx hb d_Mo_cover_202 (by decide) (fun c202_4 => ?_) (fun c202_4 => ?_)
              · have fc202_4 : 0 ≤ x67.toInt := zt_le tI_0 (show x67.toInt = _ from rfl) c202_4
                have vc202_4 : dk x6 ≥ dk x66 := by have := zr_dcmp (a := x6) (b := x66) ex67 (show dN x6 by omega) (show dN x66 by omega); have := zt_le tI_0 (show x67.toInt = _ from rfl) c202_4; omega
                refine lv_iinc (v := (i + 1)) (lv' := [(9, .int (i + 1)), (7, .int x62), (11, .double x26), (10, .int j2), (8, .int b), (5, .double x6), (3, .double x3), (0, .ref h0), (1, .int p0), (2, .int p1)]) hx hb d_Mo_cover_215 hl (k := 3) rfl (by first | rfl | decide) (by decide) rfl (fun ls hl => ?_)
                obtain ⟨x68, ex68⟩ : ∃ z, z = (i + 1) := ⟨_, rfl⟩
                rw [← ex68] at hl
                have fx68 : x68.toInt = (i.toInt + 1) := by rw [ex68]; exact (zt_add (show i.toInt = _ from rfl) tI_1 (by omega) (by omega)).trans (by omega)
                have hl : lv_has ls 13 [(9, .int x68), (7, .int x62), (11, .double x26), (10, .int j2), (8, .int b), (5, .double x6), (3, .double x3), (0, .ref h0), (1, .int p0), (2, .int p1)] := hl
                refine lv_goto (tgt := 34) hx hb d_Mo_cover_218 (by decide) ?_
                exact ih (k - 1) (x62, b, x68) _ _ _ (by omega) ⟨(show 0 ≤ x68.toInt ∧ x68.toInt ≤ (f_points S).toInt ∧ (f_points S).toInt ≤ x68.toInt + (((k - 1) : Nat) : Int) ∧ 0 ≤ x62.toInt ∧ x62.toInt ≤ x68.toInt ∧ 0 ≤ b.toInt ∧ b.toInt ≤ x68.toInt by omega), hP, hD, hS, lv_sub hl [0, 4, 1, 5, 6, 7, 8, 9] rfl⟩
              · have fc202_4 : x67.toInt < 0 := Int.not_le.mp (zt_nle tI_0 (show x67.toInt = _ from rfl) c202_4)
                have vc202_4 : dk x6 < dk x66 := by have := zr_dcmp (a := x6) (b := x66) ex67 (show dN x6 by omega) (show dN x66 by omega); have := Int.not_le.mp (zt_nle tI_0 (show x67.toInt = _ from rfl) c202_4); omega
                refine lv_dload hx hb d_Mo_cover_205 (lv_at hl 1 rfl) ?_
                refine lv_dconst0 hx hb d_Mo_cover_207 ?_
                have := tD_0
                refine lv_dcmp hx hb d_Mo_cover_208 ?_
                refine lv_topi (fun x69 ex69 => ?_)
                refine lv_if_ge (tgt := 215) hx hb d_Mo_cover_209 (by decide) (fun c209_4 => ?_) (fun c209_4 => ?_)
                · have fc209_4 : 0 ≤ x69.toInt := zt_le tI_0 (show x69.toInt = _ from rfl) c209_4
                  have vc209_4 : dk x26 ≥ dk 0 := by have := zr_dcmp (a := x26) (b := 0) ex69 (show dN x26 by omega) (show dN 0 by omega); have := zt_le tI_0 (show x69.toInt = _ from rfl) c209_4; omega
                  refine lv_iinc (v := (i + 1)) (lv' := [(9, .int (i + 1)), (7, .int x62), (11, .double x26), (10, .int j2), (8, .int b), (5, .double x6), (3, .double x3), (0, .ref h0), (1, .int p0), (2, .int p1)]) hx hb d_Mo_cover_215 hl (k := 3) rfl (by first | rfl | decide) (by decide) rfl (fun ls hl => ?_)
                  obtain ⟨x70, ex70⟩ : ∃ z, z = (i + 1) := ⟨_, rfl⟩
                  rw [← ex70] at hl
                  have fx70 : x70.toInt = (i.toInt + 1) := by rw [ex70]; exact (zt_add (show i.toInt = _ from rfl) tI_1 (by omega) (by omega)).trans (by omega)
                  have hl : lv_has ls 13 [(9, .int x70), (7, .int x62), (11, .double x26), (10, .int j2), (8, .int b), (5, .double x6), (3, .double x3), (0, .ref h0), (1, .int p0), (2, .int p1)] := hl
                  refine lv_goto (tgt := 34) hx hb d_Mo_cover_218 (by decide) ?_
                  exact ih (k - 1) (x62, b, x70) _ _ _ (by omega) ⟨(show 0 ≤ x70.toInt ∧ x70.toInt ≤ (f_points S).toInt ∧ (f_points S).toInt ≤ x70.toInt + (((k - 1) : Nat) : Int) ∧ 0 ≤ x62.toInt ∧ x62.toInt ≤ x70.toInt ∧ 0 ≤ b.toInt ∧ b.toInt ≤ x70.toInt by omega), hP, hD, hS, lv_sub hl [0, 4, 1, 5, 6, 7, 8, 9] rfl⟩
                · have fc209_4 : x69.toInt < 0 := Int.not_le.mp (zt_nle tI_0 (show x69.toInt = _ from rfl) c209_4)
                  have vc209_4 : dk x26 < dk 0 := by have := zr_dcmp (a := x26) (b := 0) ex69 (show dN x26 by omega) (show dN 0 by omega); have := Int.not_le.mp (zt_nle tI_0 (show x69.toInt = _ from rfl) c209_4); omega
                  refine lv_iinc (v := (b + 1)) (lv' := [(8, .int (b + 1)), (7, .int x62), (11, .double x26), (10, .int j2), (9, .int i), (5, .double x6), (3, .double x3), (0, .ref h0), (1, .int p0), (2, .int p1)]) hx hb d_Mo_cover_212 hl (k := 4) rfl (by first | rfl | decide) (by decide) rfl (fun ls hl => ?_)
                  obtain ⟨x71, ex71⟩ : ∃ z, z = (b + 1) := ⟨_, rfl⟩
                  rw [← ex71] at hl
                  have fx71 : x71.toInt = (b.toInt + 1) := by rw [ex71]; exact (zt_add (show b.toInt = _ from rfl) tI_1 (by omega) (by omega)).trans (by omega)
                  have hl : lv_has ls 13 [(8, .int x71), (7, .int x62), (11, .double x26), (10, .int j2), (9, .int i), (5, .double x6), (3, .double x3), (0, .ref h0), (1, .int p0), (2, .int p1)] := hl
                  refine lv_iinc (v := (i + 1)) (lv' := [(9, .int (i + 1)), (8, .int x71), (7, .int x62), (11, .double x26), (10, .int j2), (5, .double x6), (3, .double x3), (0, .ref h0), (1, .int p0), (2, .int p1)]) hx hb d_Mo_cover_215 hl (k := 4) rfl (by first | rfl | decide) (by decide) rfl (fun ls hl => ?_)
                  obtain ⟨x72, ex72⟩ : ∃ z, z = (i + 1) := ⟨_, rfl⟩
                  rw [← ex72] at hl
                  have fx72 : x72.toInt = (i.toInt + 1) := by rw [ex72]; exact (zt_add (show i.toInt = _ from rfl) tI_1 (by omega) (by omega)).trans (by omega)
                  have hl : lv_has ls 13 [(9, .int x72), (8, .int x71), (7, .int x62), (11, .double x26), (10, .int j2), (5, .double x6), (3, .double x3), (0, .ref h0), (1, .int p0), (2, .int p1)] := hl
                  refine lv_goto (tgt := 34) hx hb d_Mo_cover_218 (by decide) ?_
                  exact ih (k - 1) (x62, x71, x72) _ _ _ (by omega) ⟨(show 0 ≤ x72.toInt ∧ x72.toInt ≤ (f_points S).toInt ∧ (f_points S).toInt ≤ x72.toInt + (((k - 1) : Nat) : Int) ∧ 0 ≤ x62.toInt ∧ x62.toInt ≤ x72.toInt ∧ 0 ≤ x71.toInt ∧ x71.toInt ≤ x72.toInt by omega), hP, hD, hS, lv_sub hl [0, 1, 2, 5, 6, 7, 8, 9] rfl⟩
    · refine lv_iload hx hb d_Mo_cover_43 (lv_at hl 0 rfl) ?_
      refine lv_iconst (v := 1) hx hb d_Mo_cover_45 (by decide) ?_
      refine lv_iadd hx hb d_Mo_cover_46 ?_
      refine lv_topi (fun x73 ex73 => ?_)
      have fx73 : x73.toInt = (i.toInt + 1) := by rw [ex73]; exact (zt_add (show i.toInt = _ from rfl) tI_1 (by omega) (by omega)).trans (by omega)
      refine lv_aload_n hx hb d_Mo_cover_47 rfl (lv_at hl 5 rfl) ?_
      refine va_get (D := D) (ci := 11) (v := .int (f_points S)) (C := "PageScribeModel") (T := F_Mo) (N := 45) hx hb hts i_Mo hown hK hP 0 mW_0 cl_11 41 (by decide) (hts _ k_6_201) (fun _ h9 => h9) (mg_points _ _) d_Mo_cover_48 ?_
      refine lv_icmp_ge (tgt := 80) hx hb d_Mo_cover_51 (by decide) (fun c51_1 => ?_) (fun c51_1 => ?_)
      · have fc51_1 : (f_points S).toInt ≤ (i.toInt + 1) := zt_le (show (f_points S).toInt = _ from rfl) fx73 c51_1
        refine lv_aload_n hx hb d_Mo_cover_80 rfl (lv_at hl 5 rfl) ?_
        refine va_get (D := D) (ci := 11) (v := .ref (ar 21)) (C := "PageScribeModel") (T := F_Mo) (N := 45) hx hb hts i_Mo hown hK hP 0 mW_0 cl_11 40 (by decide) (hts _ k_6_200) (fun _ h9 => h9) (mg_part _ _) d_Mo_cover_81 ?_
        refine lv_iload hx hb d_Mo_cover_84 (lv_at hl 0 rfl) ?_
        refine va_iald hx hb hK hP 22 0 (ma_part _ _ _ _) rfl (zt_in (show i.toInt = _ from rfl) (by omega) (by omega)) d_Mo_cover_86 ?_
        refine lv_topi (fun x74 ex74 => ?_)
        have gx74 : x74 = (a_part S) i.toInt.toNat := ex74.trans (congrArg _ (zt_ix (show i.toInt = _ from rfl)))
        have fx74 : x74.toInt = ((a_part S) i.toInt.toNat).toInt := by rw [gx74]
        have kx74 := i_part (i.toInt.toNat) (by omega)
        exact key2 (x74) _ _ _ ⟨(show 0 ≤ x74.toInt ∧ x74.toInt ≤ 29 by omega), hP, hD, hS, lv_sub hl [0, 1, 2, 3, 4, 5, 6, 7] rfl⟩
      · have fc51_1 : (i.toInt + 1) < (f_points S).toInt := Int.not_le.mp (zt_nle (show (f_points S).toInt = _ from rfl) fx73 c51_1)
        refine lv_aload_n hx hb d_Mo_cover_54 rfl (lv_at hl 5 rfl) ?_
        refine va_get (D := D) (ci := 11) (v := .ref (ar 21)) (C := "PageScribeModel") (T := F_Mo) (N := 45) hx hb hts i_Mo hown hK hP 0 mW_0 cl_11 40 (by decide) (hts _ k_6_200) (fun _ h9 => h9) (mg_part _ _) d_Mo_cover_55 ?_
        refine lv_iload hx hb d_Mo_cover_58 (lv_at hl 0 rfl) ?_
        refine lv_iconst (v := 1) hx hb d_Mo_cover_60 (by decide) ?_
        refine lv_iadd hx hb d_Mo_cover_61 ?_
        refine j_eqi (y := x73) ex73.symm ?_
        refine va_iald hx hb hK hP 22 0 (ma_part _ _ _ _) rfl (zt_in fx73 (by omega) (by omega)) d_Mo_cover_62 ?_
        refine lv_topi (fun x75 ex75 => ?_)
        have gx75 : x75 = (a_part S) (i.toInt + 1).toNat := ex75.trans (congrArg _ (zt_ix fx73))
        have fx75 : x75.toInt = ((a_part S) (i.toInt + 1).toNat).toInt := by rw [gx75]
        have kx75 := i_part ((i.toInt + 1).toNat) (by omega)
        refine lv_aload_n hx hb d_Mo_cover_63 rfl (lv_at hl 5 rfl) ?_
        refine va_get (D := D) (ci := 11) (v := .ref (ar 21)) (C := "PageScribeModel") (T := F_Mo) (N := 45) hx hb hts i_Mo hown hK hP 0 mW_0 cl_11 40 (by decide) (hts _ k_6_200) (fun _ h9 => h9) (mg_part _ _) d_Mo_cover_64 ?_
        refine lv_iload hx hb d_Mo_cover_67 (lv_at hl 0 rfl) ?_
        refine va_iald hx hb hK hP 22 0 (ma_part _ _ _ _) rfl (zt_in (show i.toInt = _ from rfl) (by omega) (by omega)) d_Mo_cover_69 ?_
        refine lv_topi (fun x76 ex76 => ?_)
        have gx76 : x76 = (a_part S) i.toInt.toNat := ex76.trans (congrArg _ (zt_ix (show i.toInt = _ from rfl)))
        have fx76 : x76.toInt = ((a_part S) i.toInt.toNat).toInt := by rw [gx76]
        have kx76 := i_part (i.toInt.toNat) (by omega)
        refine lv_icmp_ne (tgt := 80) hx hb d_Mo_cover_70 (by decide) (fun c70_1 => ?_) (fun c70_1 => ?_)
        · first | have fc70_1 : x75.toInt < x76.toInt := (by have := zt_ne (show x75.toInt = _ from rfl) (show x76.toInt = _ from rfl) c70_1; omega) | have fc70_1 : x76.toInt < x75.toInt := (by have := zt_ne (show x75.toInt = _ from rfl) (show x76.toInt = _ from rfl) c70_1; omega) | skip
          refine lv_aload_n hx hb d_Mo_cover_80 rfl (lv_at hl 5 rfl) ?_
          refine va_get (D := D) (ci := 11) (v := .ref (ar 21)) (C := "PageScribeModel") (T := F_Mo) (N := 45) hx hb hts i_Mo hown hK hP 0 mW_0 cl_11 40 (by decide) (hts _ k_6_200) (fun _ h9 => h9) (mg_part _ _) d_Mo_cover_81 ?_
          refine lv_iload hx hb d_Mo_cover_84 (lv_at hl 0 rfl) ?_
          refine va_iald hx hb hK hP 22 0 (ma_part _ _ _ _) rfl (zt_in (show i.toInt = _ from rfl) (by omega) (by omega)) d_Mo_cover_86 ?_
          refine j_eqi (y := x76) ex76.symm ?_
          exact key2 (x76) _ _ _ ⟨(show 0 ≤ x76.toInt ∧ x76.toInt ≤ 29 by omega), hP, hD, hS, lv_sub hl [0, 1, 2, 3, 4, 5, 6, 7] rfl⟩
        · have fc70_1 : x75.toInt = x76.toInt := zt_eq (show x75.toInt = _ from rfl) (show x76.toInt = _ from rfl) c70_1
          refine lv_iload hx hb d_Mo_cover_73 (lv_at hl 0 rfl) ?_
          refine lv_iconst (v := 1) hx hb d_Mo_cover_75 (by decide) ?_
          refine lv_iadd hx hb d_Mo_cover_76 ?_
          refine j_eqi (y := x73) ex73.symm ?_
          refine lv_goto (tgt := 87) hx hb d_Mo_cover_77 (by decide) ?_
          exact key2 (x73) _ _ _ ⟨(show 0 ≤ x73.toInt ∧ x73.toInt ≤ 29 by omega), hP, hD, hS, lv_sub hl [0, 1, 2, 3, 4, 5, 6, 7] rfl⟩
