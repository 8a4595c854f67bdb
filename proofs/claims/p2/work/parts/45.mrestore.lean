theorem d_Mo_restore_0 : decode prog_15_method_70_code 0 = .ok (.iconst 0, 1) := by decide +kernel
theorem d_Mo_restore_1 : decode prog_15_method_70_code 1 = .ok (.istore_n 1, 1) := by decide +kernel
theorem d_Mo_restore_2 : decode prog_15_method_70_code 2 = .ok (.iload_n 1, 1) := by decide +kernel
theorem d_Mo_restore_3 : decode prog_15_method_70_code 3 = .ok (.aload_n 0, 1) := by decide +kernel
theorem d_Mo_restore_4 : decode prog_15_method_70_code 4 = .ok (.getfield 534, 3) := by decide +kernel
theorem d_Mo_restore_7 : decode prog_15_method_70_code 7 = .ok (.if_icmp .ge 31, 3) := by decide +kernel
theorem d_Mo_restore_38 : decode prog_15_method_70_code 38 = .ok (.iload_n 1, 1) := by decide +kernel
theorem d_Mo_restore_39 : decode prog_15_method_70_code 39 = .ok (.aload_n 0, 1) := by decide +kernel
theorem d_Mo_restore_40 : decode prog_15_method_70_code 40 = .ok (.getfield 534, 3) := by decide +kernel
theorem d_Mo_restore_43 : decode prog_15_method_70_code 43 = .ok (.if_icmp .ne 6, 3) := by decide +kernel
theorem d_Mo_restore_49 : decode prog_15_method_70_code 49 = .ok (.iconst 0, 1) := by decide +kernel
theorem d_Mo_restore_50 : decode prog_15_method_70_code 50 = .ok (.istore_n 2, 1) := by decide +kernel
theorem d_Mo_restore_51 : decode prog_15_method_70_code 51 = .ok (.iconst 0, 1) := by decide +kernel
theorem d_Mo_restore_52 : decode prog_15_method_70_code 52 = .ok (.istore_n 3, 1) := by decide +kernel
theorem d_Mo_restore_53 : decode prog_15_method_70_code 53 = .ok (.iload_n 3, 1) := by decide +kernel
theorem d_Mo_restore_54 : decode prog_15_method_70_code 54 = .ok (.aload_n 0, 1) := by decide +kernel
theorem d_Mo_restore_55 : decode prog_15_method_70_code 55 = .ok (.getfield 247, 3) := by decide +kernel
theorem d_Mo_restore_58 : decode prog_15_method_70_code 58 = .ok (.iconst 1, 1) := by decide +kernel
theorem d_Mo_restore_59 : decode prog_15_method_70_code 59 = .ok (.isub, 1) := by decide +kernel
theorem d_Mo_restore_60 : decode prog_15_method_70_code 60 = .ok (.if_icmp .ge 38, 3) := by decide +kernel
theorem d_Mo_restore_98 : decode prog_15_method_70_code 98 = .ok (.iconst 0, 1) := by decide +kernel
theorem d_Mo_restore_99 : decode prog_15_method_70_code 99 = .ok (.istore_n 3, 1) := by decide +kernel
theorem d_Mo_restore_100 : decode prog_15_method_70_code 100 = .ok (.iload_n 3, 1) := by decide +kernel
theorem d_Mo_restore_101 : decode prog_15_method_70_code 101 = .ok (.aload_n 0, 1) := by decide +kernel
theorem d_Mo_restore_102 : decode prog_15_method_70_code 102 = .ok (.getfield 33, 3) := by decide +kernel
theorem d_Mo_restore_105 : decode prog_15_method_70_code 105 = .ok (.if_icmp .ge 36, 3) := by decide +kernel
theorem d_Mo_restore_141 : decode prog_15_method_70_code 141 = .ok (.iconst 0, 1) := by decide +kernel
theorem d_Mo_restore_142 : decode prog_15_method_70_code 142 = .ok (.istore_n 3, 1) := by decide +kernel
theorem d_Mo_restore_143 : decode prog_15_method_70_code 143 = .ok (.iload_n 3, 1) := by decide +kernel
theorem d_Mo_restore_144 : decode prog_15_method_70_code 144 = .ok (.aload_n 0, 1) := by decide +kernel
theorem d_Mo_restore_145 : decode prog_15_method_70_code 145 = .ok (.getfield 346, 3) := by decide +kernel
theorem d_Mo_restore_148 : decode prog_15_method_70_code 148 = .ok (.if_icmp .ge 70, 3) := by decide +kernel
theorem d_Mo_restore_218 : decode prog_15_method_70_code 218 = .ok (.iload_n 2, 1) := by decide +kernel
theorem d_Mo_restore_219 : decode prog_15_method_70_code 219 = .ok (.ifCond .eq 6, 3) := by decide +kernel
theorem d_Mo_restore_225 : decode prog_15_method_70_code 225 = .ok (.aload_n 0, 1) := by decide +kernel
theorem d_Mo_restore_226 : decode prog_15_method_70_code 226 = .ok (.dup, 1) := by decide +kernel
theorem d_Mo_restore_227 : decode prog_15_method_70_code 227 = .ok (.getfield 247, 3) := by decide +kernel
theorem d_Mo_restore_230 : decode prog_15_method_70_code 230 = .ok (.iconst 1, 1) := by decide +kernel
theorem d_Mo_restore_231 : decode prog_15_method_70_code 231 = .ok (.isub, 1) := by decide +kernel
theorem d_Mo_restore_232 : decode prog_15_method_70_code 232 = .ok (.putfield 247, 3) := by decide +kernel
theorem d_Mo_restore_235 : decode prog_15_method_70_code 235 = .ok (.aload_n 0, 1) := by decide +kernel
theorem d_Mo_restore_236 : decode prog_15_method_70_code 236 = .ok (.iload_n 1, 1) := by decide +kernel
theorem d_Mo_restore_237 : decode prog_15_method_70_code 237 = .ok (.putfield 534, 3) := by decide +kernel
theorem d_Mo_restore_240 : decode prog_15_method_70_code 240 = .ok (.aload_n 0, 1) := by decide +kernel
theorem d_Mo_restore_241 : decode prog_15_method_70_code 241 = .ok (.aload_n 0, 1) := by decide +kernel
theorem d_Mo_restore_242 : decode prog_15_method_70_code 242 = .ok (.getfield 40, 3) := by decide +kernel
theorem d_Mo_restore_245 : decode prog_15_method_70_code 245 = .ok (.iload_n 1, 1) := by decide +kernel
theorem d_Mo_restore_246 : decode prog_15_method_70_code 246 = .ok (.iaload, 1) := by decide +kernel
theorem d_Mo_restore_247 : decode prog_15_method_70_code 247 = .ok (.putfield 325, 3) := by decide +kernel
theorem d_Mo_restore_250 : decode prog_15_method_70_code 250 = .ok (.aload_n 0, 1) := by decide +kernel
theorem d_Mo_restore_251 : decode prog_15_method_70_code 251 = .ok (.iconst 0, 1) := by decide +kernel
theorem d_Mo_restore_252 : decode prog_15_method_70_code 252 = .ok (.iload_n 1, 1) := by decide +kernel
theorem d_Mo_restore_253 : decode prog_15_method_70_code 253 = .ok (.iconst 1, 1) := by decide +kernel
theorem d_Mo_restore_254 : decode prog_15_method_70_code 254 = .ok (.iadd, 1) := by decide +kernel
theorem d_Mo_restore_255 : decode prog_15_method_70_code 255 = .ok (.invokevirtual 540, 3) := by decide +kernel
theorem d_Mo_restore_258 : decode prog_15_method_70_code 258 = .ok (.iconst 0, 1) := by decide +kernel
theorem d_Mo_restore_259 : decode prog_15_method_70_code 259 = .ok (.ireturn, 1) := by decide +kernel
theorem d_Mo_restore_222 : decode prog_15_method_70_code 222 = .ok (.bipush 10, 2) := by decide +kernel
theorem d_Mo_restore_224 : decode prog_15_method_70_code 224 = .ok (.ireturn, 1) := by decide +kernel
theorem d_Mo_restore_211 : decode prog_15_method_70_code 211 = .ok (.istore_n 2, 1) := by decide +kernel
theorem d_Mo_restore_212 : decode prog_15_method_70_code 212 = .ok (.iinc 3 1, 3) := by decide +kernel
theorem d_Mo_restore_215 : decode prog_15_method_70_code 215 = .ok (.goto (-72), 3) := by decide +kernel
theorem d_Mo_restore_151 : decode prog_15_method_70_code 151 = .ok (.iload_n 2, 1) := by decide +kernel
theorem d_Mo_restore_152 : decode prog_15_method_70_code 152 = .ok (.ifCond .ne 54, 3) := by decide +kernel
theorem d_Mo_restore_206 : decode prog_15_method_70_code 206 = .ok (.iconst 1, 1) := by decide +kernel
theorem d_Mo_restore_207 : decode prog_15_method_70_code 207 = .ok (.goto 4, 3) := by decide +kernel
theorem d_Mo_restore_155 : decode prog_15_method_70_code 155 = .ok (.aload_n 0, 1) := by decide +kernel
theorem d_Mo_restore_156 : decode prog_15_method_70_code 156 = .ok (.getfield 43, 3) := by decide +kernel
theorem d_Mo_restore_159 : decode prog_15_method_70_code 159 = .ok (.iload_n 3, 1) := by decide +kernel
theorem d_Mo_restore_160 : decode prog_15_method_70_code 160 = .ok (.iaload, 1) := by decide +kernel
theorem d_Mo_restore_161 : decode prog_15_method_70_code 161 = .ok (.iconst 1, 1) := by decide +kernel
theorem d_Mo_restore_162 : decode prog_15_method_70_code 162 = .ok (.if_icmp .ne 18, 3) := by decide +kernel
theorem d_Mo_restore_180 : decode prog_15_method_70_code 180 = .ok (.aload_n 0, 1) := by decide +kernel
theorem d_Mo_restore_181 : decode prog_15_method_70_code 181 = .ok (.getfield 43, 3) := by decide +kernel
theorem d_Mo_restore_184 : decode prog_15_method_70_code 184 = .ok (.iload_n 3, 1) := by decide +kernel
theorem d_Mo_restore_185 : decode prog_15_method_70_code 185 = .ok (.iaload, 1) := by decide +kernel
theorem d_Mo_restore_186 : decode prog_15_method_70_code 186 = .ok (.bipush 6, 2) := by decide +kernel
theorem d_Mo_restore_188 : decode prog_15_method_70_code 188 = .ok (.if_icmp .ne 22, 3) := by decide +kernel
theorem d_Mo_restore_210 : decode prog_15_method_70_code 210 = .ok (.iconst 0, 1) := by decide +kernel
theorem d_Mo_restore_191 : decode prog_15_method_70_code 191 = .ok (.aload_n 0, 1) := by decide +kernel
theorem d_Mo_restore_192 : decode prog_15_method_70_code 192 = .ok (.iconst 5, 1) := by decide +kernel
theorem d_Mo_restore_193 : decode prog_15_method_70_code 193 = .ok (.aload_n 0, 1) := by decide +kernel
theorem k_6_182 : Cond.fieldLink "PageScribeModel" 58 "PageScribeModel" "last" "[J" ∈ gw := gw_of (tb_6 (List.mem_of_getElem? (i := 182) (by decide +kernel))) (by decide +kernel)
theorem d_Mo_restore_194 : decode prog_15_method_70_code 194 = .ok (.getfield 58, 3) := by decide +kernel
theorem d_Mo_restore_197 : decode prog_15_method_70_code 197 = .ok (.iload_n 3, 1) := by decide +kernel
theorem d_Mo_restore_198 : decode prog_15_method_70_code 198 = .ok (.laload, 1) := by decide +kernel
theorem d_Mo_restore_199 : decode prog_15_method_70_code 199 = .ok (.iload_n 1, 1) := by decide +kernel
theorem d_Mo_restore_200 : decode prog_15_method_70_code 200 = .ok (.invokevirtual 543, 3) := by decide +kernel
theorem k_8_91 : Cond.code ⟨"PageScribeModel", "isNewer", "(IJI)Z"⟩ prog_15_method_69_code 5 (some .boolean) ∈ gw := gw_of (tb_8 (List.mem_of_getElem? (i := 91) (by decide +kernel))) (by decide +kernel)
theorem k_8_88 : Cond.methodLink "PageScribeModel" 543 ⟨"PageScribeModel", "isNewer", "(IJI)Z"⟩ ∈ gw := gw_of (tb_8 (List.mem_of_getElem? (i := 88) (by decide +kernel))) (by decide +kernel)
theorem k_8_90 : Cond.instanceMethod ⟨"PageScribeModel", "isNewer", "(IJI)Z"⟩ ∈ gw := gw_of (tb_8 (List.mem_of_getElem? (i := 90) (by decide +kernel))) (by decide +kernel)
theorem k_0_137 : Cond.selects "PageScribeModel" ⟨"PageScribeModel", "isNewer", "(IJI)Z"⟩ ⟨"PageScribeModel", "isNewer", "(IJI)Z"⟩ ∈ gw := gw_of (tb_0 (List.mem_of_getElem? (i := 137) (by decide +kernel))) (by decide +kernel)
theorem d_Mo_restore_203 : decode prog_15_method_70_code 203 = .ok (.ifCond .eq 7, 3) := by decide +kernel
theorem d_Mo_restore_165 : decode prog_15_method_70_code 165 = .ok (.aload_n 0, 1) := by decide +kernel
theorem d_Mo_restore_166 : decode prog_15_method_70_code 166 = .ok (.iconst 5, 1) := by decide +kernel
theorem d_Mo_restore_167 : decode prog_15_method_70_code 167 = .ok (.aload_n 0, 1) := by decide +kernel
theorem d_Mo_restore_168 : decode prog_15_method_70_code 168 = .ok (.getfield 46, 3) := by decide +kernel
theorem d_Mo_restore_171 : decode prog_15_method_70_code 171 = .ok (.iload_n 3, 1) := by decide +kernel
theorem d_Mo_restore_172 : decode prog_15_method_70_code 172 = .ok (.laload, 1) := by decide +kernel
theorem d_Mo_restore_173 : decode prog_15_method_70_code 173 = .ok (.iload_n 1, 1) := by decide +kernel
theorem d_Mo_restore_174 : decode prog_15_method_70_code 174 = .ok (.invokevirtual 543, 3) := by decide +kernel
theorem d_Mo_restore_177 : decode prog_15_method_70_code 177 = .ok (.ifCond .ne 29, 3) := by decide +kernel
theorem d_Mo_restore_134 : decode prog_15_method_70_code 134 = .ok (.istore_n 2, 1) := by decide +kernel
theorem d_Mo_restore_135 : decode prog_15_method_70_code 135 = .ok (.iinc 3 1, 3) := by decide +kernel
theorem d_Mo_restore_138 : decode prog_15_method_70_code 138 = .ok (.goto (-38), 3) := by decide +kernel
theorem d_Mo_restore_108 : decode prog_15_method_70_code 108 = .ok (.iload_n 2, 1) := by decide +kernel
theorem d_Mo_restore_109 : decode prog_15_method_70_code 109 = .ok (.ifCond .ne 20, 3) := by decide +kernel
theorem d_Mo_restore_129 : decode prog_15_method_70_code 129 = .ok (.iconst 1, 1) := by decide +kernel
theorem d_Mo_restore_130 : decode prog_15_method_70_code 130 = .ok (.goto 4, 3) := by decide +kernel
theorem d_Mo_restore_112 : decode prog_15_method_70_code 112 = .ok (.aload_n 0, 1) := by decide +kernel
theorem d_Mo_restore_113 : decode prog_15_method_70_code 113 = .ok (.bipush 6, 2) := by decide +kernel
theorem d_Mo_restore_115 : decode prog_15_method_70_code 115 = .ok (.aload_n 0, 1) := by decide +kernel
theorem d_Mo_restore_116 : decode prog_15_method_70_code 116 = .ok (.getfield 30, 3) := by decide +kernel
theorem d_Mo_restore_119 : decode prog_15_method_70_code 119 = .ok (.iload_n 3, 1) := by decide +kernel
theorem d_Mo_restore_120 : decode prog_15_method_70_code 120 = .ok (.iaload, 1) := by decide +kernel
theorem d_Mo_restore_121 : decode prog_15_method_70_code 121 = .ok (.i2l, 1) := by decide +kernel
theorem d_Mo_restore_122 : decode prog_15_method_70_code 122 = .ok (.iload_n 1, 1) := by decide +kernel
theorem d_Mo_restore_123 : decode prog_15_method_70_code 123 = .ok (.invokevirtual 543, 3) := by decide +kernel
theorem d_Mo_restore_126 : decode prog_15_method_70_code 126 = .ok (.ifCond .eq 7, 3) := by decide +kernel
theorem d_Mo_restore_133 : decode prog_15_method_70_code 133 = .ok (.iconst 0, 1) := by decide +kernel
theorem d_Mo_restore_91 : decode prog_15_method_70_code 91 = .ok (.istore_n 2, 1) := by decide +kernel
theorem d_Mo_restore_92 : decode prog_15_method_70_code 92 = .ok (.iinc 3 1, 3) := by decide +kernel
theorem d_Mo_restore_95 : decode prog_15_method_70_code 95 = .ok (.goto (-42), 3) := by decide +kernel
theorem d_Mo_restore_63 : decode prog_15_method_70_code 63 = .ok (.iload_n 2, 1) := by decide +kernel
theorem d_Mo_restore_64 : decode prog_15_method_70_code 64 = .ok (.ifCond .ne 22, 3) := by decide +kernel
theorem d_Mo_restore_86 : decode prog_15_method_70_code 86 = .ok (.iconst 1, 1) := by decide +kernel
theorem d_Mo_restore_87 : decode prog_15_method_70_code 87 = .ok (.goto 4, 3) := by decide +kernel
theorem d_Mo_restore_67 : decode prog_15_method_70_code 67 = .ok (.aload_n 0, 1) := by decide +kernel
theorem d_Mo_restore_68 : decode prog_15_method_70_code 68 = .ok (.aload_n 0, 1) := by decide +kernel
theorem d_Mo_restore_69 : decode prog_15_method_70_code 69 = .ok (.iload_n 3, 1) := by decide +kernel
theorem d_Mo_restore_70 : decode prog_15_method_70_code 70 = .ok (.invokevirtual 421, 3) := by decide +kernel
theorem d_Mo_restore_73 : decode prog_15_method_70_code 73 = .ok (.aload_n 0, 1) := by decide +kernel
theorem d_Mo_restore_74 : decode prog_15_method_70_code 74 = .ok (.getfield 13, 3) := by decide +kernel
theorem d_Mo_restore_77 : decode prog_15_method_70_code 77 = .ok (.iload_n 3, 1) := by decide +kernel
theorem d_Mo_restore_78 : decode prog_15_method_70_code 78 = .ok (.laload, 1) := by decide +kernel
theorem d_Mo_restore_79 : decode prog_15_method_70_code 79 = .ok (.iload_n 1, 1) := by decide +kernel
theorem d_Mo_restore_80 : decode prog_15_method_70_code 80 = .ok (.invokevirtual 543, 3) := by decide +kernel
theorem d_Mo_restore_83 : decode prog_15_method_70_code 83 = .ok (.ifCond .eq 7, 3) := by decide +kernel
theorem d_Mo_restore_90 : decode prog_15_method_70_code 90 = .ok (.iconst 0, 1) := by decide +kernel
theorem d_Mo_restore_46 : decode prog_15_method_70_code 46 = .ok (.bipush 10, 2) := by decide +kernel
theorem d_Mo_restore_48 : decode prog_15_method_70_code 48 = .ok (.ireturn, 1) := by decide +kernel
theorem d_Mo_restore_10 : decode prog_15_method_70_code 10 = .ok (.aload_n 0, 1) := by decide +kernel
theorem d_Mo_restore_11 : decode prog_15_method_70_code 11 = .ok (.getfield 37, 3) := by decide +kernel
theorem d_Mo_restore_14 : decode prog_15_method_70_code 14 = .ok (.iload_n 1, 1) := by decide +kernel
theorem d_Mo_restore_15 : decode prog_15_method_70_code 15 = .ok (.iaload, 1) := by decide +kernel
theorem d_Mo_restore_16 : decode prog_15_method_70_code 16 = .ok (.i2l, 1) := by decide +kernel
theorem d_Mo_restore_17 : decode prog_15_method_70_code 17 = .ok (.aload_n 0, 1) := by decide +kernel
theorem d_Mo_restore_18 : decode prog_15_method_70_code 18 = .ok (.getfield 13, 3) := by decide +kernel
theorem d_Mo_restore_21 : decode prog_15_method_70_code 21 = .ok (.aload_n 0, 1) := by decide +kernel
theorem d_Mo_restore_22 : decode prog_15_method_70_code 22 = .ok (.getfield 247, 3) := by decide +kernel
theorem d_Mo_restore_25 : decode prog_15_method_70_code 25 = .ok (.iconst 1, 1) := by decide +kernel
theorem d_Mo_restore_26 : decode prog_15_method_70_code 26 = .ok (.isub, 1) := by decide +kernel
theorem d_Mo_restore_27 : decode prog_15_method_70_code 27 = .ok (.laload, 1) := by decide +kernel
theorem d_Mo_restore_28 : decode prog_15_method_70_code 28 = .ok (.lcmp, 1) := by decide +kernel
theorem d_Mo_restore_29 : decode prog_15_method_70_code 29 = .ok (.ifCond .eq 9, 3) := by decide +kernel
theorem d_Mo_restore_32 : decode prog_15_method_70_code 32 = .ok (.iinc 1 1, 3) := by decide +kernel
theorem d_Mo_restore_35 : decode prog_15_method_70_code 35 = .ok (.goto (-33), 3) := by decide +kernel
set_option maxHeartbeats 4000000 in
set_option maxRecDepth 100000 in
theorem m_restore (l : Launch) (D : va_G) (T : Nat → ClassId) (h0 : Nat) (ar : Nat → Nat) (S : MS)  (sz : Nat) (hI : MI S) (h3 : 1 ≤ (f_size S).toInt) : Met l ⟨"PageScribeModel", "restore", "()I"⟩ (wy ⟨"PageScribeModel", "restore", "()I"⟩ prog_15_method_70_code 4 (some .int)) ({ frames := 2, cells := 0, slots := 0, locals := 140 }) (va_Pc [.ref h0] (Pw D T (mW T h0 ar S) sz E0)) (va_Qi (fun (r : Int32) (u : MS) => MI u ∧ kA S u ∧ kF S u ∧ (r.toInt = 0 ∨ r.toInt = 10)) (fun u t => Bw D T (va_A (mW T h0 ar S) sz) (mW T h0 ar u) t) (va_A (mW T h0 ar S) sz)) 0 0 (va_A (mW T h0 ar S) sz) := by
  refine j_met (y := ⟨"PageScribeModel", "restore", "()I"⟩) (b := prog_15_method_70_code) (n := 4) (ret := (some .int)) (av := [.ref h0]) (Qc := fun A => va_Qi (fun (r : Int32) (u : MS) => MI u ∧ kA S u ∧ kF S u ∧ (r.toInt = 0 ∨ r.toInt = 10)) (fun u t => Bw D T A (mW T h0 ar u) t) A) (by decide +kernel) (Nat.le_of_ble_eq_true rfl) (fun p e s m args below meth c A ls F hr hlocks hnm hK hP hD hS hA hN hE hl => ?_)
  obtain ⟨hx, hb, hml, hown, hts⟩ := id F
  have hl : lv_has ls 4 [(0, .ref h0)] := hl
  obtain ⟨i_size, i_taken, i_vals, i_room, i_dicts, i_deep, i_open, i_cells, i_points, i_part, i_length, i_knows, i_page, i_text, i_pats, i_fuel, i_fr, i_ink⟩ := id hI
  refine lv_iconst (v := 0) hx hb d_Mo_restore_0 (by decide) ?_
  refine lv_istore_n (lv' := [(1, .int 0), (0, .ref h0)]) hx hb d_Mo_restore_1 rfl hl (by decide) rfl (fun ls hl => ?_)
  refine j_loop (α := Int32) (fun k x H locs ls => (0 ≤ x.toInt ∧ x.toInt ≤ (f_open S).toInt ∧ 3 ≤ x.toInt + ((k : Nat) : Int)) ∧ va_P D classes (mW T h0 ar S) H ∧ va_D A (mW T h0 ar S) ∧ va_S A s.heap H locs ∧ lv_has ls 4 [(1, .int x), (0, .ref h0)]) (fun _ _ ls => F0 m 2 ls []) (fun k x H locs ls hI9 ih => ?_) 3 (0 : Int32) _ _ _ ⟨(show 0 ≤ (0 : Int32).toInt ∧ (0 : Int32).toInt ≤ (f_open S).toInt ∧ 3 ≤ (0 : Int32).toInt + ((3 : Nat) : Int) by have := tI_0; omega), hP, hD, hS, lv_sub hl [0, 1] rfl⟩
  obtain ⟨a, rfl⟩ : ∃ z, z = x := ⟨_, rfl⟩
  obtain ⟨hf1, hP, hD, hS, hl⟩ := hI9
  have hf1 : 0 ≤ a.toInt ∧ a.toInt ≤ (f_open S).toInt ∧ 3 ≤ a.toInt + ((k : Nat) : Int) := hf1
  have hP : va_P D classes (mW T h0 ar S) H := hP
  have hD : va_D A (mW T h0 ar S) := hD
  have hl : lv_has ls 4 [(1, .int a), (0, .ref h0)] := hl
  refine lv_iload_n hx hb d_Mo_restore_2 rfl (lv_at hl 0 rfl) ?_
  refine lv_aload_n hx hb d_Mo_restore_3 rfl (lv_at hl 1 rfl) ?_
  refine va_get (D := D) (ci := 11) (v := .int (f_open S)) (C := "PageScribeModel") (T := F_Mo) (N := 45) hx hb hts i_Mo hown hK hP 0 mW_0 cl_11 12 (by decide) (hts _ k_6_172) (fun _ h9 => h9) (mg_open _ _) d_Mo_restore_4 ?_
  refine lv_icmp_ge (tgt := 38) hx hb d_Mo_restore_7 (by decide) (fun c7_1 => ?_) (fun c7_1 => ?_)
  · have fc7_1 : (f_open S).toInt ≤ a.toInt := zt_le (show (f_open S).toInt = _ from rfl) (show a.toInt = _ from rfl) c7_1
    refine lv_iload_n hx hb d_Mo_restore_38 rfl (lv_at hl 0 rfl) ?_
    refine lv_aload_n hx hb d_Mo_restore_39 rfl (lv_at hl 1 rfl) ?_
    refine va_get (D := D) (ci := 11) (v := .int (f_open S)) (C := "PageScribeModel") (T := F_Mo) (N := 45) hx hb hts i_Mo hown hK hP 0 mW_0 cl_11 12 (by decide) (hts _ k_6_172) (fun _ h9 => h9) (mg_open _ _) d_Mo_restore_40 ?_
    refine lv_icmp_ne (tgt := 49) hx hb d_Mo_restore_43 (by decide) (fun c43_1 => ?_) (fun c43_1 => ?_)
    · first | have fc43_1 : a.toInt < (f_open S).toInt := (by have := zt_ne (show a.toInt = _ from rfl) (show (f_open S).toInt = _ from rfl) c43_1; omega) | have fc43_1 : (f_open S).toInt < a.toInt := (by have := zt_ne (show a.toInt = _ from rfl) (show (f_open S).toInt = _ from rfl) c43_1; omega) | skip
      refine lv_iconst (v := 0) hx hb d_Mo_restore_49 (by decide) ?_
      refine lv_istore_n (lv' := [(2, .int 0), (1, .int a), (0, .ref h0)]) hx hb d_Mo_restore_50 rfl hl (by decide) rfl (fun ls hl => ?_)
      refine lv_iconst (v := 0) hx hb d_Mo_restore_51 (by decide) ?_
      refine lv_istore_n (lv' := [(3, .int 0), (2, .int 0), (1, .int a), (0, .ref h0)]) hx hb d_Mo_restore_52 rfl hl (by decide) rfl (fun ls hl => ?_)
      refine j_loop (α := Int32 × Int32) (fun k x H locs ls => (0 ≤ x.2.toInt ∧ x.2.toInt ≤ 40 ∧ 40 ≤ x.2.toInt + ((k : Nat) : Int)) ∧ va_P D classes (mW T h0 ar S) H ∧ va_D A (mW T h0 ar S) ∧ va_S A s.heap H locs ∧ lv_has ls 4 [(3, .int x.2), (2, .int x.1), (1, .int a), (0, .ref h0)]) (fun _ _ ls => F0 m 53 ls []) (fun k2 x H locs ls hI9 ih2 => ?_) 40 ((0 : Int32), (0 : Int32)) _ _ _ ⟨(show 0 ≤ (0 : Int32).toInt ∧ (0 : Int32).toInt ≤ 40 ∧ 40 ≤ (0 : Int32).toInt + ((40 : Nat) : Int) by have := tI_0; have := tI_0; omega), hP, hD, hS, lv_sub hl [0, 1, 2, 3] rfl⟩
      obtain ⟨nw, i⟩ := x
      obtain ⟨hf2, hP, hD, hS, hl⟩ := hI9
      have hf2 : 0 ≤ i.toInt ∧ i.toInt ≤ 40 ∧ 40 ≤ i.toInt + ((k2 : Nat) : Int) := hf2
      have hP : va_P D classes (mW T h0 ar S) H := hP
      have hD : va_D A (mW T h0 ar S) := hD
      have hl : lv_has ls 4 [(3, .int i), (2, .int nw), (1, .int a), (0, .ref h0)] := hl
      refine lv_iload_n hx hb d_Mo_restore_53 rfl (lv_at hl 0 rfl) ?_
      refine lv_aload_n hx hb d_Mo_restore_54 rfl (lv_at hl 3 rfl) ?_
      refine va_get (D := D) (ci := 11) (v := .int (f_size S)) (C := "PageScribeModel") (T := F_Mo) (N := 45) hx hb hts i_Mo hown hK hP 0 mW_0 cl_11 4 (by decide) (hts _ k_6_164) (fun _ h9 => h9) (mg_size _ _) d_Mo_restore_55 ?_
      refine lv_iconst (v := 1) hx hb d_Mo_restore_58 (by decide) ?_
      refine lv_isub hx hb d_Mo_restore_59 ?_
      refine lv_topi (fun x1 ex1 => ?_)
      have fx1 : x1.toInt = ((f_size S).toInt - 1) := by rw [ex1]; exact (zt_sub (show (f_size S).toInt = _ from rfl) tI_1 (by omega) (by omega)).trans (by omega)
      refine lv_icmp_ge (tgt := 98) hx hb d_Mo_restore_60 (by decide) (fun c60_1 => ?_) (fun c60_1 => ?_)
      · have fc60_1 : ((f_size S).toInt - 1) ≤ i.toInt := zt_le fx1 (show i.toInt = _ from rfl) c60_1
        refine lv_iconst (v := 0) hx hb d_Mo_restore_98 (by decide) ?_
        refine lv_istore_n (lv' := [(3, .int 0), (2, .int nw), (1, .int a), (0, .ref h0)]) hx hb d_Mo_restore_99 rfl hl (by decide) rfl (fun ls hl => ?_)
        refine j_loop (α := Int32 × Int32) (fun k x H locs ls => (0 ≤ x.2.toInt ∧ x.2.toInt ≤ 40 ∧ 40 ≤ x.2.toInt + ((k : Nat) : Int)) ∧ va_P D classes (mW T h0 ar S) H ∧ va_D A (mW T h0 ar S) ∧ va_S A s.heap H locs ∧ lv_has ls 4 [(3, .int x.2), (2, .int x.1), (1, .int a), (0, .ref h0)]) (fun _ _ ls => F0 m 100 ls []) (fun k3 x H locs ls hI9 ih3 => ?_) 40 (nw, (0 : Int32)) _ _ _ ⟨(show 0 ≤ (0 : Int32).toInt ∧ (0 : Int32).toInt ≤ 40 ∧ 40 ≤ (0 : Int32).toInt + ((40 : Nat) : Int) by have := tI_0; omega), hP, hD, hS, lv_sub hl [0, 1, 2, 3] rfl⟩
        obtain ⟨nw, i⟩ := x
        obtain ⟨hf3, hP, hD, hS, hl⟩ := hI9
        have hf3 : 0 ≤ i.toInt ∧ i.toInt ≤ 40 ∧ 40 ≤ i.toInt + ((k3 : Nat) : Int) := hf3
        have hP : va_P D classes (mW T h0 ar S) H := hP
        have hD : va_D A (mW T h0 ar S) := hD
        have hl : lv_has ls 4 [(3, .int i), (2, .int nw), (1, .int a), (0, .ref h0)] := hl
        refine lv_iload_n hx hb d_Mo_restore_100 rfl (lv_at hl 0 rfl) ?_
        refine lv_aload_n hx hb d_Mo_restore_101 rfl (lv_at hl 3 rfl) ?_
        refine va_get (D := D) (ci := 11) (v := .int (f_deep S)) (C := "PageScribeModel") (T := F_Mo) (N := 45) hx hb hts i_Mo hown hK hP 0 mW_0 cl_11 10 (by decide) (hts _ k_6_170) (fun _ h9 => h9) (mg_deep _ _) d_Mo_restore_102 ?_
        refine lv_icmp_ge (tgt := 141) hx hb d_Mo_restore_105 (by decide) (fun c105_1 => ?_) (fun c105_1 => ?_)
        · have fc105_1 : (f_deep S).toInt ≤ i.toInt := zt_le (show (f_deep S).toInt = _ from rfl) (show i.toInt = _ from rfl) c105_1
          refine lv_iconst (v := 0) hx hb d_Mo_restore_141 (by decide) ?_
          refine lv_istore_n (lv' := [(3, .int 0), (2, .int nw), (1, .int a), (0, .ref h0)]) hx hb d_Mo_restore_142 rfl hl (by decide) rfl (fun ls hl => ?_)
          refine j_loop (α := Int32 × Int32) (fun k x H locs ls => (0 ≤ x.2.toInt ∧ x.2.toInt ≤ 40 ∧ 40 ≤ x.2.toInt + ((k : Nat) : Int)) ∧ va_P D classes (mW T h0 ar S) H ∧ va_D A (mW T h0 ar S) ∧ va_S A s.heap H locs ∧ lv_has ls 4 [(3, .int x.2), (2, .int x.1), (1, .int a), (0, .ref h0)]) (fun _ _ ls => F0 m 143 ls []) (fun k4 x H locs ls hI9 ih4 => ?_) 40 (nw, (0 : Int32)) _ _ _ ⟨(show 0 ≤ (0 : Int32).toInt ∧ (0 : Int32).toInt ≤ 40 ∧ 40 ≤ (0 : Int32).toInt + ((40 : Nat) : Int) by have := tI_0; omega), hP, hD, hS, lv_sub hl [0, 1, 2, 3] rfl⟩
          obtain ⟨nw, i⟩ := x
          obtain ⟨hf4, hP, hD, hS, hl⟩ := hI9
          have hf4 : 0 ≤ i.toInt ∧ i.toInt ≤ 40 ∧ 40 ≤ i.toInt + ((k4 : Nat) : Int) := hf4
          have hP : va_P D classes (mW T h0 ar S) H := hP
          have hD : va_D A (mW T h0 ar S) := hD
          have hl : lv_has ls 4 [(3, .int i), (2, .int nw), (1, .int a), (0, .ref h0)] := hl
          refine lv_iload_n hx hb d_Mo_restore_143 rfl (lv_at hl 0 rfl) ?_
          refine lv_aload_n hx hb d_Mo_restore_144 rfl (lv_at hl 3 rfl) ?_
          refine va_get (D := D) (ci := 11) (v := .int (f_frames S)) (C := "PageScribeModel") (T := F_Mo) (N := 45) hx hb hts i_Mo hown hK hP 0 mW_0 cl_11 15 (by decide) (hts _ k_6_175) (fun _ h9 => h9) (mg_frames _ _) d_Mo_restore_145 ?_
          refine lv_icmp_ge (tgt := 218) hx hb d_Mo_restore_148 (by decide) (fun c148_1 => ?_) (fun c148_1 => ?_)
          · have fc148_1 : (f_frames S).toInt ≤ i.toInt := zt_le (show (f_frames S).toInt = _ from rfl) (show i.toInt = _ from rfl) c148_1
            refine lv_iload_n hx hb d_Mo_restore_218 rfl (lv_at hl 1 rfl) ?_
            refine lv_if_eq (tgt := 225) hx hb d_Mo_restore_219 (by decide) (fun c219_1 => ?_) (fun c219_1 => ?_)
            · have fc219_1 : nw.toInt = 0 := zt_eq (show nw.toInt = _ from rfl) tI_0 c219_1
              refine lv_aload_n hx hb d_Mo_restore_225 rfl (lv_at hl 3 rfl) ?_
              refine lv_dup hx hb d_Mo_restore_226 rfl ?_
              refine va_get (D := D) (ci := 11) (v := .int (f_size S)) (C := "PageScribeModel") (T := F_Mo) (N := 45) hx hb hts i_Mo hown hK hP 0 mW_0 cl_11 4 (by decide) (hts _ k_6_164) (fun _ h9 => h9) (mg_size _ _) d_Mo_restore_227 ?_
              refine lv_iconst (v := 1) hx hb d_Mo_restore_230 (by decide) ?_
              refine lv_isub hx hb d_Mo_restore_231 ?_
              refine lv_topi (fun x2 ex2 => ?_)
              have fx2 : x2.toInt = ((f_size S).toInt - 1) := by rw [ex2]; exact (zt_sub (show (f_size S).toInt = _ from rfl) tI_1 (by omega) (by omega)).trans (by omega)
              refine va_put (D := D) (ci := 11) (v := .int x2) (ty := .int) (C := "PageScribeModel") (T := F_Mo) (N := 45) hx hb hts i_Mo t_Mo t_Mo_ok n_Mo hown hK hP hD hS 0 mW_0 cl_11 4 (by decide) (hts _ k_6_164) (fun _ h9 => h9) rfl (by decide +kernel) rfl rfl (Nat.le_of_ble_eq_true rfl) d_Mo_restore_232 (fun H locs hP hD hS => ?_)
              rw [mp_size] at hP hD
              have hP : va_P D classes (mW T h0 ar ((((f_thrown S), (a_kinds S), (a_codes S), (a_reals S), x2, (f_taken S), (a_words S), (a_many S)), S.2.1, S.2.2.1, S.2.2.2.1, S.2.2.2.2.1, S.2.2.2.2.2) : MS)) H := hP
              have hD : va_D A (mW T h0 ar ((((f_thrown S), (a_kinds S), (a_codes S), (a_reals S), x2, (f_taken S), (a_words S), (a_many S)), S.2.1, S.2.2.1, S.2.2.2.1, S.2.2.2.2.1, S.2.2.2.2.2) : MS)) := hD
              refine lv_aload_n hx hb d_Mo_restore_235 rfl (lv_at hl 3 rfl) ?_
              refine lv_iload_n hx hb d_Mo_restore_236 rfl (lv_at hl 2 rfl) ?_
              refine va_put (D := D) (ci := 11) (v := .int a) (ty := .int) (C := "PageScribeModel") (T := F_Mo) (N := 45) hx hb hts i_Mo t_Mo t_Mo_ok n_Mo hown hK hP hD hS 0 mW_0 cl_11 12 (by decide) (hts _ k_6_172) (fun _ h9 => h9) rfl (by decide +kernel) rfl rfl (Nat.le_of_ble_eq_true rfl) d_Mo_restore_237 (fun H locs hP hD hS => ?_)
              rw [mp_open] at hP hD
              have hP : va_P D classes (mW T h0 ar ((((f_thrown S), (a_kinds S), (a_codes S), (a_reals S), x2, (f_taken S), (a_words S), (a_many S)), ((a_room S), (a_dicts S), (f_deep S), (f_saves S), a, (a_numbers S), (a_cells S), (f_frames S)), S.2.2.1, S.2.2.2.1, S.2.2.2.2.1, S.2.2.2.2.2) : MS)) H := hP
              have hD : va_D A (mW T h0 ar ((((f_thrown S), (a_kinds S), (a_codes S), (a_reals S), x2, (f_taken S), (a_words S), (a_many S)), ((a_room S), (a_dicts S), (f_deep S), (f_saves S), a, (a_numbers S), (a_cells S), (f_frames S)), S.2.2.1, S.2.2.2.1, S.2.2.2.2.1, S.2.2.2.2.2) : MS)) := hD
              refine lv_aload_n hx hb d_Mo_restore_240 rfl (lv_at hl 3 rfl) ?_
              refine lv_aload_n hx hb d_Mo_restore_241 rfl (lv_at hl 3 rfl) ?_
              refine va_get (D := D) (ci := 11) (v := .ref (ar 8)) (C := "PageScribeModel") (T := F_Mo) (N := 45) hx hb hts i_Mo hown hK hP 0 mW_0 cl_11 14 (by decide) (hts _ k_6_174) (fun _ h9 => h9) (mg_cells _ _) d_Mo_restore_242 ?_
              refine lv_iload_n hx hb d_Mo_restore_245 rfl (lv_at hl 2 rfl) ?_
              refine va_iald hx hb hK hP 9 0 (ma_cells _ _ _ _) rfl (zt_in (show a.toInt = _ from rfl) (by omega) (by omega)) d_Mo_restore_246 ?_
              refine lv_topi (fun x3 ex3 => ?_)
              have gx3 : x3 = (a_cells S) a.toInt.toNat := ex3.trans (congrArg _ (zt_ix (show a.toInt = _ from rfl)))
              have fx3 : x3.toInt = ((a_cells S) a.toInt.toNat).toInt := by rw [gx3]
              have kx3 := i_cells (a.toInt.toNat) (by omega)
              refine va_put (D := D) (ci := 11) (v := .int x3) (ty := .int) (C := "PageScribeModel") (T := F_Mo) (N := 45) hx hb hts i_Mo t_Mo t_Mo_ok n_Mo hown hK hP hD hS 0 mW_0 cl_11 5 (by decide) (hts _ k_6_165) (fun _ h9 => h9) rfl (by decide +kernel) rfl rfl (Nat.le_of_ble_eq_true rfl) d_Mo_restore_247 (fun H locs hP hD hS => ?_)
              rw [mp_taken] at hP hD
              have hP : va_P D classes (mW T h0 ar ((((f_thrown S), (a_kinds S), (a_codes S), (a_reals S), x2, x3, (a_words S), (a_many S)), ((a_room S), (a_dicts S), (f_deep S), (f_saves S), a, (a_numbers S), (a_cells S), (f_frames S)), S.2.2.1, S.2.2.2.1, S.2.2.2.2.1, S.2.2.2.2.2) : MS)) H := hP
              have hD : va_D A (mW T h0 ar ((((f_thrown S), (a_kinds S), (a_codes S), (a_reals S), x2, x3, (a_words S), (a_many S)), ((a_room S), (a_dicts S), (f_deep S), (f_saves S), a, (a_numbers S), (a_cells S), (f_frames S)), S.2.2.1, S.2.2.2.1, S.2.2.2.2.1, S.2.2.2.2.2) : MS)) := hD
              refine lv_aload_n hx hb d_Mo_restore_250 rfl (lv_at hl 3 rfl) ?_
              refine lv_iconst (v := 0) hx hb d_Mo_restore_251 (by decide) ?_
              refine lv_iload_n hx hb d_Mo_restore_252 rfl (lv_at hl 2 rfl) ?_
              refine lv_iconst (v := 1) hx hb d_Mo_restore_253 (by decide) ?_
              refine lv_iadd hx hb d_Mo_restore_254 ?_
              refine lv_topi (fun x4 ex4 => ?_)
              have fx4 : x4.toInt = (a.toInt + 1) := by rw [ex4]; exact (zt_add (show a.toInt = _ from rfl) tI_1 (by omega) (by omega)).trans (by omega)
              refine jm_cv (w := (fun u => u)) hK hP hD hS hA (va_runV (As := [.int 0, .int x4]) (rest := []) F (m_copyAll l D T h0 ar ((((f_thrown S), (a_kinds S), (a_codes S), (a_reals S), x2, x3, (a_words S), (a_many S)), ((a_room S), (a_dicts S), (f_deep S), (f_saves S), a, (a_numbers S), (a_cells S), (f_frames S)), S.2.2.1, S.2.2.2.1, S.2.2.2.2.1, S.2.2.2.2.2) : MS) (0 : Int32) x4 H.size ⟨(show 0 ≤ x2.toInt ∧ x2.toInt ≤ 40 by omega), (show 0 ≤ x3.toInt ∧ x3.toInt ≤ 160 by omega), i_vals, i_room, i_dicts, i_deep, (show 0 ≤ a.toInt ∧ a.toInt ≤ 3 by omega), i_cells, i_points, i_part, i_length, i_knows, i_page, i_text, i_pats, i_fuel, i_fr, i_ink⟩ (show 0 ≤ (0 : Int32).toInt ∧ (0 : Int32).toInt ≤ 3 ∧ 0 ≤ x4.toInt ∧ x4.toInt ≤ 3 by have := tI_0; first | omega | (simp only [fx4]; omega))) (j_cV (k := 2) (C := "PageScribeModel") hts k_8_83 k_1_12 k_8_80 k_8_82 k_0_135 (by decide +kernel) ⟨Nat.le_of_ble_eq_true rfl, Nat.le_of_ble_eq_true rfl⟩) (jm_pre hK hP hD) rfl rfl hl.1 rfl (lv_room (Nat.le_of_ble_eq_true rfl)) d_Mo_restore_255 ⟨Nat.le_of_ble_eq_true rfl, Nat.le_of_ble_eq_true rfl⟩) (fun S1 H locs hw1 hP hD hS => ?_)
              have hP : va_P D classes (mW T h0 ar S1) H := hP
              have hD : va_D A (mW T h0 ar S1) := hD
              obtain ⟨⟨i_size, i_taken, i_vals, i_room, i_dicts, i_deep, i_open, i_cells, i_points, i_part, i_length, i_knows, i_page, i_text, i_pats, i_fuel, i_fr, i_ink⟩, kpA_S1, kpF_S1⟩ := hw1
              have kSA_S1 : kA S S1 := kA_t (show kA S ((((f_thrown S), (a_kinds S), (a_codes S), (a_reals S), x2, x3, (a_words S), (a_many S)), ((a_room S), (a_dicts S), (f_deep S), (f_saves S), a, (a_numbers S), (a_cells S), (f_frames S)), S.2.2.1, S.2.2.2.1, S.2.2.2.2.1, S.2.2.2.2.2) : MS) from (kA_r S)) kpA_S1
              have kSF_S1 : kF S S1 := kF_t (show kF S ((((f_thrown S), (a_kinds S), (a_codes S), (a_reals S), x2, x3, (a_words S), (a_many S)), ((a_room S), (a_dicts S), (f_deep S), (f_saves S), a, (a_numbers S), (a_cells S), (f_frames S)), S.2.2.1, S.2.2.2.1, S.2.2.2.2.1, S.2.2.2.2.2) : MS) from (kF_r S)) kpF_S1
              have kST_S1 : kT S S1 := kT_t (show kT S ((((f_thrown S), (a_kinds S), (a_codes S), (a_reals S), x2, x3, (a_words S), (a_many S)), ((a_room S), (a_dicts S), (f_deep S), (f_saves S), a, (a_numbers S), (a_cells S), (f_frames S)), S.2.2.1, S.2.2.2.1, S.2.2.2.2.1, S.2.2.2.2.2) : MS) from (kT_r S)) (kT_A kpA_S1)
              refine lv_iconst (v := 0) hx hb d_Mo_restore_258 (by decide) ?_
              exact j_iret F hr hlocks hK hS S1 ⟨⟨i_size, i_taken, i_vals, i_room, i_dicts, i_deep, i_open, i_cells, i_points, i_part, i_length, i_knows, i_page, i_text, i_pats, i_fuel, i_fr, i_ink⟩, kSA_S1, kSF_S1, (show (0 : Int32).toInt = 0 ∨ (0 : Int32).toInt = 10 by have := tI_0; omega)⟩ hP hD d_Mo_restore_259
            · first | have fc219_1 : nw.toInt < 0 := (by have := zt_ne (show nw.toInt = _ from rfl) tI_0 c219_1; omega) | have fc219_1 : 0 < nw.toInt := (by have := zt_ne (show nw.toInt = _ from rfl) tI_0 c219_1; omega) | skip
              refine lv_bipush (v := 10) hx hb d_Mo_restore_222 (by decide) ?_
              exact j_iret F hr hlocks hK hS S ⟨⟨i_size, i_taken, i_vals, i_room, i_dicts, i_deep, i_open, i_cells, i_points, i_part, i_length, i_knows, i_page, i_text, i_pats, i_fuel, i_fr, i_ink⟩, (kA_r S), (kF_r S), (show (10 : Int32).toInt = 0 ∨ (10 : Int32).toInt = 10 by have := tI_10; omega)⟩ hP hD d_Mo_restore_224
          · have fc148_1 : i.toInt < (f_frames S).toInt := Int.not_le.mp (zt_nle (show (f_frames S).toInt = _ from rfl) (show i.toInt = _ from rfl) c148_1)
            refine j_joinH (α := Int32) (fun x H locs ls => (True) ∧ va_P D classes (mW T h0 ar S) H ∧ va_D A (mW T h0 ar S) ∧ va_S A s.heap H locs ∧ lv_has ls 4 [(3, .int i), (2, .int nw), (1, .int a), (0, .ref h0)]) (fun x ls => F0 m 211 ls (.int x :: [])) (fun x H locs ls hI9 => ?_) (fun key1 => ?_)
            · obtain ⟨j1, rfl⟩ : ∃ z, z = x := ⟨_, rfl⟩
              obtain ⟨hj1, hP, hD, hS, hl⟩ := hI9
              have hP : va_P D classes (mW T h0 ar S) H := hP
              have hD : va_D A (mW T h0 ar S) := hD
              have hl : lv_has ls 4 [(3, .int i), (2, .int nw), (1, .int a), (0, .ref h0)] := hl
              refine lv_istore_n (lv' := [(2, .int j1), (3, .int i), (1, .int a), (0, .ref h0)]) hx hb d_Mo_restore_211 rfl hl (by decide) rfl (fun ls hl => ?_)
              refine lv_iinc (v := (i + 1)) (lv' := [(3, .int (i + 1)), (2, .int j1), (1, .int a), (0, .ref h0)]) hx hb d_Mo_restore_212 hl (k := 1) rfl (by first | rfl | decide) (by decide) rfl (fun ls hl => ?_)
              obtain ⟨x5, ex5⟩ : ∃ z, z = (i + 1) := ⟨_, rfl⟩
              rw [← ex5] at hl
              have fx5 : x5.toInt = (i.toInt + 1) := by rw [ex5]; exact (zt_add (show i.toInt = _ from rfl) tI_1 (by omega) (by omega)).trans (by omega)
              have hl : lv_has ls 4 [(3, .int x5), (2, .int j1), (1, .int a), (0, .ref h0)] := hl
              refine lv_goto (tgt := 143) hx hb d_Mo_restore_215 (by decide) ?_
              exact ih4 (k4 - 1) (j1, x5) _ _ _ (by omega) ⟨(show 0 ≤ x5.toInt ∧ x5.toInt ≤ 40 ∧ 40 ≤ x5.toInt + (((k4 - 1) : Nat) : Int) by omega), hP, hD, hS, lv_sub hl [0, 1, 2, 3] rfl⟩
            · refine lv_iload_n hx hb d_Mo_restore_151 rfl (lv_at hl 1 rfl) ?_
              refine lv_if_ne (tgt := 206) hx hb d_Mo_restore_152 (by decide) (fun c152_1 => ?_) (fun c152_1 => ?_)
              · first | have fc152_1 : nw.toInt < 0 := (by have := zt_ne (show nw.toInt = _ from rfl) tI_0 c152_1; omega) | have fc152_1 : 0 < nw.toInt := (by have := zt_ne (show nw.toInt = _ from rfl) tI_0 c152_1; omega) | skip
                refine lv_iconst (v := 1) hx hb d_Mo_restore_206 (by decide) ?_
                refine lv_goto (tgt := 211) hx hb d_Mo_restore_207 (by decide) ?_
                exact key1 (1 : Int32) _ _ _ ⟨trivial, hP, hD, hS, lv_sub hl [0, 1, 2, 3] rfl⟩
              · have fc152_1 : nw.toInt = 0 := zt_eq (show nw.toInt = _ from rfl) tI_0 c152_1
                refine lv_aload_n hx hb d_Mo_restore_155 rfl (lv_at hl 3 rfl) ?_
                refine va_get (D := D) (ci := 11) (v := .ref (ar 9)) (C := "PageScribeModel") (T := F_Mo) (N := 45) hx hb hts i_Mo hown hK hP 0 mW_0 cl_11 17 (by decide) (hts _ k_6_177) (fun _ h9 => h9) (mg_what _ _) d_Mo_restore_156 ?_
                refine lv_iload_n hx hb d_Mo_restore_159 rfl (lv_at hl 0 rfl) ?_
                refine va_iald hx hb hK hP 10 0 (ma_what _ _ _ _) rfl (zt_in (show i.toInt = _ from rfl) (by omega) (by omega)) d_Mo_restore_160 ?_
                refine lv_topi (fun x6 ex6 => ?_)
                have gx6 : x6 = (a_what S) i.toInt.toNat := ex6.trans (congrArg _ (zt_ix (show i.toInt = _ from rfl)))
                have fx6 : x6.toInt = ((a_what S) i.toInt.toNat).toInt := by rw [gx6]
                refine lv_iconst (v := 1) hx hb d_Mo_restore_161 (by decide) ?_
                refine lv_icmp_ne (tgt := 180) hx hb d_Mo_restore_162 (by decide) (fun c162_1 => ?_) (fun c162_1 => ?_)
                · have fc162_1 : ¬ x6.toInt = 1 := zt_ne (show x6.toInt = _ from rfl) tI_1 c162_1
                  refine lv_aload_n hx hb d_Mo_restore_180 rfl (lv_at hl 3 rfl) ?_
                  refine va_get (D := D) (ci := 11) (v := .ref (ar 9)) (C := "PageScribeModel") (T := F_Mo) (N := 45) hx hb hts i_Mo hown hK hP 0 mW_0 cl_11 17 (by decide) (hts _ k_6_177) (fun _ h9 => h9) (mg_what _ _) d_Mo_restore_181 ?_
                  refine lv_iload_n hx hb d_Mo_restore_184 rfl (lv_at hl 0 rfl) ?_
                  refine va_iald hx hb hK hP 10 0 (ma_what _ _ _ _) rfl (zt_in (show i.toInt = _ from rfl) (by omega) (by omega)) d_Mo_restore_185 ?_
                  refine j_eqi (y := x6) ex6.symm ?_
                  refine lv_bipush (v := 6) hx hb d_Mo_restore_186 (by decide) ?_
                  refine lv_icmp_ne (tgt := 210) hx hb d_Mo_restore_188 (by decide) (fun c188_1 => ?_) (fun c188_1 => ?_)
                  · first | have fc188_1 : x6.toInt < 6 := (by have := zt_ne (show x6.toInt = _ from rfl) tI_6 c188_1; omega) | have fc188_1 : 6 < x6.toInt := (by have := zt_ne (show x6.toInt = _ from rfl) tI_6 c188_1; omega) | skip
                    refine lv_iconst (v := 0) hx hb d_Mo_restore_210 (by decide) ?_
                    exact key1 (0 : Int32) _ _ _ ⟨trivial, hP, hD, hS, lv_sub hl [0, 1, 2, 3] rfl⟩
                  · have fc188_1 : x6.toInt = 6 := zt_eq (show x6.toInt = _ from rfl) tI_6 c188_1
                    refine lv_aload_n hx hb d_Mo_restore_191 rfl (lv_at hl 3 rfl) ?_
                    refine lv_iconst (v := 5) hx hb d_Mo_restore_192 (by decide) ?_
                    refine lv_aload_n hx hb d_Mo_restore_193 rfl (lv_at hl 3 rfl) ?_
                    refine va_get (D := D) (ci := 11) (v := .ref (ar 14)) (C := "PageScribeModel") (T := F_Mo) (N := 45) hx hb hts i_Mo hown hK hP 0 mW_0 cl_11 22 (by decide) (hts _ k_6_182) (fun _ h9 => h9) (mg_last _ _) d_Mo_restore_194 ?_
                    refine lv_iload_n hx hb d_Mo_restore_197 rfl (lv_at hl 0 rfl) ?_
                    refine va_lald hx hb hK hP 15 1 (ma_last _ _ _ _) rfl (zt_in (show i.toInt = _ from rfl) (by omega) (by omega)) d_Mo_restore_198 ?_
                    refine lv_topl (fun x7 ex7 => ?_)
                    have gx7 : x7 = (a_last S) i.toInt.toNat := ex7.trans (congrArg _ (zt_ix (show i.toInt = _ from rfl)))
                    have fx7 : x7.toInt = ((a_last S) i.toInt.toNat).toInt := by rw [gx7]
                    refine lv_iload_n hx hb d_Mo_restore_199 rfl (lv_at hl 2 rfl) ?_
                    refine jm_ci (w := (fun _ => S)) hK hP hD hS hA (va_runV (As := [.int 5, .long x7, .int a]) (rest := []) F (m_isNewer l D T h0 ar S (5 : Int32) x7 a H.size ⟨i_size, i_taken, i_vals, i_room, i_dicts, i_deep, i_open, i_cells, i_points, i_part, i_length, i_knows, i_page, i_text, i_pats, i_fuel, i_fr, i_ink⟩ (show 0 ≤ a.toInt ∧ a.toInt ≤ 2 by have := tI_5; omega) (fun q => by have := (i_fr.2.1 i.toInt.toNat (by omega)).2.2.2.2.1 (by omega); omega) (fun q => by have := tI_5; omega)) (j_cV (k := 3) (C := "PageScribeModel") hts k_8_91 k_1_12 k_8_88 k_8_90 k_0_137 (by decide +kernel) ⟨Nat.le_of_ble_eq_true rfl, Nat.le_of_ble_eq_true rfl⟩) (jm_pre hK hP hD) rfl rfl hl.1 rfl (lv_room (Nat.le_of_ble_eq_true rfl)) d_Mo_restore_200 ⟨Nat.le_of_ble_eq_true rfl, Nat.le_of_ble_eq_true rfl⟩) (fun rv2 u1 H locs hw2 hP hD hS => ?_)
                    have hP : va_P D classes (mW T h0 ar S) H := hP
                    have hD : va_D A (mW T h0 ar S) := hD
                    have qhw2 : rv2.toInt = 0 ∨ rv2.toInt = 1 := by simpa only [tI_5] using hw2
                    refine lv_if_eq (tgt := 210) hx hb d_Mo_restore_203 (by decide) (fun c203_1 => ?_) (fun c203_1 => ?_)
                    · have fc203_1 : rv2.toInt = 0 := zt_eq (show rv2.toInt = _ from rfl) tI_0 c203_1
                      refine lv_iconst (v := 0) hx hb d_Mo_restore_210 (by decide) ?_
                      exact key1 (0 : Int32) _ _ _ ⟨trivial, hP, hD, hS, lv_sub hl [0, 1, 2, 3] rfl⟩
                    · first | have fc203_1 : rv2.toInt < 0 := (by have := zt_ne (show rv2.toInt = _ from rfl) tI_0 c203_1; omega) | have fc203_1 : 0 < rv2.toInt := (by have := zt_ne (show rv2.toInt = _ from rfl) tI_0 c203_1; omega) | skip
                      refine lv_iconst (v := 1) hx hb d_Mo_restore_206 (by decide) ?_
                      refine lv_goto (tgt := 211) hx hb d_Mo_restore_207 (by decide) ?_
                      exact key1 (1 : Int32) _ _ _ ⟨trivial, hP, hD, hS, lv_sub hl [0, 1, 2, 3] rfl⟩
                · have fc162_1 : x6.toInt = 1 := zt_eq (show x6.toInt = _ from rfl) tI_1 c162_1
                  refine lv_aload_n hx hb d_Mo_restore_165 rfl (lv_at hl 3 rfl) ?_
                  refine lv_iconst (v := 5) hx hb d_Mo_restore_166 (by decide) ?_
                  refine lv_aload_n hx hb d_Mo_restore_167 rfl (lv_at hl 3 rfl) ?_
                  refine va_get (D := D) (ci := 11) (v := .ref (ar 10)) (C := "PageScribeModel") (T := F_Mo) (N := 45) hx hb hts i_Mo hown hK hP 0 mW_0 cl_11 18 (by decide) (hts _ k_6_178) (fun _ h9 => h9) (mg_array _ _) d_Mo_restore_168 ?_
                  refine lv_iload_n hx hb d_Mo_restore_171 rfl (lv_at hl 0 rfl) ?_
                  refine va_lald hx hb hK hP 11 1 (ma_array _ _ _ _) rfl (zt_in (show i.toInt = _ from rfl) (by omega) (by omega)) d_Mo_restore_172 ?_
                  refine lv_topl (fun x8 ex8 => ?_)
                  have gx8 : x8 = (a_array S) i.toInt.toNat := ex8.trans (congrArg _ (zt_ix (show i.toInt = _ from rfl)))
                  have fx8 : x8.toInt = ((a_array S) i.toInt.toNat).toInt := by rw [gx8]
                  refine lv_iload_n hx hb d_Mo_restore_173 rfl (lv_at hl 2 rfl) ?_
                  refine jm_ci (w := (fun _ => S)) hK hP hD hS hA (va_runV (As := [.int 5, .long x8, .int a]) (rest := []) F (m_isNewer l D T h0 ar S (5 : Int32) x8 a H.size ⟨i_size, i_taken, i_vals, i_room, i_dicts, i_deep, i_open, i_cells, i_points, i_part, i_length, i_knows, i_page, i_text, i_pats, i_fuel, i_fr, i_ink⟩ (show 0 ≤ a.toInt ∧ a.toInt ≤ 2 by have := tI_5; omega) (fun q => by have := (i_fr.2.1 i.toInt.toNat (by omega)).2.2.1; omega) (fun q => by have := tI_5; omega)) (j_cV (k := 3) (C := "PageScribeModel") hts k_8_91 k_1_12 k_8_88 k_8_90 k_0_137 (by decide +kernel) ⟨Nat.le_of_ble_eq_true rfl, Nat.le_of_ble_eq_true rfl⟩) (jm_pre hK hP hD) rfl rfl hl.1 rfl (lv_room (Nat.le_of_ble_eq_true rfl)) d_Mo_restore_174 ⟨Nat.le_of_ble_eq_true rfl, Nat.le_of_ble_eq_true rfl⟩) (fun rv3 u2 H locs hw3 hP hD hS => ?_)
                  have hP : va_P D classes (mW T h0 ar S) H := hP
                  have hD : va_D A (mW T h0 ar S) := hD
                  have qhw3 : rv3.toInt = 0 ∨ rv3.toInt = 1 := by simpa only [tI_5] using hw3
                  refine lv_if_ne (tgt := 206) hx hb d_Mo_restore_177 (by decide) (fun c177_1 => ?_) (fun c177_1 => ?_)
                  · first | have fc177_1 : rv3.toInt < 0 := (by have := zt_ne (show rv3.toInt = _ from rfl) tI_0 c177_1; omega) | have fc177_1 : 0 < rv3.toInt := (by have := zt_ne (show rv3.toInt = _ from rfl) tI_0 c177_1; omega) | skip
                    refine lv_iconst (v := 1) hx hb d_Mo_restore_206 (by decide) ?_
                    refine lv_goto (tgt := 211) hx hb d_Mo_restore_207 (by decide) ?_
                    exact key1 (1 : Int32) _ _ _ ⟨trivial, hP, hD, hS, lv_sub hl [0, 1, 2, 3] rfl⟩
                  · have fc177_1 : rv3.toInt = 0 := zt_eq (show rv3.toInt = _ from rfl) tI_0 c177_1
                    refine lv_aload_n hx hb d_Mo_restore_180 rfl (lv_at hl 3 rfl) ?_
                    refine va_get (D := D) (ci := 11) (v := .ref (ar 9)) (C := "PageScribeModel") (T := F_Mo) (N := 45) hx hb hts i_Mo hown hK hP 0 mW_0 cl_11 17 (by decide) (hts _ k_6_177) (fun _ h9 => h9) (mg_what _ _) d_Mo_restore_181 ?_
                    refine lv_iload_n hx hb d_Mo_restore_184 rfl (lv_at hl 0 rfl) ?_
                    refine va_iald hx hb hK hP 10 0 (ma_what _ _ _ _) rfl (zt_in (show i.toInt = _ from rfl) (by omega) (by omega)) d_Mo_restore_185 ?_
                    refine j_eqi (y := x6) ex6.symm ?_
                    refine lv_bipush (v := 6) hx hb d_Mo_restore_186 (by decide) ?_
                    refine lv_icmp_ne (tgt := 210) hx hb d_Mo_restore_188 (by decide) (fun c188_2 => ?_) (fun c188_2 => ?_)
                    · first | have fc188_2 : x6.toInt < 6 := (by have := zt_ne (show x6.toInt = _ from rfl) tI_6 c188_2; omega) | have fc188_2 : 6 < x6.toInt := (by have := zt_ne (show x6.toInt = _ from rfl) tI_6 c188_2; omega) | skip
                      refine lv_iconst (v := 0) hx hb d_Mo_restore_210 (by decide) ?_
                      exact key1 (0 : Int32) _ _ _ ⟨trivial, hP, hD, hS, lv_sub hl [0, 1, 2, 3] rfl⟩
                    · have fc188_2 : x6.toInt = 6 := zt_eq (show x6.toInt = _ from rfl) tI_6 c188_2
                      refine lv_aload_n hx hb d_Mo_restore_191 rfl (lv_at hl 3 rfl) ?_
                      refine lv_iconst (v := 5) hx hb d_Mo_restore_192 (by decide) ?_
                      refine lv_aload_n hx hb d_Mo_restore_193 rfl (lv_at hl 3 rfl) ?_
                      refine va_get (D := D) (ci := 11) (v := .ref (ar 14)) (C := "PageScribeModel") (T := F_Mo) (N := 45) hx hb hts i_Mo hown hK hP 0 mW_0 cl_11 22 (by decide) (hts _ k_6_182) (fun _ h9 => h9) (mg_last _ _) d_Mo_restore_194 ?_
                      refine lv_iload_n hx hb d_Mo_restore_197 rfl (lv_at hl 0 rfl) ?_
                      refine va_lald hx hb hK hP 15 1 (ma_last _ _ _ _) rfl (zt_in (show i.toInt = _ from rfl) (by omega) (by omega)) d_Mo_restore_198 ?_
                      refine lv_topl (fun x9 ex9 => ?_)
                      have gx9 : x9 = (a_last S) i.toInt.toNat := ex9.trans (congrArg _ (zt_ix (show i.toInt = _ from rfl)))
                      have fx9 : x9.toInt = ((a_last S) i.toInt.toNat).toInt := by rw [gx9]
                      refine lv_iload_n hx hb d_Mo_restore_199 rfl (lv_at hl 2 rfl) ?_
                      refine jm_ci (w := (fun _ => S)) hK hP hD hS hA (va_runV (As := [.int 5, .long x9, .int a]) (rest := []) F (m_isNewer l D T h0 ar S (5 : Int32) x9 a H.size ⟨i_size, i_taken, i_vals, i_room, i_dicts, i_deep, i_open, i_cells, i_points, i_part, i_length, i_knows, i_page, i_text, i_pats, i_fuel, i_fr, i_ink⟩ (show 0 ≤ a.toInt ∧ a.toInt ≤ 2 by have := tI_5; omega) (fun q => by have := (i_fr.2.1 i.toInt.toNat (by omega)).2.2.2.2.1 (by omega); omega) (fun q => by have := tI_5; omega)) (j_cV (k := 3) (C := "PageScribeModel") hts k_8_91 k_1_12 k_8_88 k_8_90 k_0_137 (by decide +kernel) ⟨Nat.le_of_ble_eq_true rfl, Nat.le_of_ble_eq_true rfl⟩) (jm_pre hK hP hD) rfl rfl hl.1 rfl (lv_room (Nat.le_of_ble_eq_true rfl)) d_Mo_restore_200 ⟨Nat.le_of_ble_eq_true rfl, Nat.le_of_ble_eq_true rfl⟩) (fun rv4 u3 H locs hw4 hP hD hS => ?_)
                      have hP : va_P D classes (mW T h0 ar S) H := hP
                      have hD : va_D A (mW T h0 ar S) := hD
                      have qhw4 : rv4.toInt = 0 ∨ rv4.toInt = 1 := by simpa only [tI_5] using hw4
                      refine lv_if_eq (tgt := 210) hx hb d_Mo_restore_203 (by decide) (fun c203_2 => ?_) (fun c203_2 => ?_)
                      · have fc203_2 : rv4.toInt = 0 := zt_eq (show rv4.toInt = _ from rfl) tI_0 c203_2
                        refine lv_iconst (v := 0) hx hb d_Mo_restore_210 (by decide) ?_
                        exact key1 (0 : Int32) _ _ _ ⟨trivial, hP, hD, hS, lv_sub hl [0, 1, 2, 3] rfl⟩
                      · first | have fc203_2 : rv4.toInt < 0 := (by have := zt_ne (show rv4.toInt = _ from rfl) tI_0 c203_2; omega) | have fc203_2 : 0 < rv4.toInt := (by have := zt_ne (show rv4.toInt = _ from rfl) tI_0 c203_2; omega) | skip
                        refine lv_iconst (v := 1) hx hb d_Mo_restore_206 (by decide) ?_
                        refine lv_goto (tgt := 211) hx hb d_Mo_restore_207 (by decide) ?_
                        exact key1 (1 : Int32) _ _ _ ⟨trivial, hP, hD, hS, lv_sub hl [0, 1, 2, 3] rfl⟩
        · have fc105_1 : i.toInt < (f_deep S).toInt := Int.not_le.mp (zt_nle (show (f_deep S).toInt = _ from rfl) (show i.toInt = _ from rfl) c105_1)
          refine j_joinH (α := Int32) (fun x H locs ls => (True) ∧ va_P D classes (mW T h0 ar S) H ∧ va_D A (mW T h0 ar S) ∧ va_S A s.heap H locs ∧ lv_has ls 4 [(3, .int i), (2, .int nw), (1, .int a), (0, .ref h0)]) (fun x ls => F0 m 134 ls (.int x :: [])) (fun x H locs ls hI9 => ?_) (fun key2 => ?_)
          · obtain ⟨j2, rfl⟩ : ∃ z, z = x := ⟨_, rfl⟩
            obtain ⟨hj2, hP, hD, hS, hl⟩ := hI9
            have hP : va_P D classes (mW T h0 ar S) H := hP
            have hD : va_D A (mW T h0 ar S) := hD
            have hl : lv_has ls 4 [(3, .int i), (2, .int nw), (1, .int a), (0, .ref h0)] := hl
            refine lv_istore_n (lv' := [(2, .int j2), (3, .int i), (1, .int a), (0, .ref h0)]) hx hb d_Mo_restore_134 rfl hl (by decide) rfl (fun ls hl => ?_)
            refine lv_iinc (v := (i + 1)) (lv' := [(3, .int (i + 1)), (2, .int j2), (1, .int a), (0, .ref h0)]) hx hb d_Mo_restore_135 hl (k := 1) rfl (by first | rfl | decide) (by decide) rfl (fun ls hl => ?_)
            obtain ⟨x10, ex10⟩ : ∃ z, z = (i + 1) := ⟨_, rfl⟩
            rw [← ex10] at hl
            have fx10 : x10.toInt = (i.toInt + 1) := by rw [ex10]; exact (zt_add (show i.toInt = _ from rfl) tI_1 (by omega) (by omega)).trans (by omega)
            have hl : lv_has ls 4 [(3, .int x10), (2, .int j2), (1, .int a), (0, .ref h0)] := hl
            refine lv_goto (tgt := 100) hx hb d_Mo_restore_138 (by decide) ?_
            exact ih3 (k3 - 1) (j2, x10) _ _ _ (by omega) ⟨(show 0 ≤ x10.toInt ∧ x10.toInt ≤ 40 ∧ 40 ≤ x10.toInt + (((k3 - 1) : Nat) : Int) by omega), hP, hD, hS, lv_sub hl [0, 1, 2, 3] rfl⟩
          · refine lv_iload_n hx hb d_Mo_restore_108 rfl (lv_at hl 1 rfl) ?_
            refine lv_if_ne (tgt := 129) hx hb d_Mo_restore_109 (by decide) (fun c109_1 => ?_) (fun c109_1 => ?_)
            · first | have fc109_1 : nw.toInt < 0 := (by have := zt_ne (show nw.toInt = _ from rfl) tI_0 c109_1; omega) | have fc109_1 : 0 < nw.toInt := (by have := zt_ne (show nw.toInt = _ from rfl) tI_0 c109_1; omega) | skip
              refine lv_iconst (v := 1) hx hb d_Mo_restore_129 (by decide) ?_
              refine lv_goto (tgt := 134) hx hb d_Mo_restore_130 (by decide) ?_
              exact key2 (1 : Int32) _ _ _ ⟨trivial, hP, hD, hS, lv_sub hl [0, 1, 2, 3] rfl⟩
            · have fc109_1 : nw.toInt = 0 := zt_eq (show nw.toInt = _ from rfl) tI_0 c109_1
              refine lv_aload_n hx hb d_Mo_restore_112 rfl (lv_at hl 3 rfl) ?_
              refine lv_bipush (v := 6) hx hb d_Mo_restore_113 (by decide) ?_
              refine lv_aload_n hx hb d_Mo_restore_115 rfl (lv_at hl 3 rfl) ?_
              refine va_get (D := D) (ci := 11) (v := .ref (ar 6)) (C := "PageScribeModel") (T := F_Mo) (N := 45) hx hb hts i_Mo hown hK hP 0 mW_0 cl_11 9 (by decide) (hts _ k_6_169) (fun _ h9 => h9) (mg_dicts _ _) d_Mo_restore_116 ?_
              refine lv_iload_n hx hb d_Mo_restore_119 rfl (lv_at hl 0 rfl) ?_
              refine va_iald hx hb hK hP 7 0 (ma_dicts _ _ _ _) rfl (zt_in (show i.toInt = _ from rfl) (by omega) (by omega)) d_Mo_restore_120 ?_
              refine lv_topi (fun x11 ex11 => ?_)
              have gx11 : x11 = (a_dicts S) i.toInt.toNat := ex11.trans (congrArg _ (zt_ix (show i.toInt = _ from rfl)))
              have fx11 : x11.toInt = ((a_dicts S) i.toInt.toNat).toInt := by rw [gx11]
              have kx11 := i_dicts (i.toInt.toNat) (by omega)
              refine lv_i2l (v := (x11).toInt64) hx hb d_Mo_restore_121 rfl ?_
              refine lv_topl (fun x12 ex12 => ?_)
              have fx12 : x12.toInt = x11.toInt := by rw [ex12]; exact zu_i2l (show x11.toInt = _ from rfl)
              refine lv_iload_n hx hb d_Mo_restore_122 rfl (lv_at hl 2 rfl) ?_
              refine jm_ci (w := (fun _ => S)) hK hP hD hS hA (va_runV (As := [.int 6, .long x12, .int a]) (rest := []) F (m_isNewer l D T h0 ar S (6 : Int32) x12 a H.size ⟨i_size, i_taken, i_vals, i_room, i_dicts, i_deep, i_open, i_cells, i_points, i_part, i_length, i_knows, i_page, i_text, i_pats, i_fuel, i_fr, i_ink⟩ (show 0 ≤ a.toInt ∧ a.toInt ≤ 2 by have := tI_6; first | omega | (simp only [fx12]; omega)) (fun q => by have := tI_6; omega) (fun q => by omega)) (j_cV (k := 3) (C := "PageScribeModel") hts k_8_91 k_1_12 k_8_88 k_8_90 k_0_137 (by decide +kernel) ⟨Nat.le_of_ble_eq_true rfl, Nat.le_of_ble_eq_true rfl⟩) (jm_pre hK hP hD) rfl rfl hl.1 rfl (lv_room (Nat.le_of_ble_eq_true rfl)) d_Mo_restore_123 ⟨Nat.le_of_ble_eq_true rfl, Nat.le_of_ble_eq_true rfl⟩) (fun rv5 u4 H locs hw5 hP hD hS => ?_)
              have hP : va_P D classes (mW T h0 ar S) H := hP
              have hD : va_D A (mW T h0 ar S) := hD
              have qhw5 : rv5.toInt = 0 ∨ rv5.toInt = 1 := by simpa only [fx12, tI_6] using hw5
              refine lv_if_eq (tgt := 133) hx hb d_Mo_restore_126 (by decide) (fun c126_1 => ?_) (fun c126_1 => ?_)
              · have fc126_1 : rv5.toInt = 0 := zt_eq (show rv5.toInt = _ from rfl) tI_0 c126_1
                refine lv_iconst (v := 0) hx hb d_Mo_restore_133 (by decide) ?_
                exact key2 (0 : Int32) _ _ _ ⟨trivial, hP, hD, hS, lv_sub hl [0, 1, 2, 3] rfl⟩
              · first | have fc126_1 : rv5.toInt < 0 := (by have := zt_ne (show rv5.toInt = _ from rfl) tI_0 c126_1; omega) | have fc126_1 : 0 < rv5.toInt := (by have := zt_ne (show rv5.toInt = _ from rfl) tI_0 c126_1; omega) | skip
                refine lv_iconst (v := 1) hx hb d_Mo_restore_129 (by decide) ?_
                refine lv_goto (tgt := 134) hx hb d_Mo_restore_130 (by decide) ?_
                exact key2 (1 : Int32) _ _ _ ⟨trivial, hP, hD, hS, lv_sub hl [0, 1, 2, 3] rfl⟩
      · have fc60_1 : i.toInt < ((f_size S).toInt - 1) := Int.not_le.mp (zt_nle fx1 (show i.toInt = _ from rfl) c60_1)
        refine j_joinH (α := Int32) (fun x H locs ls => (True) ∧ va_P D classes (mW T h0 ar S) H ∧ va_D A (mW T h0 ar S) ∧ va_S A s.heap H locs ∧ lv_has ls 4 [(3, .int i), (2, .int nw), (1, .int a), (0, .ref h0)]) (fun x ls => F0 m 91 ls (.int x :: [])) (fun x H locs ls hI9 => ?_) (fun key3 => ?_)
        · obtain ⟨j3, rfl⟩ : ∃ z, z = x := ⟨_, rfl⟩
          obtain ⟨hj3, hP, hD, hS, hl⟩ := hI9
          have hP : va_P D classes (mW T h0 ar S) H := hP
          have hD : va_D A (mW T h0 ar S) := hD
          have hl : lv_has ls 4 [(3, .int i), (2, .int nw), (1, .int a), (0, .ref h0)] := hl
          refine lv_istore_n (lv' := [(2, .int j3), (3, .int i), (1, .int a), (0, .ref h0)]) hx hb d_Mo_restore_91 rfl hl (by decide) rfl (fun ls hl => ?_)
          refine lv_iinc (v := (i + 1)) (lv' := [(3, .int (i + 1)), (2, .int j3), (1, .int a), (0, .ref h0)]) hx hb d_Mo_restore_92 hl (k := 1) rfl (by first | rfl | decide) (by decide) rfl (fun ls hl => ?_)
          obtain ⟨x13, ex13⟩ : ∃ z, z = (i + 1) := ⟨_, rfl⟩
          rw [← ex13] at hl
          have fx13 : x13.toInt = (i.toInt + 1) := by rw [ex13]; exact (zt_add (show i.toInt = _ from rfl) tI_1 (by omega) (by omega)).trans (by omega)
          have hl : lv_has ls 4 [(3, .int x13), (2, .int j3), (1, .int a), (0, .ref h0)] := hl
          refine lv_goto (tgt := 53) hx hb d_Mo_restore_95 (by decide) ?_
          exact ih2 (k2 - 1) (j3, x13) _ _ _ (by omega) ⟨(show 0 ≤ x13.toInt ∧ x13.toInt ≤ 40 ∧ 40 ≤ x13.toInt + (((k2 - 1) : Nat) : Int) by omega), hP, hD, hS, lv_sub hl [0, 1, 2, 3] rfl⟩
        · refine lv_iload_n hx hb d_Mo_restore_63 rfl (lv_at hl 1 rfl) ?_
          refine lv_if_ne (tgt := 86) hx hb d_Mo_restore_64 (by decide) (fun c64_1 => ?_) (fun c64_1 => ?_)
          · first | have fc64_1 : nw.toInt < 0 := (by have := zt_ne (show nw.toInt = _ from rfl) tI_0 c64_1; omega) | have fc64_1 : 0 < nw.toInt := (by have := zt_ne (show nw.toInt = _ from rfl) tI_0 c64_1; omega) | skip
            refine lv_iconst (v := 1) hx hb d_Mo_restore_86 (by decide) ?_
            refine lv_goto (tgt := 91) hx hb d_Mo_restore_87 (by decide) ?_
            exact key3 (1 : Int32) _ _ _ ⟨trivial, hP, hD, hS, lv_sub hl [0, 1, 2, 3] rfl⟩
          · have fc64_1 : nw.toInt = 0 := zt_eq (show nw.toInt = _ from rfl) tI_0 c64_1
            refine lv_aload_n hx hb d_Mo_restore_67 rfl (lv_at hl 3 rfl) ?_
            refine lv_aload_n hx hb d_Mo_restore_68 rfl (lv_at hl 3 rfl) ?_
            refine lv_iload_n hx hb d_Mo_restore_69 rfl (lv_at hl 0 rfl) ?_
            have kv1 : vOk ((a_kinds S) (i.toInt.toNat)) ((a_codes S) (i.toInt.toNat)) ((a_reals S) (i.toInt.toNat)) := i_vals (i.toInt.toNat) (by omega)
            have rkv1 := vk_rng kv1
            refine jm_ci (w := (fun _ => S)) hK hP hD hS hA (va_runV (As := [.int i]) (rest := [.ref h0]) F (m_kindOf l D T h0 ar S i H.size (show 0 ≤ i.toInt ∧ i.toInt < 1300 by omega) (show 0 ≤ ((a_kinds S) i.toInt.toNat).toInt by omega)) (j_cV (k := 1) (C := "PageScribeModel") hts k_7_174 k_1_12 k_7_171 k_7_173 k_0_102 (by decide +kernel) ⟨Nat.le_of_ble_eq_true rfl, Nat.le_of_ble_eq_true rfl⟩) (jm_pre hK hP hD) rfl rfl hl.1 rfl (lv_room (Nat.le_of_ble_eq_true rfl)) d_Mo_restore_70 ⟨Nat.le_of_ble_eq_true rfl, Nat.le_of_ble_eq_true rfl⟩) (fun rv6 u5 H locs hw6 hP hD hS => ?_)
            have hP : va_P D classes (mW T h0 ar S) H := hP
            have hD : va_D A (mW T h0 ar S) := hD
            have qhw6 : rv6.toInt = ((a_kinds S) i.toInt.toNat).toInt % 8 := hw6
            refine lv_aload_n hx hb d_Mo_restore_73 rfl (lv_at hl 3 rfl) ?_
            refine va_get (D := D) (ci := 11) (v := .ref (ar 1)) (C := "PageScribeModel") (T := F_Mo) (N := 45) hx hb hts i_Mo hown hK hP 0 mW_0 cl_11 2 (by decide) (hts _ k_6_162) (fun _ h9 => h9) (mg_codes _ _) d_Mo_restore_74 ?_
            refine lv_iload_n hx hb d_Mo_restore_77 rfl (lv_at hl 0 rfl) ?_
            refine va_lald hx hb hK hP 2 1 (ma_codes _ _ _ _) rfl (zt_in (show i.toInt = _ from rfl) (by omega) (by omega)) d_Mo_restore_78 ?_
            refine lv_topl (fun x14 ex14 => ?_)
            have gx14 : x14 = (a_codes S) i.toInt.toNat := ex14.trans (congrArg _ (zt_ix (show i.toInt = _ from rfl)))
            have fx14 : x14.toInt = ((a_codes S) i.toInt.toNat).toInt := by rw [gx14]
            have kx14 : vOk ((a_kinds S) i.toInt.toNat) ((a_codes S) i.toInt.toNat) ((a_reals S) i.toInt.toNat) := i_vals (i.toInt.toNat) (by omega)
            refine lv_iload_n hx hb d_Mo_restore_79 rfl (lv_at hl 2 rfl) ?_
            refine jm_ci (w := (fun _ => S)) hK hP hD hS hA (va_runV (As := [.int rv6, .long x14, .int a]) (rest := []) F (m_isNewer l D T h0 ar S rv6 x14 a H.size ⟨i_size, i_taken, i_vals, i_room, i_dicts, i_deep, i_open, i_cells, i_points, i_part, i_length, i_knows, i_page, i_text, i_pats, i_fuel, i_fr, i_ink⟩ (show 0 ≤ a.toInt ∧ a.toInt ≤ 2 by omega) (fun q => by have := vk_ar8 kx14 (by omega); omega) (fun q => by have := vk_dict kx14 (by omega); omega)) (j_cV (k := 3) (C := "PageScribeModel") hts k_8_91 k_1_12 k_8_88 k_8_90 k_0_137 (by decide +kernel) ⟨Nat.le_of_ble_eq_true rfl, Nat.le_of_ble_eq_true rfl⟩) (jm_pre hK hP hD) rfl rfl hl.1 rfl (lv_room (Nat.le_of_ble_eq_true rfl)) d_Mo_restore_80 ⟨Nat.le_of_ble_eq_true rfl, Nat.le_of_ble_eq_true rfl⟩) (fun rv7 u6 H locs hw7 hP hD hS => ?_)
            have hP : va_P D classes (mW T h0 ar S) H := hP
            have hD : va_D A (mW T h0 ar S) := hD
            have qhw7 : rv7.toInt = 0 ∨ rv7.toInt = 1 := hw7
            refine lv_if_eq (tgt := 90) hx hb d_Mo_restore_83 (by decide) (fun c83_1 => ?_) (fun c83_1 => ?_)
            · have fc83_1 : rv7.toInt = 0 := zt_eq (show rv7.toInt = _ from rfl) tI_0 c83_1
              refine lv_iconst (v := 0) hx hb d_Mo_restore_90 (by decide) ?_
              exact key3 (0 : Int32) _ _ _ ⟨trivial, hP, hD, hS, lv_sub hl [0, 1, 2, 3] rfl⟩
            · first | have fc83_1 : rv7.toInt < 0 := (by have := zt_ne (show rv7.toInt = _ from rfl) tI_0 c83_1; omega) | have fc83_1 : 0 < rv7.toInt := (by have := zt_ne (show rv7.toInt = _ from rfl) tI_0 c83_1; omega) | skip
              refine lv_iconst (v := 1) hx hb d_Mo_restore_86 (by decide) ?_
              refine lv_goto (tgt := 91) hx hb d_Mo_restore_87 (by decide) ?_
              exact key3 (1 : Int32) _ _ _ ⟨trivial, hP, hD, hS, lv_sub hl [0, 1, 2, 3] rfl⟩
    · have fc43_1 : a.toInt = (f_open S).toInt := zt_eq (show a.toInt = _ from rfl) (show (f_open S).toInt = _ from rfl) c43_1
      refine lv_bipush (v := 10) hx hb d_Mo_restore_46 (by decide) ?_
      exact j_iret F hr hlocks hK hS S ⟨⟨i_size, i_taken, i_vals, i_room, i_dicts, i_deep, i_open, i_cells, i_points, i_part, i_length, i_knows, i_page, i_text, i_pats, i_fuel, i_fr, i_ink⟩, (kA_r S), (kF_r S), (show (10 : Int32).toInt = 0 ∨ (10 : Int32).toInt = 10 by have := tI_10; omega)⟩ hP hD d_Mo_restore_48
  · have fc7_1 : a.toInt < (f_open S).toInt := Int.not_le.mp (zt_nle (show (f_open S).toInt = _ from rfl) (show a.toInt = _ from rfl) c7_1)
    refine lv_aload_n hx hb d_Mo_restore_10 rfl (lv_at hl 1 rfl) ?_
    refine va_get (D := D) (ci := 11) (v := .ref (ar 7)) (C := "PageScribeModel") (T := F_Mo) (N := 45) hx hb hts i_Mo hown hK hP 0 mW_0 cl_11 13 (by decide) (hts _ k_6_173) (fun _ h9 => h9) (mg_numbers _ _) d_Mo_restore_11 ?_
    refine lv_iload_n hx hb d_Mo_restore_14 rfl (lv_at hl 0 rfl) ?_
    refine va_iald hx hb hK hP 8 0 (ma_numbers _ _ _ _) rfl (zt_in (show a.toInt = _ from rfl) (by omega) (by omega)) d_Mo_restore_15 ?_
    refine lv_topi (fun x15 ex15 => ?_)
    have gx15 : x15 = (a_numbers S) a.toInt.toNat := ex15.trans (congrArg _ (zt_ix (show a.toInt = _ from rfl)))
    have fx15 : x15.toInt = ((a_numbers S) a.toInt.toNat).toInt := by rw [gx15]
    refine lv_i2l (v := (x15).toInt64) hx hb d_Mo_restore_16 rfl ?_
    refine lv_topl (fun x16 ex16 => ?_)
    have fx16 : x16.toInt = x15.toInt := by rw [ex16]; exact zu_i2l (show x15.toInt = _ from rfl)
    refine lv_aload_n hx hb d_Mo_restore_17 rfl (lv_at hl 1 rfl) ?_
    refine va_get (D := D) (ci := 11) (v := .ref (ar 1)) (C := "PageScribeModel") (T := F_Mo) (N := 45) hx hb hts i_Mo hown hK hP 0 mW_0 cl_11 2 (by decide) (hts _ k_6_162) (fun _ h9 => h9) (mg_codes _ _) d_Mo_restore_18 ?_
    refine lv_aload_n hx hb d_Mo_restore_21 rfl (lv_at hl 1 rfl) ?_
    refine va_get (D := D) (ci := 11) (v := .int (f_size S)) (C := "PageScribeModel") (T := F_Mo) (N := 45) hx hb hts i_Mo hown hK hP 0 mW_0 cl_11 4 (by decide) (hts _ k_6_164) (fun _ h9 => h9) (mg_size _ _) d_Mo_restore_22 ?_
    refine lv_iconst (v := 1) hx hb d_Mo_restore_25 (by decide) ?_
    refine lv_isub hx hb d_Mo_restore_26 ?_
    refine lv_topi (fun x17 ex17 => ?_)
    have fx17 : x17.toInt = ((f_size S).toInt - 1) := by rw [ex17]; exact (zt_sub (show (f_size S).toInt = _ from rfl) tI_1 (by omega) (by omega)).trans (by omega)
    refine va_lald hx hb hK hP 2 1 (ma_codes _ _ _ _) rfl (zt_in fx17 (by omega) (by omega)) d_Mo_restore_27 ?_
    refine lv_topl (fun x18 ex18 => ?_)
    have gx18 : x18 = (a_codes S) ((f_size S).toInt - 1).toNat := ex18.trans (congrArg _ (zt_ix fx17))
    have fx18 : x18.toInt = ((a_codes S) ((f_size S).toInt - 1).toNat).toInt := by rw [gx18]
    have kx18 : vOk ((a_kinds S) ((f_size S).toInt - 1).toNat) ((a_codes S) ((f_size S).toInt - 1).toNat) ((a_reals S) ((f_size S).toInt - 1).toNat) := i_vals (((f_size S).toInt - 1).toNat) (by omega)
    refine W.lcmp hx hb d_Mo_restore_28 ?_
    refine lv_topi (fun x19 ex19 => ?_)
    refine lv_if_eq (tgt := 38) hx hb d_Mo_restore_29 (by decide) (fun c29_1 => ?_) (fun c29_1 => ?_)
    · have fc29_1 : x19.toInt = 0 := zt_eq (show x19.toInt = _ from rfl) tI_0 c29_1
      have vc29_1 : x15.toInt = x18.toInt := by have := zr_cmp ex19 fx16 (show x18.toInt = _ from rfl); have := zt_eq (show x19.toInt = _ from rfl) tI_0 c29_1; omega
      refine lv_iload_n hx hb d_Mo_restore_38 rfl (lv_at hl 0 rfl) ?_
      refine lv_aload_n hx hb d_Mo_restore_39 rfl (lv_at hl 1 rfl) ?_
      refine va_get (D := D) (ci := 11) (v := .int (f_open S)) (C := "PageScribeModel") (T := F_Mo) (N := 45) hx hb hts i_Mo hown hK hP 0 mW_0 cl_11 12 (by decide) (hts _ k_6_172) (fun _ h9 => h9) (mg_open _ _) d_Mo_restore_40 ?_
      refine lv_icmp_ne (tgt := 49) hx hb d_Mo_restore_43 (by decide) (fun c43_2 => ?_) (fun c43_2 => ?_)
      · first | have fc43_2 : a.toInt < (f_open S).toInt := (by have := zt_ne (show a.toInt = _ from rfl) (show (f_open S).toInt = _ from rfl) c43_2; omega) | have fc43_2 : (f_open S).toInt < a.toInt := (by have := zt_ne (show a.toInt = _ from rfl) (show (f_open S).toInt = _ from rfl) c43_2; omega) | skip
        refine lv_iconst (v := 0) hx hb d_Mo_restore_49 (by decide) ?_
        refine lv_istore_n (lv' := [(2, .int 0), (1, .int a), (0, .ref h0)]) hx hb d_Mo_restore_50 rfl hl (by decide) rfl (fun ls hl => ?_)
        refine lv_iconst (v := 0) hx hb d_Mo_restore_51 (by decide) ?_
        refine lv_istore_n (lv' := [(3, .int 0), (2, .int 0), (1, .int a), (0, .ref h0)]) hx hb d_Mo_restore_52 rfl hl (by decide) rfl (fun ls hl => ?_)
        refine j_loop (α := Int32 × Int32) (fun k x H locs ls => (0 ≤ x.2.toInt ∧ x.2.toInt ≤ 40 ∧ 40 ≤ x.2.toInt + ((k : Nat) : Int)) ∧ va_P D classes (mW T h0 ar S) H ∧ va_D A (mW T h0 ar S) ∧ va_S A s.heap H locs ∧ lv_has ls 4 [(3, .int x.2), (2, .int x.1), (1, .int a), (0, .ref h0)]) (fun _ _ ls => F0 m 53 ls []) (fun k2 x H locs ls hI9 ih2 => ?_) 40 ((0 : Int32), (0 : Int32)) _ _ _ ⟨(show 0 ≤ (0 : Int32).toInt ∧ (0 : Int32).toInt ≤ 40 ∧ 40 ≤ (0 : Int32).toInt + ((40 : Nat) : Int) by have := tI_0; have := tI_0; omega), hP, hD, hS, lv_sub hl [0, 1, 2, 3] rfl⟩
        obtain ⟨nw, i⟩ := x
        obtain ⟨hf5, hP, hD, hS, hl⟩ := hI9
        have hf5 : 0 ≤ i.toInt ∧ i.toInt ≤ 40 ∧ 40 ≤ i.toInt + ((k2 : Nat) : Int) := hf5
        have hP : va_P D classes (mW T h0 ar S) H := hP
        have hD : va_D A (mW T h0 ar S) := hD
        have hl : lv_has ls 4 [(3, .int i), (2, .int nw), (1, .int a), (0, .ref h0)] := hl
        refine lv_iload_n hx hb d_Mo_restore_53 rfl (lv_at hl 0 rfl) ?_
        refine lv_aload_n hx hb d_Mo_restore_54 rfl (lv_at hl 3 rfl) ?_
        refine va_get (D := D) (ci := 11) (v := .int (f_size S)) (C := "PageScribeModel") (T := F_Mo) (N := 45) hx hb hts i_Mo hown hK hP 0 mW_0 cl_11 4 (by decide) (hts _ k_6_164) (fun _ h9 => h9) (mg_size _ _) d_Mo_restore_55 ?_
        refine lv_iconst (v := 1) hx hb d_Mo_restore_58 (by decide) ?_
        refine lv_isub hx hb d_Mo_restore_59 ?_
        refine lv_topi (fun x20 ex20 => ?_)
        have fx20 : x20.toInt = ((f_size S).toInt - 1) := by rw [ex20]; exact (zt_sub (show (f_size S).toInt = _ from rfl) tI_1 (by omega) (by omega)).trans (by omega)
        refine lv_icmp_ge (tgt := 98) hx hb d_Mo_restore_60 (by decide) (fun c60_2 => ?_) (fun c60_2 => ?_)
        · have fc60_2 : ((f_size S).toInt - 1) ≤ i.toInt := zt_le fx20 (show i.toInt = _ from rfl) c60_2
          refine lv_iconst (v := 0) hx hb d_Mo_restore_98 (by decide) ?_
          refine lv_istore_n (lv' := [(3, .int 0), (2, .int nw), (1, .int a), (0, .ref h0)]) hx hb d_Mo_restore_99 rfl hl (by decide) rfl (fun ls hl => ?_)
          refine j_loop (α := Int32 × Int32) (fun k x H locs ls => (0 ≤ x.2.toInt ∧ x.2.toInt ≤ 40 ∧ 40 ≤ x.2.toInt + ((k : Nat) : Int)) ∧ va_P D classes (mW T h0 ar S) H ∧ va_D A (mW T h0 ar S) ∧ va_S A s.heap H locs ∧ lv_has ls 4 [(3, .int x.2), (2, .int x.1), (1, .int a), (0, .ref h0)]) (fun _ _ ls => F0 m 100 ls []) (fun k3 x H locs ls hI9 ih3 => ?_) 40 (nw, (0 : Int32)) _ _ _ ⟨(show 0 ≤ (0 : Int32).toInt ∧ (0 : Int32).toInt ≤ 40 ∧ 40 ≤ (0 : Int32).toInt + ((40 : Nat) : Int) by have := tI_0; omega), hP, hD, hS, lv_sub hl [0, 1, 2, 3] rfl⟩
          obtain ⟨nw, i⟩ := x
          obtain ⟨hf6, hP, hD, hS, hl⟩ := hI9
          have hf6 : 0 ≤ i.toInt ∧ i.toInt ≤ 40 ∧ 40 ≤ i.toInt + ((k3 : Nat) : Int) := hf6
          have hP : va_P D classes (mW T h0 ar S) H := hP
          have hD : va_D A (mW T h0 ar S) := hD
          have hl : lv_has ls 4 [(3, .int i), (2, .int nw), (1, .int a), (0, .ref h0)] := hl
          refine lv_iload_n hx hb d_Mo_restore_100 rfl (lv_at hl 0 rfl) ?_
          refine lv_aload_n hx hb d_Mo_restore_101 rfl (lv_at hl 3 rfl) ?_
          refine va_get (D := D) (ci := 11) (v := .int (f_deep S)) (C := "PageScribeModel") (T := F_Mo) (N := 45) hx hb hts i_Mo hown hK hP 0 mW_0 cl_11 10 (by decide) (hts _ k_6_170) (fun _ h9 => h9) (mg_deep _ _) d_Mo_restore_102 ?_
          refine lv_icmp_ge (tgt := 141) hx hb d_Mo_restore_105 (by decide) (fun c105_2 => ?_) (fun c105_2 => ?_)
          · have fc105_2 : (f_deep S).toInt ≤ i.toInt := zt_le (show (f_deep S).toInt = _ from rfl) (show i.toInt = _ from rfl) c105_2
            refine lv_iconst (v := 0) hx hb d_Mo_restore_141 (by decide) ?_
            refine lv_istore_n (lv' := [(3, .int 0), (2, .int nw), (1, .int a), (0, .ref h0)]) hx hb d_Mo_restore_142 rfl hl (by decide) rfl (fun ls hl => ?_)
            refine j_loop (α := Int32 × Int32) (fun k x H locs ls => (0 ≤ x.2.toInt ∧ x.2.toInt ≤ 40 ∧ 40 ≤ x.2.toInt + ((k : Nat) : Int)) ∧ va_P D classes (mW T h0 ar S) H ∧ va_D A (mW T h0 ar S) ∧ va_S A s.heap H locs ∧ lv_has ls 4 [(3, .int x.2), (2, .int x.1), (1, .int a), (0, .ref h0)]) (fun _ _ ls => F0 m 143 ls []) (fun k4 x H locs ls hI9 ih4 => ?_) 40 (nw, (0 : Int32)) _ _ _ ⟨(show 0 ≤ (0 : Int32).toInt ∧ (0 : Int32).toInt ≤ 40 ∧ 40 ≤ (0 : Int32).toInt + ((40 : Nat) : Int) by have := tI_0; omega), hP, hD, hS, lv_sub hl [0, 1, 2, 3] rfl⟩
            obtain ⟨nw, i⟩ := x
            obtain ⟨hf7, hP, hD, hS, hl⟩ := hI9
            have hf7 : 0 ≤ i.toInt ∧ i.toInt ≤ 40 ∧ 40 ≤ i.toInt + ((k4 : Nat) : Int) := hf7
            have hP : va_P D classes (mW T h0 ar S) H := hP
            have hD : va_D A (mW T h0 ar S) := hD
            have hl : lv_has ls 4 [(3, .int i), (2, .int nw), (1, .int a), (0, .ref h0)] := hl
            refine lv_iload_n hx hb d_Mo_restore_143 rfl (lv_at hl 0 rfl) ?_
            refine lv_aload_n hx hb d_Mo_restore_144 rfl (lv_at hl 3 rfl) ?_
            refine va_get (D := D) (ci := 11) (v := .int (f_frames S)) (C := "PageScribeModel") (T := F_Mo) (N := 45) hx hb hts i_Mo hown hK hP 0 mW_0 cl_11 15 (by decide) (hts _ k_6_175) (fun _ h9 => h9) (mg_frames _ _) d_Mo_restore_145 ?_
            refine lv_icmp_ge (tgt := 218) hx hb d_Mo_restore_148 (by decide) (fun c148_2 => ?_) (fun c148_2 => ?_)
            · have fc148_2 : (f_frames S).toInt ≤ i.toInt := zt_le (show (f_frames S).toInt = _ from rfl) (show i.toInt = _ from rfl) c148_2
              refine lv_iload_n hx hb d_Mo_restore_218 rfl (lv_at hl 1 rfl) ?_
              refine lv_if_eq (tgt := 225) hx hb d_Mo_restore_219 (by decide) (fun c219_2 => ?_) (fun c219_2 => ?_)
              · have fc219_2 : nw.toInt = 0 := zt_eq (show nw.toInt = _ from rfl) tI_0 c219_2
                refine lv_aload_n hx hb d_Mo_restore_225 rfl (lv_at hl 3 rfl) ?_
                refine lv_dup hx hb d_Mo_restore_226 rfl ?_
                refine va_get (D := D) (ci := 11) (v := .int (f_size S)) (C := "PageScribeModel") (T := F_Mo) (N := 45) hx hb hts i_Mo hown hK hP 0 mW_0 cl_11 4 (by decide) (hts _ k_6_164) (fun _ h9 => h9) (mg_size _ _) d_Mo_restore_227 ?_
                refine lv_iconst (v := 1) hx hb d_Mo_restore_230 (by decide) ?_
                refine lv_isub hx hb d_Mo_restore_231 ?_
                refine lv_topi (fun x21 ex21 => ?_)
                have fx21 : x21.toInt = ((f_size S).toInt - 1) := by rw [ex21]; exact (zt_sub (show (f_size S).toInt = _ from rfl) tI_1 (by omega) (by omega)).trans (by omega)
                refine va_put (D := D) (ci := 11) (v := .int x21) (ty := .int) (C := "PageScribeModel") (T := F_Mo) (N := 45) hx hb hts i_Mo t_Mo t_Mo_ok n_Mo hown hK hP hD hS 0 mW_0 cl_11 4 (by decide) (hts _ k_6_164) (fun _ h9 => h9) rfl (by decide +kernel) rfl rfl (Nat.le_of_ble_eq_true rfl) d_Mo_restore_232 (fun H locs hP hD hS => ?_)
                rw [mp_size] at hP hD
                have hP : va_P D classes (mW T h0 ar ((((f_thrown S), (a_kinds S), (a_codes S), (a_reals S), x21, (f_taken S), (a_words S), (a_many S)), S.2.1, S.2.2.1, S.2.2.2.1, S.2.2.2.2.1, S.2.2.2.2.2) : MS)) H := hP
                have hD : va_D A (mW T h0 ar ((((f_thrown S), (a_kinds S), (a_codes S), (a_reals S), x21, (f_taken S), (a_words S), (a_many S)), S.2.1, S.2.2.1, S.2.2.2.1, S.2.2.2.2.1, S.2.2.2.2.2) : MS)) := hD
                refine lv_aload_n hx hb d_Mo_restore_235 rfl (lv_at hl 3 rfl) ?_
                refine lv_iload_n hx hb d_Mo_restore_236 rfl (lv_at hl 2 rfl) ?_
                refine va_put (D := D) (ci := 11) (v := .int a) (ty := .int) (C := "PageScribeModel") (T := F_Mo) (N := 45) hx hb hts i_Mo t_Mo t_Mo_ok n_Mo hown hK hP hD hS 0 mW_0 cl_11 12 (by decide) (hts _ k_6_172) (fun _ h9 => h9) rfl (by decide +kernel) rfl rfl (Nat.le_of_ble_eq_true rfl) d_Mo_restore_237 (fun H locs hP hD hS => ?_)
                rw [mp_open] at hP hD
                have hP : va_P D classes (mW T h0 ar ((((f_thrown S), (a_kinds S), (a_codes S), (a_reals S), x21, (f_taken S), (a_words S), (a_many S)), ((a_room S), (a_dicts S), (f_deep S), (f_saves S), a, (a_numbers S), (a_cells S), (f_frames S)), S.2.2.1, S.2.2.2.1, S.2.2.2.2.1, S.2.2.2.2.2) : MS)) H := hP
                have hD : va_D A (mW T h0 ar ((((f_thrown S), (a_kinds S), (a_codes S), (a_reals S), x21, (f_taken S), (a_words S), (a_many S)), ((a_room S), (a_dicts S), (f_deep S), (f_saves S), a, (a_numbers S), (a_cells S), (f_frames S)), S.2.2.1, S.2.2.2.1, S.2.2.2.2.1, S.2.2.2.2.2) : MS)) := hD
                refine lv_aload_n hx hb d_Mo_restore_240 rfl (lv_at hl 3 rfl) ?_
                refine lv_aload_n hx hb d_Mo_restore_241 rfl (lv_at hl 3 rfl) ?_
                refine va_get (D := D) (ci := 11) (v := .ref (ar 8)) (C := "PageScribeModel") (T := F_Mo) (N := 45) hx hb hts i_Mo hown hK hP 0 mW_0 cl_11 14 (by decide) (hts _ k_6_174) (fun _ h9 => h9) (mg_cells _ _) d_Mo_restore_242 ?_
                refine lv_iload_n hx hb d_Mo_restore_245 rfl (lv_at hl 2 rfl) ?_
                refine va_iald hx hb hK hP 9 0 (ma_cells _ _ _ _) rfl (zt_in (show a.toInt = _ from rfl) (by omega) (by omega)) d_Mo_restore_246 ?_
                refine lv_topi (fun x22 ex22 => ?_)
                have gx22 : x22 = (a_cells S) a.toInt.toNat := ex22.trans (congrArg _ (zt_ix (show a.toInt = _ from rfl)))
                have fx22 : x22.toInt = ((a_cells S) a.toInt.toNat).toInt := by rw [gx22]
                have kx22 := i_cells (a.toInt.toNat) (by omega)
                refine va_put (D := D) (ci := 11) (v := .int x22) (ty := .int) (C := "PageScribeModel") (T := F_Mo) (N := 45) hx hb hts i_Mo t_Mo t_Mo_ok n_Mo hown hK hP hD hS 0 mW_0 cl_11 5 (by decide) (hts _ k_6_165) (fun _ h9 => h9) rfl (by decide +kernel) rfl rfl (Nat.le_of_ble_eq_true rfl) d_Mo_restore_247 (fun H locs hP hD hS => ?_)
                rw [mp_taken] at hP hD
                have hP : va_P D classes (mW T h0 ar ((((f_thrown S), (a_kinds S), (a_codes S), (a_reals S), x21, x22, (a_words S), (a_many S)), ((a_room S), (a_dicts S), (f_deep S), (f_saves S), a, (a_numbers S), (a_cells S), (f_frames S)), S.2.2.1, S.2.2.2.1, S.2.2.2.2.1, S.2.2.2.2.2) : MS)) H := hP
                have hD : va_D A (mW T h0 ar ((((f_thrown S), (a_kinds S), (a_codes S), (a_reals S), x21, x22, (a_words S), (a_many S)), ((a_room S), (a_dicts S), (f_deep S), (f_saves S), a, (a_numbers S), (a_cells S), (f_frames S)), S.2.2.1, S.2.2.2.1, S.2.2.2.2.1, S.2.2.2.2.2) : MS)) := hD
                refine lv_aload_n hx hb d_Mo_restore_250 rfl (lv_at hl 3 rfl) ?_
                refine lv_iconst (v := 0) hx hb d_Mo_restore_251 (by decide) ?_
                refine lv_iload_n hx hb d_Mo_restore_252 rfl (lv_at hl 2 rfl) ?_
                refine lv_iconst (v := 1) hx hb d_Mo_restore_253 (by decide) ?_
                refine lv_iadd hx hb d_Mo_restore_254 ?_
                refine lv_topi (fun x23 ex23 => ?_)
                have fx23 : x23.toInt = (a.toInt + 1) := by rw [ex23]; exact (zt_add (show a.toInt = _ from rfl) tI_1 (by omega) (by omega)).trans (by omega)
                refine jm_cv (w := (fun u => u)) hK hP hD hS hA (va_runV (As := [.int 0, .int x23]) (rest := []) F (m_copyAll l D T h0 ar ((((f_thrown S), (a_kinds S), (a_codes S), (a_reals S), x21, x22, (a_words S), (a_many S)), ((a_room S), (a_dicts S), (f_deep S), (f_saves S), a, (a_numbers S), (a_cells S), (f_frames S)), S.2.2.1, S.2.2.2.1, S.2.2.2.2.1, S.2.2.2.2.2) : MS) (0 : Int32) x23 H.size ⟨(show 0 ≤ x21.toInt ∧ x21.toInt ≤ 40 by omega), (show 0 ≤ x22.toInt ∧ x22.toInt ≤ 160 by omega), i_vals, i_room, i_dicts, i_deep, (show 0 ≤ a.toInt ∧ a.toInt ≤ 3 by omega), i_cells, i_points, i_part, i_length, i_knows, i_page, i_text, i_pats, i_fuel, i_fr, i_ink⟩ (show 0 ≤ (0 : Int32).toInt ∧ (0 : Int32).toInt ≤ 3 ∧ 0 ≤ x23.toInt ∧ x23.toInt ≤ 3 by have := tI_0; first | omega | (simp only [fx23]; omega))) (j_cV (k := 2) (C := "PageScribeModel") hts k_8_83 k_1_12 k_8_80 k_8_82 k_0_135 (by decide +kernel) ⟨Nat.le_of_ble_eq_true rfl, Nat.le_of_ble_eq_true rfl⟩) (jm_pre hK hP hD) rfl rfl hl.1 rfl (lv_room (Nat.le_of_ble_eq_true rfl)) d_Mo_restore_255 ⟨Nat.le_of_ble_eq_true rfl, Nat.le_of_ble_eq_true rfl⟩) (fun S2 H locs hw8 hP hD hS => ?_)
                have hP : va_P D classes (mW T h0 ar S2) H := hP
                have hD : va_D A (mW T h0 ar S2) := hD
                obtain ⟨⟨i_size, i_taken, i_vals, i_room, i_dicts, i_deep, i_open, i_cells, i_points, i_part, i_length, i_knows, i_page, i_text, i_pats, i_fuel, i_fr, i_ink⟩, kpA_S2, kpF_S2⟩ := hw8
                have kSA_S2 : kA S S2 := kA_t (show kA S ((((f_thrown S), (a_kinds S), (a_codes S), (a_reals S), x21, x22, (a_words S), (a_many S)), ((a_room S), (a_dicts S), (f_deep S), (f_saves S), a, (a_numbers S), (a_cells S), (f_frames S)), S.2.2.1, S.2.2.2.1, S.2.2.2.2.1, S.2.2.2.2.2) : MS) from (kA_r S)) kpA_S2
                have kSF_S2 : kF S S2 := kF_t (show kF S ((((f_thrown S), (a_kinds S), (a_codes S), (a_reals S), x21, x22, (a_words S), (a_many S)), ((a_room S), (a_dicts S), (f_deep S), (f_saves S), a, (a_numbers S), (a_cells S), (f_frames S)), S.2.2.1, S.2.2.2.1, S.2.2.2.2.1, S.2.2.2.2.2) : MS) from (kF_r S)) kpF_S2
                have kST_S2 : kT S S2 := kT_t (show kT S ((((f_thrown S), (a_kinds S), (a_codes S), (a_reals S), x21, x22, (a_words S), (a_many S)), ((a_room S), (a_dicts S), (f_deep S), (f_saves S), a, (a_numbers S), (a_cells S), (f_frames S)), S.2.2.1, S.2.2.2.1, S.2.2.2.2.1, S.2.2.2.2.2) : MS) from (kT_r S)) (kT_A kpA_S2)
                refine lv_iconst (v := 0) hx hb d_Mo_restore_258 (by decide) ?_
                exact j_iret F hr hlocks hK hS S2 ⟨⟨i_size, i_taken, i_vals, i_room, i_dicts, i_deep, i_open, i_cells, i_points, i_part, i_length, i_knows, i_page, i_text, i_pats, i_fuel, i_fr, i_ink⟩, kSA_S2, kSF_S2, (show (0 : Int32).toInt = 0 ∨ (0 : Int32).toInt = 10 by have := tI_0; omega)⟩ hP hD d_Mo_restore_259
              · first | have fc219_2 : nw.toInt < 0 := (by have := zt_ne (show nw.toInt = _ from rfl) tI_0 c219_2; omega) | have fc219_2 : 0 < nw.toInt := (by have := zt_ne (show nw.toInt = _ from rfl) tI_0 c219_2; omega) | skip
                refine lv_bipush (v := 10) hx hb d_Mo_restore_222 (by decide) ?_
                exact j_iret F hr hlocks hK hS S ⟨⟨i_size, i_taken, i_vals, i_room, i_dicts, i_deep, i_open, i_cells, i_points, i_part, i_length, i_knows, i_page, i_text, i_pats, i_fuel, i_fr, i_ink⟩, (kA_r S), (kF_r S), (show (10 : Int32).toInt = 0 ∨ (10 : Int32).toInt = 10 by have := tI_10; omega)⟩ hP hD d_Mo_restore_224
            · have fc148_2 : i.toInt < (f_frames S).toInt := Int.not_le.mp (zt_nle (show (f_frames S).toInt = _ from rfl) (show i.toInt = _ from rfl) c148_2)
              refine j_joinH (α := Int32) (fun x H locs ls => (True) ∧ va_P D classes (mW T h0 ar S) H ∧ va_D A (mW T h0 ar S) ∧ va_S A s.heap H locs ∧ lv_has ls 4 [(3, .int i), (2, .int nw), (1, .int a), (0, .ref h0)]) (fun x ls => F0 m 211 ls (.int x :: [])) (fun x H locs ls hI9 => ?_) (fun key4 => ?_)
              · obtain ⟨j4, rfl⟩ : ∃ z, z = x := ⟨_, rfl⟩
                obtain ⟨hj4, hP, hD, hS, hl⟩ := hI9
                have hP : va_P D classes (mW T h0 ar S) H := hP
                have hD : va_D A (mW T h0 ar S) := hD
                have hl : lv_has ls 4 [(3, .int i), (2, .int nw), (1, .int a), (0, .ref h0)] := hl
                refine lv_istore_n (lv' := [(2, .int j4), (3, .int i), (1, .int a), (0, .ref h0)]) hx hb d_Mo_restore_211 rfl hl (by decide) rfl (fun ls hl => ?_)
                refine lv_iinc (v := (i + 1)) (lv' := [(3, .int (i + 1)), (2, .int j4), (1, .int a), (0, .ref h0)]) hx hb d_Mo_restore_212 hl (k := 1) rfl (by first | rfl | decide) (by decide) rfl (fun ls hl => ?_)
                obtain ⟨x24, ex24⟩ : ∃ z, z = (i + 1) := ⟨_, rfl⟩
                rw [← ex24] at hl
                have fx24 : x24.toInt = (i.toInt + 1) := by rw [ex24]; exact (zt_add (show i.toInt = _ from rfl) tI_1 (by omega) (by omega)).trans (by omega)
                have hl : lv_has ls 4 [(3, .int x24), (2, .int j4), (1, .int a), (0, .ref h0)] := hl
                refine lv_goto (tgt := 143) hx hb d_Mo_restore_215 (by decide) ?_
                exact ih4 (k4 - 1) (j4, x24) _ _ _ (by omega) ⟨(show 0 ≤ x24.toInt ∧ x24.toInt ≤ 40 ∧ 40 ≤ x24.toInt + (((k4 - 1) : Nat) : Int) by omega), hP, hD, hS, lv_sub hl [0, 1, 2, 3] rfl⟩
              · refine lv_iload_n hx hb d_Mo_restore_151 rfl (lv_at hl 1 rfl) ?_
                refine lv_if_ne (tgt := 206) hx hb d_Mo_restore_152 (by decide) (fun c152_2 => ?_) (fun c152_2 => ?_)
                · first | have fc152_2 : nw.toInt < 0 := (by have := zt_ne (show nw.toInt = _ from rfl) tI_0 c152_2; omega) | have fc152_2 : 0 < nw.toInt := (by have := zt_ne (show nw.toInt = _ from rfl) tI_0 c152_2; omega) | skip
                  refine lv_iconst (v := 1) hx hb d_Mo_restore_206 (by decide) ?_
                  refine lv_goto (tgt := 211) hx hb d_Mo_restore_207 (by decide) ?_
                  exact key4 (1 : Int32) _ _ _ ⟨trivial, hP, hD, hS, lv_sub hl [0, 1, 2, 3] rfl⟩
                · have fc152_2 : nw.toInt = 0 := zt_eq (show nw.toInt = _ from rfl) tI_0 c152_2
                  refine lv_aload_n hx hb d_Mo_restore_155 rfl (lv_at hl 3 rfl) ?_
                  refine va_get (D := D) (ci := 11) (v := .ref (ar 9)) (C := "PageScribeModel") (T := F_Mo) (N := 45) hx hb hts i_Mo hown hK hP 0 mW_0 cl_11 17 (by decide) (hts _ k_6_177) (fun _ h9 => h9) (mg_what _ _) d_Mo_restore_156 ?_
                  refine lv_iload_n hx hb d_Mo_restore_159 rfl (lv_at hl 0 rfl) ?_
                  refine va_iald hx hb hK hP 10 0 (ma_what _ _ _ _) rfl (zt_in (show i.toInt = _ from rfl) (by omega) (by omega)) d_Mo_restore_160 ?_
                  refine lv_topi (fun x25 ex25 => ?_)
                  have gx25 : x25 = (a_what S) i.toInt.toNat := ex25.trans (congrArg _ (zt_ix (show i.toInt = _ from rfl)))
                  have fx25 : x25.toInt = ((a_what S) i.toInt.toNat).toInt := by rw [gx25]
                  refine lv_iconst (v := 1) hx hb d_Mo_restore_161 (by decide) ?_
                  refine lv_icmp_ne (tgt := 180) hx hb d_Mo_restore_162 (by decide) (fun c162_2 => ?_) (fun c162_2 => ?_)
                  · have fc162_2 : ¬ x25.toInt = 1 := zt_ne (show x25.toInt = _ from rfl) tI_1 c162_2
                    refine lv_aload_n hx hb d_Mo_restore_180 rfl (lv_at hl 3 rfl) ?_
                    refine va_get (D := D) (ci := 11) (v := .ref (ar 9)) (C := "PageScribeModel") (T := F_Mo) (N := 45) hx hb hts i_Mo hown hK hP 0 mW_0 cl_11 17 (by decide) (hts _ k_6_177) (fun _ h9 => h9) (mg_what _ _) d_Mo_restore_181 ?_
                    refine lv_iload_n hx hb d_Mo_restore_184 rfl (lv_at hl 0 rfl) ?_
                    refine va_iald hx hb hK hP 10 0 (ma_what _ _ _ _) rfl (zt_in (show i.toInt = _ from rfl) (by omega) (by omega)) d_Mo_restore_185 ?_
                    refine j_eqi (y := x25) ex25.symm ?_
                    refine lv_bipush (v := 6) hx hb d_Mo_restore_186 (by decide) ?_
                    refine lv_icmp_ne (tgt := 210) hx hb d_Mo_restore_188 (by decide) (fun c188_3 => ?_) (fun c188_3 => ?_)
                    · first | have fc188_3 : x25.toInt < 6 := (by have := zt_ne (show x25.toInt = _ from rfl) tI_6 c188_3; omega) | have fc188_3 : 6 < x25.toInt := (by have := zt_ne (show x25.toInt = _ from rfl) tI_6 c188_3; omega) | skip
                      refine lv_iconst (v := 0) hx hb d_Mo_restore_210 (by decide) ?_
                      exact key4 (0 : Int32) _ _ _ ⟨trivial, hP, hD, hS, lv_sub hl [0, 1, 2, 3] rfl⟩
                    · have fc188_3 : x25.toInt = 6 := zt_eq (show x25.toInt = _ from rfl) tI_6 c188_3
                      refine lv_aload_n hx hb d_Mo_restore_191 rfl (lv_at hl 3 rfl) ?_
                      refine lv_iconst (v := 5) hx hb d_Mo_restore_192 (by decide) ?_
                      refine lv_aload_n hx hb d_Mo_restore_193 rfl (lv_at hl 3 rfl) ?_
                      refine va_get (D := D) (ci := 11) (v := .ref (ar 14)) (C := "PageScribeModel") (T := F_Mo) (N := 45) hx hb hts i_Mo hown hK hP 0 mW_0 cl_11 22 (by decide) (hts _ k_6_182) (fun _ h9 => h9) (mg_last _ _) d_Mo_restore_194 ?_
                      refine lv_iload_n hx hb d_Mo_restore_197 rfl (lv_at hl 0 rfl) ?_
                      refine va_lald hx hb hK hP 15 1 (ma_last _ _ _ _) rfl (zt_in (show i.toInt = _ from rfl) (by omega) (by omega)) d_Mo_restore_198 ?_
                      refine lv_topl (fun x26 ex26 => ?_)
                      have gx26 : x26 = (a_last S) i.toInt.toNat := ex26.trans (congrArg _ (zt_ix (show i.toInt = _ from rfl)))
                      have fx26 : x26.toInt = ((a_last S) i.toInt.toNat).toInt := by rw [gx26]
                      refine lv_iload_n hx hb d_Mo_restore_199 rfl (lv_at hl 2 rfl) ?_
                      refine jm_ci (w := (fun _ => S)) hK hP hD hS hA (va_runV (As := [.int 5, .long x26, .int a]) (rest := []) F (m_isNewer l D T h0 ar S (5 : Int32) x26 a H.size ⟨i_size, i_taken, i_vals, i_room, i_dicts, i_deep, i_open, i_cells, i_points, i_part, i_length, i_knows, i_page, i_text, i_pats, i_fuel, i_fr, i_ink⟩ (show 0 ≤ a.toInt ∧ a.toInt ≤ 2 by have := tI_5; omega) (fun q => by have := (i_fr.2.1 i.toInt.toNat (by omega)).2.2.2.2.1 (by omega); omega) (fun q => by have := tI_5; omega)) (j_cV (k := 3) (C := "PageScribeModel") hts k_8_91 k_1_12 k_8_88 k_8_90 k_0_137 (by decide +kernel) ⟨Nat.le_of_ble_eq_true rfl, Nat.le_of_ble_eq_true rfl⟩) (jm_pre hK hP hD) rfl rfl hl.1 rfl (lv_room (Nat.le_of_ble_eq_true rfl)) d_Mo_restore_200 ⟨Nat.le_of_ble_eq_true rfl, Nat.le_of_ble_eq_true rfl⟩) (fun rv9 u7 H locs hw9 hP hD hS => ?_)
                      have hP : va_P D classes (mW T h0 ar S) H := hP
                      have hD : va_D A (mW T h0 ar S) := hD
                      have qhw9 : rv9.toInt = 0 ∨ rv9.toInt = 1 := by simpa only [tI_5] using hw9
                      refine lv_if_eq (tgt := 210) hx hb d_Mo_restore_203 (by decide) (fun c203_3 => ?_) (fun c203_3 => ?_)
                      · have fc203_3 : rv9.toInt = 0 := zt_eq (show rv9.toInt = _ from rfl) tI_0 c203_3
                        refine lv_iconst (v := 0) hx hb d_Mo_restore_210 (by decide) ?_
                        exact key4 (0 : Int32) _ _ _ ⟨trivial, hP, hD, hS, lv_sub hl [0, 1, 2, 3] rfl⟩
                      · first | have fc203_3 : rv9.toInt < 0 := (by have := zt_ne (show rv9.toInt = _ from rfl) tI_0 c203_3; omega) | have fc203_3 : 0 < rv9.toInt := (by have := zt_ne (show rv9.toInt = _ from rfl) tI_0 c203_3; omega) | skip
                        refine lv_iconst (v := 1) hx hb d_Mo_restore_206 (by decide) ?_
                        refine lv_goto (tgt := 211) hx hb d_Mo_restore_207 (by decide) ?_
                        exact key4 (1 : Int32) _ _ _ ⟨trivial, hP, hD, hS, lv_sub hl [0, 1, 2, 3] rfl⟩
                  · have fc162_2 : x25.toInt = 1 := zt_eq (show x25.toInt = _ from rfl) tI_1 c162_2
                    refine lv_aload_n hx hb d_Mo_restore_165 rfl (lv_at hl 3 rfl) ?_
                    refine lv_iconst (v := 5) hx hb d_Mo_restore_166 (by decide) ?_
                    refine lv_aload_n hx hb d_Mo_restore_167 rfl (lv_at hl 3 rfl) ?_
                    refine va_get (D := D) (ci := 11) (v := .ref (ar 10)) (C := "PageScribeModel") (T := F_Mo) (N := 45) hx hb hts i_Mo hown hK hP 0 mW_0 cl_11 18 (by decide) (hts _ k_6_178) (fun _ h9 => h9) (mg_array _ _) d_Mo_restore_168 ?_
                    refine lv_iload_n hx hb d_Mo_restore_171 rfl (lv_at hl 0 rfl) ?_
                    refine va_lald hx hb hK hP 11 1 (ma_array _ _ _ _) rfl (zt_in (show i.toInt = _ from rfl) (by omega) (by omega)) d_Mo_restore_172 ?_
                    refine lv_topl (fun x27 ex27 => ?_)
                    have gx27 : x27 = (a_array S) i.toInt.toNat := ex27.trans (congrArg _ (zt_ix (show i.toInt = _ from rfl)))
                    have fx27 : x27.toInt = ((a_array S) i.toInt.toNat).toInt := by rw [gx27]
                    refine lv_iload_n hx hb d_Mo_restore_173 rfl (lv_at hl 2 rfl) ?_
                    refine jm_ci (w := (fun _ => S)) hK hP hD hS hA (va_runV (As := [.int 5, .long x27, .int a]) (rest := []) F (m_isNewer l D T h0 ar S (5 : Int32) x27 a H.size ⟨i_size, i_taken, i_vals, i_room, i_dicts, i_deep, i_open, i_cells, i_points, i_part, i_length, i_knows, i_page, i_text, i_pats, i_fuel, i_fr, i_ink⟩ (show 0 ≤ a.toInt ∧ a.toInt ≤ 2 by have := tI_5; omega) (fun q => by have := (i_fr.2.1 i.toInt.toNat (by omega)).2.2.1; omega) (fun q => by have := tI_5; omega)) (j_cV (k := 3) (C := "PageScribeModel") hts k_8_91 k_1_12 k_8_88 k_8_90 k_0_137 (by decide +kernel) ⟨Nat.le_of_ble_eq_true rfl, Nat.le_of_ble_eq_true rfl⟩) (jm_pre hK hP hD) rfl rfl hl.1 rfl (lv_room (Nat.le_of_ble_eq_true rfl)) d_Mo_restore_174 ⟨Nat.le_of_ble_eq_true rfl, Nat.le_of_ble_eq_true rfl⟩) (fun rv10 u8 H locs hw10 hP hD hS => ?_)
                    have hP : va_P D classes (mW T h0 ar S) H := hP
                    have hD : va_D A (mW T h0 ar S) := hD
                    have qhw10 : rv10.toInt = 0 ∨ rv10.toInt = 1 := by simpa only [tI_5] using hw10
                    refine lv_if_ne (tgt := 206) hx hb d_Mo_restore_177 (by decide) (fun c177_2 => ?_) (fun c177_2 => ?_)
                    · first | have fc177_2 : rv10.toInt < 0 := (by have := zt_ne (show rv10.toInt = _ from rfl) tI_0 c177_2; omega) | have fc177_2 : 0 < rv10.toInt := (by have := zt_ne (show rv10.toInt = _ from rfl) tI_0 c177_2; omega) | skip
                      refine lv_iconst (v := 1) hx hb d_Mo_restore_206 (by decide) ?_
                      refine lv_goto (tgt := 211) hx hb d_Mo_restore_207 (by decide) ?_
                      exact key4 (1 : Int32) _ _ _ ⟨trivial, hP, hD, hS, lv_sub hl [0, 1, 2, 3] rfl⟩
                    · have fc177_2 : rv10.toInt = 0 := zt_eq (show rv10.toInt = _ from rfl) tI_0 c177_2
                      refine lv_aload_n hx hb d_Mo_restore_180 rfl (lv_at hl 3 rfl) ?_
                      refine va_get (D := D) (ci := 11) (v := .ref (ar 9)) (C := "PageScribeModel") (T := F_Mo) (N := 45) hx hb hts i_Mo hown hK hP 0 mW_0 cl_11 17 (by decide) (hts _ k_6_177) (fun _ h9 => h9) (mg_what _ _) d_Mo_restore_181 ?_
                      refine lv_iload_n hx hb d_Mo_restore_184 rfl (lv_at hl 0 rfl) ?_
                      refine va_iald hx hb hK hP 10 0 (ma_what _ _ _ _) rfl (zt_in (show i.toInt = _ from rfl) (by omega) (by omega)) d_Mo_restore_185 ?_
                      refine j_eqi (y := x25) ex25.symm ?_
                      refine lv_bipush (v := 6) hx hb d_Mo_restore_186 (by decide) ?_
                      refine lv_icmp_ne (tgt := 210) hx hb d_Mo_restore_188 (by decide) (fun c188_4 => ?_) (fun c188_4 => ?_)
                      · first | have fc188_4 : x25.toInt < 6 := (by have := zt_ne (show x25.toInt = _ from rfl) tI_6 c188_4; omega) | have fc188_4 : 6 < x25.toInt := (by have := zt_ne (show x25.toInt = _ from rfl) tI_6 c188_4; omega) | skip
                        refine lv_iconst (v := 0) hx hb d_Mo_restore_210 (by decide) ?_
                        exact key4 (0 : Int32) _ _ _ ⟨trivial, hP, hD, hS, lv_sub hl [0, 1, 2, 3] rfl⟩
                      · have fc188_4 : x25.toInt = 6 := zt_eq (show x25.toInt = _ from rfl) tI_6 c188_4
                        refine lv_aload_n hx hb d_Mo_restore_191 rfl (lv_at hl 3 rfl) ?_
                        refine lv_iconst (v := 5) hx hb d_Mo_restore_192 (by decide) ?_
                        refine lv_aload_n hx hb d_Mo_restore_193 rfl (lv_at hl 3 rfl) ?_
                        refine va_get (D := D) (ci := 11) (v := .ref (ar 14)) (C := "PageScribeModel") (T := F_Mo) (N := 45) hx hb hts i_Mo hown hK hP 0 mW_0 cl_11 22 (by decide) (hts _ k_6_182) (fun _ h9 => h9) (mg_last _ _) d_Mo_restore_194 ?_
                        refine lv_iload_n hx hb d_Mo_restore_197 rfl (lv_at hl 0 rfl) ?_
                        refine va_lald hx hb hK hP 15 1 (ma_last _ _ _ _) rfl (zt_in (show i.toInt = _ from rfl) (by omega) (by omega)) d_Mo_restore_198 ?_
                        refine lv_topl (fun x28 ex28 => ?_)
                        have gx28 : x28 = (a_last S) i.toInt.toNat := ex28.trans (congrArg _ (zt_ix (show i.toInt = _ from rfl)))
                        have fx28 : x28.toInt = ((a_last S) i.toInt.toNat).toInt := by rw [gx28]
                        refine lv_iload_n hx hb d_Mo_restore_199 rfl (lv_at hl 2 rfl) ?_
                        refine jm_ci (w := (fun _ => S)) hK hP hD hS hA (va_runV (As := [.int 5, .long x28, .int a]) (rest := []) F (m_isNewer l D T h0 ar S (5 : Int32) x28 a H.size ⟨i_size, i_taken, i_vals, i_room, i_dicts, i_deep, i_open, i_cells, i_points, i_part, i_length, i_knows, i_page, i_text, i_pats, i_fuel, i_fr, i_ink⟩ (show 0 ≤ a.toInt ∧ a.toInt ≤ 2 by have := tI_5; omega) (fun q => by have := (i_fr.2.1 i.toInt.toNat (by omega)).2.2.2.2.1 (by omega); omega) (fun q => by have := tI_5; omega)) (j_cV (k := 3) (C := "PageScribeModel") hts k_8_91 k_1_12 k_8_88 k_8_90 k_0_137 (by decide +kernel) ⟨Nat.le_of_ble_eq_true rfl, Nat.le_of_ble_eq_true rfl⟩) (jm_pre hK hP hD) rfl rfl hl.1 rfl (lv_room (Nat.le_of_ble_eq_true rfl)) d_Mo_restore_200 ⟨Nat.le_of_ble_eq_true rfl, Nat.le_of_ble_eq_true rfl⟩) (fun rv11 u9 H locs hw11 hP hD hS => ?_)
                        have hP : va_P D classes (mW T h0 ar S) H := hP
                        have hD : va_D A (mW T h0 ar S) := hD
                        have qhw11 : rv11.toInt = 0 ∨ rv11.toInt = 1 := by simpa only [tI_5] using hw11
                        refine lv_if_eq (tgt := 210) hx hb d_Mo_restore_203 (by decide) (fun c203_4 => ?_) (fun c203_4 => ?_)
                        · have fc203_4 : rv11.toInt = 0 := zt_eq (show rv11.toInt = _ from rfl) tI_0 c203_4
                          refine lv_iconst (v := 0) hx hb d_Mo_restore_210 (by decide) ?_
                          exact key4 (0 : Int32) _ _ _ ⟨trivial, hP, hD, hS, lv_sub hl [0, 1, 2, 3] rfl⟩
                        · first | have fc203_4 : rv11.toInt < 0 := (by have := zt_ne (show rv11.toInt = _ from rfl) tI_0 c203_4; omega) | have fc203_4 : 0 < rv11.toInt := (by have := zt_ne (show rv11.toInt = _ from rfl) tI_0 c203_4; omega) | skip
                          refine lv_iconst (v := 1) hx hb d_Mo_restore_206 (by decide) ?_
                          refine lv_goto (tgt := 211) hx hb d_Mo_restore_207 (by decide) ?_
                          exact key4 (1 : Int32) _ _ _ ⟨trivial, hP, hD, hS, lv_sub hl [0, 1, 2, 3] rfl⟩
          · have fc105_2 : i.toInt < (f_deep S).toInt := Int.not_le.mp (zt_nle (show (f_deep S).toInt = _ from rfl) (show i.toInt = _ from rfl) c105_2)
            refine j_joinH (α := Int32) (fun x H locs ls => (True) ∧ va_P D classes (mW T h0 ar S) H ∧ va_D A (mW T h0 ar S) ∧ va_S A s.heap H locs ∧ lv_has ls 4 [(3, .int i), (2, .int nw), (1, .int a), (0, .ref h0)]) (fun x ls => F0 m 134 ls (.int x :: [])) (fun x H locs ls hI9 => ?_) (fun key5 => ?_)
            · obtain ⟨j5, rfl⟩ : ∃ z, z = x := ⟨_, rfl⟩
              obtain ⟨hj5, hP, hD, hS, hl⟩ := hI9
              have hP : va_P D classes (mW T h0 ar S) H := hP
              have hD : va_D A (mW T h0 ar S) := hD
              have hl : lv_has ls 4 [(3, .int i), (2, .int nw), (1, .int a), (0, .ref h0)] := hl
              refine lv_istore_n (lv' := [(2, .int j5), (3, .int i), (1, .int a), (0, .ref h0)]) hx hb d_Mo_restore_134 rfl hl (by decide) rfl (fun ls hl => ?_)
              refine lv_iinc (v := (i + 1)) (lv' := [(3, .int (i + 1)), (2, .int j5), (1, .int a), (0, .ref h0)]) hx hb d_Mo_restore_135 hl (k := 1) rfl (by first | rfl | decide) (by decide) rfl (fun ls hl => ?_)
              obtain ⟨x29, ex29⟩ : ∃ z, z = (i + 1) := ⟨_, rfl⟩
              rw [← ex29] at hl
              have fx29 : x29.toInt = (i.toInt + 1) := by rw [ex29]; exact (zt_add (show i.toInt = _ from rfl) tI_1 (by omega) (by omega)).trans (by omega)
              have hl : lv_has ls 4 [(3, .int x29), (2, .int j5), (1, .int a), (0, .ref h0)] := hl
              refine lv_goto (tgt := 100) hx hb d_Mo_restore_138 (by decide) ?_
              exact ih3 (k3 - 1) (j5, x29) _ _ _ (by omega) ⟨(show 0 ≤ x29.toInt ∧ x29.toInt ≤ 40 ∧ 40 ≤ x29.toInt + (((k3 - 1) : Nat) : Int) by omega), hP, hD, hS, lv_sub hl [0, 1, 2, 3] rfl⟩
            · refine lv_iload_n hx hb d_Mo_restore_108 rfl (lv_at hl 1 rfl) ?_
              refine lv_if_ne (tgt := 129) hx hb d_Mo_restore_109 (by decide) (fun c109_2 => ?_) (fun c109_2 => ?_)
              · first | have fc109_2 : nw.toInt < 0 := (by have := zt_ne (show nw.toInt = _ from rfl) tI_0 c109_2; omega) | have fc109_2 : 0 < nw.toInt := (by have := zt_ne (show nw.toInt = _ from rfl) tI_0 c109_2; omega) | skip
                refine lv_iconst (v := 1) hx hb d_Mo_restore_129 (by decide) ?_
                refine lv_goto (tgt := 134) hx hb d_Mo_restore_130 (by decide) ?_
                exact key5 (1 : Int32) _ _ _ ⟨trivial, hP, hD, hS, lv_sub hl [0, 1, 2, 3] rfl⟩
              · have fc109_2 : nw.toInt = 0 := zt_eq (show nw.toInt = _ from rfl) tI_0 c109_2
                refine lv_aload_n hx hb d_Mo_restore_112 rfl (lv_at hl 3 rfl) ?_
                refine lv_bipush (v := 6) hx hb d_Mo_restore_113 (by decide) ?_
                refine lv_aload_n hx hb d_Mo_restore_115 rfl (lv_at hl 3 rfl) ?_
                refine va_get (D := D) (ci := 11) (v := .ref (ar 6)) (C := "PageScribeModel") (T := F_Mo) (N := 45) hx hb hts i_Mo hown hK hP 0 mW_0 cl_11 9 (by decide) (hts _ k_6_169) (fun _ h9 => h9) (mg_dicts _ _) d_Mo_restore_116 ?_
                refine lv_iload_n hx hb d_Mo_restore_119 rfl (lv_at hl 0 rfl) ?_
                refine va_iald hx hb hK hP 7 0 (ma_dicts _ _ _ _) rfl (zt_in (show i.toInt = _ from rfl) (by omega) (by omega)) d_Mo_restore_120 ?_
                refine lv_topi (fun x30 ex30 => ?_)
                have gx30 : x30 = (a_dicts S) i.toInt.toNat := ex30.trans (congrArg _ (zt_ix (show i.toInt = _ from rfl)))
                have fx30 : x30.toInt = ((a_dicts S) i.toInt.toNat).toInt := by rw [gx30]
                have kx30 := i_dicts (i.toInt.toNat) (by omega)
                refine lv_i2l (v := (x30).toInt64) hx hb d_Mo_restore_121 rfl ?_
                refine lv_topl (fun x31 ex31 => ?_)
                have fx31 : x31.toInt = x30.toInt := by rw [ex31]; exact zu_i2l (show x30.toInt = _ from rfl)
                refine lv_iload_n hx hb d_Mo_restore_122 rfl (lv_at hl 2 rfl) ?_
                refine jm_ci (w := (fun _ => S)) hK hP hD hS hA (va_runV (As := [.int 6, .long x31, .int a]) (rest := []) F (m_isNewer l D T h0 ar S (6 : Int32) x31 a H.size ⟨i_size, i_taken, i_vals, i_room, i_dicts, i_deep, i_open, i_cells, i_points, i_part, i_length, i_knows, i_page, i_text, i_pats, i_fuel, i_fr, i_ink⟩ (show 0 ≤ a.toInt ∧ a.toInt ≤ 2 by have := tI_6; first | omega | (simp only [fx31]; omega)) (fun q => by have := tI_6; omega) (fun q => by omega)) (j_cV (k := 3) (C := "PageScribeModel") hts k_8_91 k_1_12 k_8_88 k_8_90 k_0_137 (by decide +kernel) ⟨Nat.le_of_ble_eq_true rfl, Nat.le_of_ble_eq_true rfl⟩) (jm_pre hK hP hD) rfl rfl hl.1 rfl (lv_room (Nat.le_of_ble_eq_true rfl)) d_Mo_restore_123 ⟨Nat.le_of_ble_eq_true rfl, Nat.le_of_ble_eq_true rfl⟩) (fun rv12 u10 H locs hw12 hP hD hS => ?_)
                have hP : va_P D classes (mW T h0 ar S) H := hP
                have hD : va_D A (mW T h0 ar S) := hD
                have qhw12 : rv12.toInt = 0 ∨ rv12.toInt = 1 := by simpa only [fx31, tI_6] using hw12
                refine lv_if_eq (tgt := 133) hx hb d_Mo_restore_126 (by decide) (fun c126_2 => ?_) (fun c126_2 => ?_)
                · have fc126_2 : rv12.toInt = 0 := zt_eq (show rv12.toInt = _ from rfl) tI_0 c126_2
                  refine lv_iconst (v := 0) hx hb d_Mo_restore_133 (by decide) ?_
                  exact key5 (0 : Int32) _ _ _ ⟨trivial, hP, hD, hS, lv_sub hl [0, 1, 2, 3] rfl⟩
                · first | have fc126_2 : rv12.toInt < 0 := (by have := zt_ne (show rv12.toInt = _ from rfl) tI_0 c126_2; omega) | have fc126_2 : 0 < rv12.toInt := (by have := zt_ne (show rv12.toInt = _ from rfl) tI_0 c126_2; omega) | skip
                  refine lv_iconst (v := 1) hx hb d_Mo_restore_129 (by decide) ?_
                  refine lv_goto (tgt := 134) hx hb d_Mo_restore_130 (by decide) ?_
                  exact key5 (1 : Int32) _ _ _ ⟨trivial, hP, hD, hS, lv_sub hl [0, 1, 2, 3] rfl⟩
        · have fc60_2 : i.toInt < ((f_size S).toInt - 1) := Int.not_le.mp (zt_nle fx20 (show i.toInt = _ from rfl) c60_2)
          refine j_joinH (α := Int32) (fun x H locs ls => (True) ∧ va_P D classes (mW T h0 ar S) H ∧ va_D A (mW T h0 ar S) ∧ va_S A s.heap H locs ∧ lv_has ls 4 [(3, .int i), (2, .int nw), (1, .int a), (0, .ref h0)]) (fun x ls => F0 m 91 ls (.int x :: [])) (fun x H locs ls hI9 => ?_) (fun key6 => ?_)
          · obtain ⟨j6, rfl⟩ : ∃ z, z = x := ⟨_, rfl⟩
            obtain ⟨hj6, hP, hD, hS, hl⟩ := hI9
            have hP : va_P D classes (mW T h0 ar S) H := hP
            have hD : va_D A (mW T h0 ar S) := hD
            have hl : lv_has ls 4 [(3, .int i), (2, .int nw), (1, .int a), (0, .ref h0)] := hl
            refine lv_istore_n (lv' := [(2, .int j6), (3, .int i), (1, .int a), (0, .ref h0)]) hx hb d_Mo_restore_91 rfl hl (by decide) rfl (fun ls hl => ?_)
            refine lv_iinc (v := (i + 1)) (lv' := [(3, .int (i + 1)), (2, .int j6), (1, .int a), (0, .ref h0)]) hx hb d_Mo_restore_92 hl (k := 1) rfl (by first | rfl | decide) (by decide) rfl (fun ls hl => ?_)
            obtain ⟨x32, ex32⟩ : ∃ z, z = (i + 1) := ⟨_, rfl⟩
            rw [← ex32] at hl
            have fx32 : x32.toInt = (i.toInt + 1) := by rw [ex32]; exact (zt_add (show i.toInt = _ from rfl) tI_1 (by omega) (by omega)).trans (by omega)
            have hl : lv_has ls 4 [(3, .int x32), (2, .int j6), (1, .int a), (0, .ref h0)] := hl
            refine lv_goto (tgt := 53) hx hb d_Mo_restore_95 (by decide) ?_
            exact ih2 (k2 - 1) (j6, x32) _ _ _ (by omega) ⟨(show 0 ≤ x32.toInt ∧ x32.toInt ≤ 40 ∧ 40 ≤ x32.toInt + (((k2 - 1) : Nat) : Int) by omega), hP, hD, hS, lv_sub hl [0, 1, 2, 3] rfl⟩
          · refine lv_iload_n hx hb d_Mo_restore_63 rfl (lv_at hl 1 rfl) ?_
            refine lv_if_ne (tgt := 86) hx hb d_Mo_restore_64 (by decide) (fun c64_2 => ?_) (fun c64_2 => ?_)
            · first | have fc64_2 : nw.toInt < 0 := (by have := zt_ne (show nw.toInt = _ from rfl) tI_0 c64_2; omega) | have fc64_2 : 0 < nw.toInt := (by have := zt_ne (show nw.toInt = _ from rfl) tI_0 c64_2; omega) | skip
              refine lv_iconst (v := 1) hx hb d_Mo_restore_86 (by decide) ?_
              refine lv_goto (tgt := 91) hx hb d_Mo_restore_87 (by decide) ?_
              exact key6 (1 : Int32) _ _ _ ⟨trivial, hP, hD, hS, lv_sub hl [0, 1, 2, 3] rfl⟩
            · have fc64_2 : nw.toInt = 0 := zt_eq (show nw.toInt = _ from rfl) tI_0 c64_2
              refine lv_aload_n hx hb d_Mo_restore_67 rfl (lv_at hl 3 rfl) ?_
              refine lv_aload_n hx hb d_Mo_restore_68 rfl (lv_at hl 3 rfl) ?_
              refine lv_iload_n hx hb d_Mo_restore_69 rfl (lv_at hl 0 rfl) ?_
              have kv2 : vOk ((a_kinds S) (i.toInt.toNat)) ((a_codes S) (i.toInt.toNat)) ((a_reals S) (i.toInt.toNat)) := i_vals (i.toInt.toNat) (by omega)
              have rkv2 := vk_rng kv2
              refine jm_ci (w := (fun _ => S)) hK hP hD hS hA (va_runV (As := [.int i]) (rest := [.ref h0]) F (m_kindOf l D T h0 ar S i H.size (show 0 ≤ i.toInt ∧ i.toInt < 1300 by omega) (show 0 ≤ ((a_kinds S) i.toInt.toNat).toInt by omega)) (j_cV (k := 1) (C := "PageScribeModel") hts k_7_174 k_1_12 k_7_171 k_7_173 k_0_102 (by decide +kernel) ⟨Nat.le_of_ble_eq_true rfl, Nat.le_of_ble_eq_true rfl⟩) (jm_pre hK hP hD) rfl rfl hl.1 rfl (lv_room (Nat.le_of_ble_eq_true rfl)) d_Mo_restore_70 ⟨Nat.le_of_ble_eq_true rfl, Nat.le_of_ble_eq_true rfl⟩) (fun rv13 u11 H locs hw13 hP hD hS => ?_)
              have hP : va_P D classes (mW T h0 ar S) H := hP
              have hD : va_D A (mW T h0 ar S) := hD
              have qhw13 : rv13.toInt = ((a_kinds S) i.toInt.toNat).toInt % 8 := hw13
              refine lv_aload_n hx hb d_Mo_restore_73 rfl (lv_at hl 3 rfl) ?_
              refine va_get (D := D) (ci := 11) (v := .ref (ar 1)) (C := "PageScribeModel") (T := F_Mo) (N := 45) hx hb hts i_Mo hown hK hP 0 mW_0 cl_11 2 (by decide) (hts _ k_6_162) (fun _ h9 => h9) (mg_codes _ _) d_Mo_restore_74 ?_
              refine lv_iload_n hx hb d_Mo_restore_77 rfl (lv_at hl 0 rfl) ?_
              refine va_lald hx hb hK hP 2 1 (ma_codes _ _ _ _) rfl (zt_in (show i.toInt = _ from rfl) (by omega) (by omega)) d_Mo_restore_78 ?_
              refine lv_topl (fun x33 ex33 => ?_)
              have gx33 : x33 = (a_codes S) i.toInt.toNat := ex33.trans (congrArg _ (zt_ix (show i.toInt = _ from rfl)))
              have fx33 : x33.toInt = ((a_codes S) i.toInt.toNat).toInt := by rw [gx33]
              have kx33 : vOk ((a_kinds S) i.toInt.toNat) ((a_codes S) i.toInt.toNat) ((a_reals S) i.toInt.toNat) := i_vals (i.toInt.toNat) (by omega)
              refine lv_iload_n hx hb d_Mo_restore_79 rfl (lv_at hl 2 rfl) ?_
              refine jm_ci (w := (fun _ => S)) hK hP hD hS hA (va_runV (As := [.int rv13, .long x33, .int a]) (rest := []) F (m_isNewer l D T h0 ar S rv13 x33 a H.size ⟨i_size, i_taken, i_vals, i_room, i_dicts, i_deep, i_open, i_cells, i_points, i_part, i_length, i_knows, i_page, i_text, i_pats, i_fuel, i_fr, i_ink⟩ (show 0 ≤ a.toInt ∧ a.toInt ≤ 2 by omega) (fun q => by have := vk_ar8 kx33 (by omega); omega) (fun q => by have := vk_dict kx33 (by omega); omega)) (j_cV (k := 3) (C := "PageScribeModel") hts k_8_91 k_1_12 k_8_88 k_8_90 k_0_137 (by decide +kernel) ⟨Nat.le_of_ble_eq_true rfl, Nat.le_of_ble_eq_true rfl⟩) (jm_pre hK hP hD) rfl rfl hl.1 rfl (lv_room (Nat.le_of_ble_eq_true rfl)) d_Mo_restore_80 ⟨Nat.le_of_ble_eq_true rfl, Nat.le_of_ble_eq_true rfl⟩) (fun rv14 u12 H locs hw14 hP hD hS => ?_)
              have hP : va_P D classes (mW T h0 ar S) H := hP
              have hD : va_D A (mW T h0 ar S) := hD
              have qhw14 : rv14.toInt = 0 ∨ rv14.toInt = 1 := hw14
              refine lv_if_eq (tgt := 90) hx hb d_Mo_restore_83 (by decide) (fun c83_2 => ?_) (fun c83_2 => ?_)
              · have fc83_2 : rv14.toInt = 0 := zt_eq (show rv14.toInt = _ from rfl) tI_0 c83_2
                refine lv_iconst (v := 0) hx hb d_Mo_restore_90 (by decide) ?_
                exact key6 (0 : Int32) _ _ _ ⟨trivial, hP, hD, hS, lv_sub hl [0, 1, 2, 3] rfl⟩
              · first | have fc83_2 : rv14.toInt < 0 := (by have := zt_ne (show rv14.toInt = _ from rfl) tI_0 c83_2; omega) | have fc83_2 : 0 < rv14.toInt := (by have := zt_ne (show rv14.toInt = _ from rfl) tI_0 c83_2; omega) | skip
                refine lv_iconst (v := 1) hx hb d_Mo_restore_86 (by decide) ?_
                refine lv_goto (tgt := 91) hx hb d_Mo_restore_87 (by decide) ?_
                exact key6 (1 : Int32) _ _ _ ⟨trivial, hP, hD, hS, lv_sub hl [0, 1, 2, 3] rfl⟩
      · have fc43_2 : a.toInt = (f_open S).toInt := zt_eq (show a.toInt = _ from rfl) (show (f_open S).toInt = _ from rfl) c43_2
        refine lv_bipush (v := 10) hx hb d_Mo_restore_46 (by decide) ?_
        exact j_iret F hr hlocks hK hS S ⟨⟨i_size, i_taken, i_vals, i_room, i_dicts, i_deep, i_open, i_cells, i_points, i_part, i_length, i_knows, i_page, i_text, i_pats, i_fuel, i_fr, i_ink⟩, (kA_r S), (kF_r S), (show (10 : Int32).toInt = 0 ∨ (10 : Int32).toInt = 10 by have := tI_10; omega)⟩ hP hD d_Mo_restore_48
    · first | have fc29_1 : x19.toInt < 0 := (by have := zt_ne (show x19.toInt = _ from rfl) tI_0 c29_1; omega) | have fc29_1 : 0 < x19.toInt := (by have := zt_ne (show x19.toInt = _ from rfl) tI_0 c29_1; omega) | skip
      have vc29_1 : ¬ x15.toInt = x18.toInt := by have := zr_cmp ex19 fx16 (show x18.toInt = _ from rfl); have := zt_ne (show x19.toInt = _ from rfl) tI_0 c29_1; omega
      refine lv_iinc (v := (a + 1)) (lv' := [(1, .int (a + 1)), (0, .ref h0)]) hx hb d_Mo_restore_32 hl (k := 0) rfl (by first | rfl | decide) (by decide) rfl (fun ls hl => ?_)
      obtain ⟨x34, ex34⟩ : ∃ z, z = (a + 1) := ⟨_, rfl⟩
      rw [← ex34] at hl
      have fx34 : x34.toInt = (a.toInt + 1) := by rw [ex34]; exact (zt_add (show a.toInt = _ from rfl) tI_1 (by omega) (by omega)).trans (by omega)
      have hl : lv_has ls 4 [(1, .int x34), (0, .ref h0)] := hl
      refine lv_goto (tgt := 2) hx hb d_Mo_restore_35 (by decide) ?_
      exact ih (k - 1) x34 _ _ _ (by omega) ⟨(show 0 ≤ x34.toInt ∧ x34.toInt ≤ (f_open S).toInt ∧ 3 ≤ x34.toInt + (((k - 1) : Nat) : Int) by omega), hP, hD, hS, lv_sub hl [0, 1] rfl⟩
