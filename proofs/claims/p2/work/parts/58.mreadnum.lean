theorem d_Mo_readNumber_19 : decode prog_15_method_21_code 19 = .ok (.istore_n 1, 1) := by decide +kernel
theorem d_Mo_readNumber_37 : decode prog_15_method_21_code 37 = .ok (.istore_n 2, 1) := by decide +kernel
theorem d_Mo_readNumber_38 : decode prog_15_method_21_code 38 = .ok (.aload_n 0, 1) := by decide +kernel
theorem d_Mo_readNumber_39 : decode prog_15_method_21_code 39 = .ok (.iload_n 2, 1) := by decide +kernel
theorem d_Mo_readNumber_40 : decode prog_15_method_21_code 40 = .ok (.invokevirtual 284, 3) := by decide +kernel
theorem k_7_96 : Cond.code ⟨"PageScribeModel", "digits", "(I)I"⟩ prog_15_method_19_code 3 (some .int) ∈ gw := gw_of (tb_7 (List.mem_of_getElem? (i := 96) (by decide +kernel))) (by decide +kernel)
theorem k_7_93 : Cond.methodLink "PageScribeModel" 284 ⟨"PageScribeModel", "digits", "(I)I"⟩ ∈ gw := gw_of (tb_7 (List.mem_of_getElem? (i := 93) (by decide +kernel))) (by decide +kernel)
theorem k_7_95 : Cond.instanceMethod ⟨"PageScribeModel", "digits", "(I)I"⟩ ∈ gw := gw_of (tb_7 (List.mem_of_getElem? (i := 95) (by decide +kernel))) (by decide +kernel)
theorem k_0_86 : Cond.selects "PageScribeModel" ⟨"PageScribeModel", "digits", "(I)I"⟩ ⟨"PageScribeModel", "digits", "(I)I"⟩ ∈ gw := gw_of (tb_0 (List.mem_of_getElem? (i := 86) (by decide +kernel))) (by decide +kernel)
theorem d_Mo_readNumber_43 : decode prog_15_method_21_code 43 = .ok (.istore_n 3, 1) := by decide +kernel
theorem d_Mo_readNumber_44 : decode prog_15_method_21_code 44 = .ok (.iload_n 3, 1) := by decide +kernel
theorem d_Mo_readNumber_45 : decode prog_15_method_21_code 45 = .ok (.iconst 1, 1) := by decide +kernel
theorem d_Mo_readNumber_46 : decode prog_15_method_21_code 46 = .ok (.if_icmp .lt 9, 3) := by decide +kernel
theorem d_Mo_readNumber_55 : decode prog_15_method_21_code 55 = .ok (.bipush 15, 2) := by decide +kernel
theorem d_Mo_readNumber_57 : decode prog_15_method_21_code 57 = .ok (.ireturn, 1) := by decide +kernel
theorem d_Mo_readNumber_49 : decode prog_15_method_21_code 49 = .ok (.iload_n 3, 1) := by decide +kernel
theorem d_Mo_readNumber_50 : decode prog_15_method_21_code 50 = .ok (.bipush 9, 2) := by decide +kernel
theorem d_Mo_readNumber_52 : decode prog_15_method_21_code 52 = .ok (.if_icmp .le 6, 3) := by decide +kernel
theorem d_Mo_readNumber_58 : decode prog_15_method_21_code 58 = .ok (.aload_n 0, 1) := by decide +kernel
theorem d_Mo_readNumber_59 : decode prog_15_method_21_code 59 = .ok (.iload_n 2, 1) := by decide +kernel
theorem d_Mo_readNumber_60 : decode prog_15_method_21_code 60 = .ok (.iload_n 3, 1) := by decide +kernel
theorem d_Mo_readNumber_61 : decode prog_15_method_21_code 61 = .ok (.invokevirtual 288, 3) := by decide +kernel
theorem k_7_100 : Cond.code ⟨"PageScribeModel", "whole", "(II)J"⟩ prog_15_method_20_code 6 (some .long) ∈ gw := gw_of (tb_7 (List.mem_of_getElem? (i := 100) (by decide +kernel))) (by decide +kernel)
theorem k_7_97 : Cond.methodLink "PageScribeModel" 288 ⟨"PageScribeModel", "whole", "(II)J"⟩ ∈ gw := gw_of (tb_7 (List.mem_of_getElem? (i := 97) (by decide +kernel))) (by decide +kernel)
theorem k_7_99 : Cond.instanceMethod ⟨"PageScribeModel", "whole", "(II)J"⟩ ∈ gw := gw_of (tb_7 (List.mem_of_getElem? (i := 99) (by decide +kernel))) (by decide +kernel)
theorem k_0_87 : Cond.selects "PageScribeModel" ⟨"PageScribeModel", "whole", "(II)J"⟩ ⟨"PageScribeModel", "whole", "(II)J"⟩ ∈ gw := gw_of (tb_0 (List.mem_of_getElem? (i := 87) (by decide +kernel))) (by decide +kernel)
theorem d_Mo_readNumber_64 : decode prog_15_method_21_code 64 = .ok (.lstore 4, 2) := by decide +kernel
theorem d_Mo_readNumber_66 : decode prog_15_method_21_code 66 = .ok (.aload_n 0, 1) := by decide +kernel
theorem d_Mo_readNumber_67 : decode prog_15_method_21_code 67 = .ok (.iload_n 2, 1) := by decide +kernel
theorem d_Mo_readNumber_68 : decode prog_15_method_21_code 68 = .ok (.iload_n 3, 1) := by decide +kernel
theorem d_Mo_readNumber_69 : decode prog_15_method_21_code 69 = .ok (.iadd, 1) := by decide +kernel
theorem k_6_185 : Cond.fieldLink "PageScribeModel" 281 "PageScribeModel" "at" "I" ∈ gw := gw_of (tb_6 (List.mem_of_getElem? (i := 185) (by decide +kernel))) (by decide +kernel)
theorem d_Mo_readNumber_70 : decode prog_15_method_21_code 70 = .ok (.putfield 281, 3) := by decide +kernel
theorem d_Mo_readNumber_100 : decode prog_15_method_21_code 100 = .ok (.istore 6, 2) := by decide +kernel
theorem d_Mo_readNumber_102 : decode prog_15_method_21_code 102 = .ok (.iload 6, 2) := by decide +kernel
theorem d_Mo_readNumber_104 : decode prog_15_method_21_code 104 = .ok (.iconst 4, 1) := by decide +kernel
theorem d_Mo_readNumber_105 : decode prog_15_method_21_code 105 = .ok (.if_icmp .le 6, 3) := by decide +kernel
theorem d_Mo_readNumber_111 : decode prog_15_method_21_code 111 = .ok (.iload 6, 2) := by decide +kernel
theorem d_Mo_readNumber_113 : decode prog_15_method_21_code 113 = .ok (.ifCond .ne 24, 3) := by decide +kernel
theorem d_Mo_readNumber_176 : decode prog_15_method_21_code 176 = .ok (.dstore 7, 2) := by decide +kernel
theorem d_Mo_readNumber_178 : decode prog_15_method_21_code 178 = .ok (.lload 4, 2) := by decide +kernel
theorem d_Mo_readNumber_180 : decode prog_15_method_21_code 180 = .ok (.l2d, 1) := by decide +kernel
theorem d_Mo_readNumber_181 : decode prog_15_method_21_code 181 = .ok (.aload_n 0, 1) := by decide +kernel
theorem d_Mo_readNumber_182 : decode prog_15_method_21_code 182 = .ok (.aload_n 0, 1) := by decide +kernel
theorem d_Mo_readNumber_183 : decode prog_15_method_21_code 183 = .ok (.getfield 281, 3) := by decide +kernel
theorem d_Mo_readNumber_186 : decode prog_15_method_21_code 186 = .ok (.iconst 1, 1) := by decide +kernel
theorem d_Mo_readNumber_187 : decode prog_15_method_21_code 187 = .ok (.iadd, 1) := by decide +kernel
theorem d_Mo_readNumber_188 : decode prog_15_method_21_code 188 = .ok (.iload 6, 2) := by decide +kernel
theorem d_Mo_readNumber_190 : decode prog_15_method_21_code 190 = .ok (.invokevirtual 288, 3) := by decide +kernel
theorem d_Mo_readNumber_193 : decode prog_15_method_21_code 193 = .ok (.l2d, 1) := by decide +kernel
theorem d_Mo_readNumber_194 : decode prog_15_method_21_code 194 = .ok (.dload 7, 2) := by decide +kernel
theorem d_Mo_readNumber_196 : decode prog_15_method_21_code 196 = .ok (.ddiv, 1) := by decide +kernel
theorem d_Mo_readNumber_197 : decode prog_15_method_21_code 197 = .ok (.dadd, 1) := by decide +kernel
theorem d_Mo_readNumber_198 : decode prog_15_method_21_code 198 = .ok (.dstore 9, 2) := by decide +kernel
theorem d_Mo_readNumber_200 : decode prog_15_method_21_code 200 = .ok (.aload_n 0, 1) := by decide +kernel
theorem d_Mo_readNumber_201 : decode prog_15_method_21_code 201 = .ok (.bipush 40, 2) := by decide +kernel
theorem d_Mo_readNumber_203 : decode prog_15_method_21_code 203 = .ok (.iconst 1, 1) := by decide +kernel
theorem d_Mo_readNumber_204 : decode prog_15_method_21_code 204 = .ok (.lconst 0, 1) := by decide +kernel
theorem d_Mo_readNumber_205 : decode prog_15_method_21_code 205 = .ok (.invokevirtual 250, 3) := by decide +kernel
theorem d_Mo_readNumber_208 : decode prog_15_method_21_code 208 = .ok (.aload_n 0, 1) := by decide +kernel
theorem d_Mo_readNumber_209 : decode prog_15_method_21_code 209 = .ok (.getfield 17, 3) := by decide +kernel
theorem d_Mo_readNumber_212 : decode prog_15_method_21_code 212 = .ok (.bipush 40, 2) := by decide +kernel
theorem d_Mo_readNumber_227 : decode prog_15_method_21_code 227 = .ok (.dastore, 1) := by decide +kernel
theorem d_Mo_readNumber_228 : decode prog_15_method_21_code 228 = .ok (.aload_n 0, 1) := by decide +kernel
theorem d_Mo_readNumber_229 : decode prog_15_method_21_code 229 = .ok (.dup, 1) := by decide +kernel
theorem d_Mo_readNumber_230 : decode prog_15_method_21_code 230 = .ok (.getfield 281, 3) := by decide +kernel
theorem d_Mo_readNumber_233 : decode prog_15_method_21_code 233 = .ok (.iload 6, 2) := by decide +kernel
theorem d_Mo_readNumber_235 : decode prog_15_method_21_code 235 = .ok (.iconst 1, 1) := by decide +kernel
theorem d_Mo_readNumber_236 : decode prog_15_method_21_code 236 = .ok (.iadd, 1) := by decide +kernel
theorem d_Mo_readNumber_237 : decode prog_15_method_21_code 237 = .ok (.iadd, 1) := by decide +kernel
theorem d_Mo_readNumber_238 : decode prog_15_method_21_code 238 = .ok (.putfield 281, 3) := by decide +kernel
theorem d_Mo_readNumber_241 : decode prog_15_method_21_code 241 = .ok (.iconst 0, 1) := by decide +kernel
theorem d_Mo_readNumber_242 : decode prog_15_method_21_code 242 = .ok (.ireturn, 1) := by decide +kernel
theorem d_Mo_readNumber_214 : decode prog_15_method_21_code 214 = .ok (.iload_n 1, 1) := by decide +kernel
theorem d_Mo_readNumber_215 : decode prog_15_method_21_code 215 = .ok (.ifCond .eq 10, 3) := by decide +kernel
theorem d_Mo_readNumber_225 : decode prog_15_method_21_code 225 = .ok (.dload 9, 2) := by decide +kernel
theorem d_Mo_readNumber_218 : decode prog_15_method_21_code 218 = .ok (.dconst 0, 1) := by decide +kernel
theorem d_Mo_readNumber_219 : decode prog_15_method_21_code 219 = .ok (.dload 9, 2) := by decide +kernel
theorem d_Mo_readNumber_221 : decode prog_15_method_21_code 221 = .ok (.dsub, 1) := by decide +kernel
theorem d_Mo_readNumber_222 : decode prog_15_method_21_code 222 = .ok (.goto 5, 3) := by decide +kernel
theorem d_Mo_readNumber_137 : decode prog_15_method_21_code 137 = .ok (.iload 6, 2) := by decide +kernel
theorem d_Mo_readNumber_139 : decode prog_15_method_21_code 139 = .ok (.iconst 1, 1) := by decide +kernel
theorem d_Mo_readNumber_140 : decode prog_15_method_21_code 140 = .ok (.if_icmp .ne 9, 3) := by decide +kernel
theorem d_Mo_readNumber_149 : decode prog_15_method_21_code 149 = .ok (.iload 6, 2) := by decide +kernel
theorem d_Mo_readNumber_151 : decode prog_15_method_21_code 151 = .ok (.iconst 2, 1) := by decide +kernel
theorem d_Mo_readNumber_152 : decode prog_15_method_21_code 152 = .ok (.if_icmp .ne 9, 3) := by decide +kernel
theorem d_Mo_readNumber_161 : decode prog_15_method_21_code 161 = .ok (.iload 6, 2) := by decide +kernel
theorem d_Mo_readNumber_163 : decode prog_15_method_21_code 163 = .ok (.iconst 3, 1) := by decide +kernel
theorem d_Mo_readNumber_164 : decode prog_15_method_21_code 164 = .ok (.if_icmp .ne 9, 3) := by decide +kernel
theorem d_Mo_readNumber_173 : decode prog_15_method_21_code 173 = .ok (.ldc2_w 302, 3) := by decide +kernel
theorem k_7_110 : Cond.constantDouble "PageScribeModel" 302 (4666723172467343360 : UInt64) ∈ gw := gw_of (tb_7 (List.mem_of_getElem? (i := 110) (by decide +kernel))) (by decide +kernel)
theorem tD_4666723172467343360 : dk 4666723172467343360 = 4666723172467343360 := by decide +kernel
theorem d_Mo_readNumber_167 : decode prog_15_method_21_code 167 = .ok (.ldc2_w 300, 3) := by decide +kernel
theorem k_7_109 : Cond.constantDouble "PageScribeModel" 300 (4652007308841189376 : UInt64) ∈ gw := gw_of (tb_7 (List.mem_of_getElem? (i := 109) (by decide +kernel))) (by decide +kernel)
theorem tD_4652007308841189376 : dk 4652007308841189376 = 4652007308841189376 := by decide +kernel
theorem d_Mo_readNumber_170 : decode prog_15_method_21_code 170 = .ok (.goto 6, 3) := by decide +kernel
theorem d_Mo_readNumber_155 : decode prog_15_method_21_code 155 = .ok (.ldc2_w 298, 3) := by decide +kernel
theorem k_7_108 : Cond.constantDouble "PageScribeModel" 298 (4636737291354636288 : UInt64) ∈ gw := gw_of (tb_7 (List.mem_of_getElem? (i := 108) (by decide +kernel))) (by decide +kernel)
theorem tD_4636737291354636288 : dk 4636737291354636288 = 4636737291354636288 := by decide +kernel
theorem d_Mo_readNumber_158 : decode prog_15_method_21_code 158 = .ok (.goto 18, 3) := by decide +kernel
theorem d_Mo_readNumber_143 : decode prog_15_method_21_code 143 = .ok (.ldc2_w 296, 3) := by decide +kernel
theorem k_7_107 : Cond.constantDouble "PageScribeModel" 296 (4621819117588971520 : UInt64) ∈ gw := gw_of (tb_7 (List.mem_of_getElem? (i := 107) (by decide +kernel))) (by decide +kernel)
theorem tD_4621819117588971520 : dk 4621819117588971520 = 4621819117588971520 := by decide +kernel
theorem d_Mo_readNumber_146 : decode prog_15_method_21_code 146 = .ok (.goto 30, 3) := by decide +kernel
theorem d_Mo_readNumber_116 : decode prog_15_method_21_code 116 = .ok (.aload_n 0, 1) := by decide +kernel
theorem d_Mo_readNumber_117 : decode prog_15_method_21_code 117 = .ok (.bipush 40, 2) := by decide +kernel
theorem d_Mo_readNumber_119 : decode prog_15_method_21_code 119 = .ok (.iconst 0, 1) := by decide +kernel
theorem d_Mo_readNumber_132 : decode prog_15_method_21_code 132 = .ok (.invokevirtual 250, 3) := by decide +kernel
theorem d_Mo_readNumber_135 : decode prog_15_method_21_code 135 = .ok (.iconst 0, 1) := by decide +kernel
theorem d_Mo_readNumber_136 : decode prog_15_method_21_code 136 = .ok (.ireturn, 1) := by decide +kernel
theorem d_Mo_readNumber_120 : decode prog_15_method_21_code 120 = .ok (.iload_n 1, 1) := by decide +kernel
theorem d_Mo_readNumber_121 : decode prog_15_method_21_code 121 = .ok (.ifCond .eq 9, 3) := by decide +kernel
theorem d_Mo_readNumber_130 : decode prog_15_method_21_code 130 = .ok (.lload 4, 2) := by decide +kernel
theorem d_Mo_readNumber_124 : decode prog_15_method_21_code 124 = .ok (.lload 4, 2) := by decide +kernel
theorem d_Mo_readNumber_126 : decode prog_15_method_21_code 126 = .ok (.lneg, 1) := by decide +kernel
theorem d_Mo_readNumber_127 : decode prog_15_method_21_code 127 = .ok (.goto 5, 3) := by decide +kernel
theorem d_Mo_readNumber_108 : decode prog_15_method_21_code 108 = .ok (.bipush 15, 2) := by decide +kernel
theorem d_Mo_readNumber_110 : decode prog_15_method_21_code 110 = .ok (.ireturn, 1) := by decide +kernel
theorem d_Mo_readNumber_73 : decode prog_15_method_21_code 73 = .ok (.aload_n 0, 1) := by decide +kernel
theorem d_Mo_readNumber_74 : decode prog_15_method_21_code 74 = .ok (.aload_n 0, 1) := by decide +kernel
theorem d_Mo_readNumber_75 : decode prog_15_method_21_code 75 = .ok (.getfield 281, 3) := by decide +kernel
theorem d_Mo_readNumber_78 : decode prog_15_method_21_code 78 = .ok (.invokevirtual 292, 3) := by decide +kernel
theorem k_7_106 : Cond.code ⟨"PageScribeModel", "look", "(I)C"⟩ prog_15_method_18_code 2 (some .char) ∈ gw := gw_of (tb_7 (List.mem_of_getElem? (i := 106) (by decide +kernel))) (by decide +kernel)
theorem k_7_103 : Cond.methodLink "PageScribeModel" 292 ⟨"PageScribeModel", "look", "(I)C"⟩ ∈ gw := gw_of (tb_7 (List.mem_of_getElem? (i := 103) (by decide +kernel))) (by decide +kernel)
theorem k_7_105 : Cond.instanceMethod ⟨"PageScribeModel", "look", "(I)C"⟩ ∈ gw := gw_of (tb_7 (List.mem_of_getElem? (i := 105) (by decide +kernel))) (by decide +kernel)
theorem k_0_88 : Cond.selects "PageScribeModel" ⟨"PageScribeModel", "look", "(I)C"⟩ ⟨"PageScribeModel", "look", "(I)C"⟩ ∈ gw := gw_of (tb_0 (List.mem_of_getElem? (i := 88) (by decide +kernel))) (by decide +kernel)
theorem d_Mo_readNumber_81 : decode prog_15_method_21_code 81 = .ok (.bipush 46, 2) := by decide +kernel
theorem d_Mo_readNumber_83 : decode prog_15_method_21_code 83 = .ok (.if_icmp .ne 16, 3) := by decide +kernel
theorem d_Mo_readNumber_99 : decode prog_15_method_21_code 99 = .ok (.iconst 0, 1) := by decide +kernel
theorem d_Mo_readNumber_86 : decode prog_15_method_21_code 86 = .ok (.aload_n 0, 1) := by decide +kernel
theorem d_Mo_readNumber_87 : decode prog_15_method_21_code 87 = .ok (.aload_n 0, 1) := by decide +kernel
theorem d_Mo_readNumber_88 : decode prog_15_method_21_code 88 = .ok (.getfield 281, 3) := by decide +kernel
theorem d_Mo_readNumber_91 : decode prog_15_method_21_code 91 = .ok (.iconst 1, 1) := by decide +kernel
theorem d_Mo_readNumber_92 : decode prog_15_method_21_code 92 = .ok (.iadd, 1) := by decide +kernel
theorem d_Mo_readNumber_93 : decode prog_15_method_21_code 93 = .ok (.invokevirtual 284, 3) := by decide +kernel
theorem d_Mo_readNumber_96 : decode prog_15_method_21_code 96 = .ok (.goto 4, 3) := by decide +kernel
theorem d_Mo_readNumber_20 : decode prog_15_method_21_code 20 = .ok (.iload_n 1, 1) := by decide +kernel
theorem d_Mo_readNumber_21 : decode prog_15_method_21_code 21 = .ok (.ifCond .eq 12, 3) := by decide +kernel
theorem d_Mo_readNumber_33 : decode prog_15_method_21_code 33 = .ok (.aload_n 0, 1) := by decide +kernel
theorem d_Mo_readNumber_34 : decode prog_15_method_21_code 34 = .ok (.getfield 281, 3) := by decide +kernel
theorem d_Mo_readNumber_24 : decode prog_15_method_21_code 24 = .ok (.aload_n 0, 1) := by decide +kernel
theorem d_Mo_readNumber_25 : decode prog_15_method_21_code 25 = .ok (.getfield 281, 3) := by decide +kernel
theorem d_Mo_readNumber_28 : decode prog_15_method_21_code 28 = .ok (.iconst 1, 1) := by decide +kernel
theorem d_Mo_readNumber_29 : decode prog_15_method_21_code 29 = .ok (.iadd, 1) := by decide +kernel
theorem d_Mo_readNumber_30 : decode prog_15_method_21_code 30 = .ok (.goto 7, 3) := by decide +kernel
theorem d_Mo_readNumber_0 : decode prog_15_method_21_code 0 = .ok (.aload_n 0, 1) := by decide +kernel
theorem d_Mo_readNumber_1 : decode prog_15_method_21_code 1 = .ok (.getfield 61, 3) := by decide +kernel
theorem d_Mo_readNumber_4 : decode prog_15_method_21_code 4 = .ok (.aload_n 0, 1) := by decide +kernel
theorem d_Mo_readNumber_5 : decode prog_15_method_21_code 5 = .ok (.getfield 281, 3) := by decide +kernel
theorem d_Mo_readNumber_8 : decode prog_15_method_21_code 8 = .ok (.caload, 1) := by decide +kernel
theorem d_Mo_readNumber_9 : decode prog_15_method_21_code 9 = .ok (.bipush 45, 2) := by decide +kernel
theorem d_Mo_readNumber_11 : decode prog_15_method_21_code 11 = .ok (.if_icmp .ne 7, 3) := by decide +kernel
theorem d_Mo_readNumber_18 : decode prog_15_method_21_code 18 = .ok (.iconst 0, 1) := by decide +kernel
theorem d_Mo_readNumber_14 : decode prog_15_method_21_code 14 = .ok (.iconst 1, 1) := by decide +kernel
theorem d_Mo_readNumber_15 : decode prog_15_method_21_code 15 = .ok (.goto 4, 3) := by decide +kernel
set_option maxHeartbeats 4000000 in
set_option maxRecDepth 100000 in
theorem m_readNumber (l : Launch) (D : va_G) (T : Nat → ClassId) (h0 : Nat) (ar : Nat → Nat) (S : MS)  (sz : Nat) (hI : MI S) (h1 : 0 ≤ (f_at S).toInt ∧ (f_at S).toInt < (f_length S).toInt) : Met l ⟨"PageScribeModel", "readNumber", "()I"⟩ (wy ⟨"PageScribeModel", "readNumber", "()I"⟩ prog_15_method_21_code 11 (some .int)) ({ frames := 2, cells := 0, slots := 0, locals := 140 }) (va_Pc [.ref h0] (Pw D T (mW T h0 ar S) sz E0)) (va_Qi (fun (r : Int32) (u : MS) => MI u ∧ kR S u ∧ kF S u ∧ (0 ≤ r.toInt ∧ r.toInt ≤ 15 ∧ 0 ≤ (f_at u).toInt ∧ (f_at u).toInt ≤ (f_length S).toInt ∧ (r.toInt = 0 → (f_at S).toInt < (f_at u).toInt))) (fun u t => Bw D T (va_A (mW T h0 ar S) sz) (mW T h0 ar u) t) (va_A (mW T h0 ar S) sz)) 0 0 (va_A (mW T h0 ar S) sz) := by
  refine j_met (y := ⟨"PageScribeModel", "readNumber", "()I"⟩) (b := prog_15_method_21_code) (n := 11) (ret := (some .int)) (av := [.ref h0]) (Qc := fun A => va_Qi (fun (r : Int32) (u : MS) => MI u ∧ kR S u ∧ kF S u ∧ (0 ≤ r.toInt ∧ r.toInt ≤ 15 ∧ 0 ≤ (f_at u).toInt ∧ (f_at u).toInt ≤ (f_length S).toInt ∧ (r.toInt = 0 → (f_at S).toInt < (f_at u).toInt))) (fun u t => Bw D T A (mW T h0 ar u) t) A) (by decide +kernel) (Nat.le_of_ble_eq_true rfl) (fun p e s m args below meth c A ls F hr hlocks hnm hK hP hD hS hA hN hE hl => ?_)
  obtain ⟨hx, hb, hml, hown, hts⟩ := id F
  have hl : lv_has ls 11 [(0, .ref h0)] := hl
  obtain ⟨i_size, i_taken, i_vals, i_room, i_dicts, i_deep, i_open, i_cells, i_points, i_part, i_length, i_knows, i_page, i_text, i_pats, i_fuel, i_fr, i_ink⟩ := id hI
  refine j_joinH (α := Int32) (fun x H locs ls => (x.toInt = 0 ∨ x.toInt = 1) ∧ va_P D classes (mW T h0 ar S) H ∧ va_D A (mW T h0 ar S) ∧ va_S A s.heap H locs ∧ lv_has ls 11 [(0, .ref h0)]) (fun x ls => F0 m 19 ls (.int x :: [])) (fun x H locs ls hI9 => ?_) (fun key1 => ?_)
  · obtain ⟨j1, rfl⟩ : ∃ z, z = x := ⟨_, rfl⟩
    obtain ⟨hj1, hP, hD, hS, hl⟩ := hI9
    have hj1 : j1.toInt = 0 ∨ j1.toInt = 1 := hj1
    have hP : va_P D classes (mW T h0 ar S) H := hP
    have hD : va_D A (mW T h0 ar S) := hD
    have hl : lv_has ls 11 [(0, .ref h0)] := hl
    refine lv_istore_n (lv' := [(1, .int j1), (0, .ref h0)]) hx hb d_Mo_readNumber_19 rfl hl (by decide) rfl (fun ls hl => ?_)
    refine j_joinH (α := Int32) (fun x H locs ls => ((f_at S).toInt ≤ x.toInt ∧ x.toInt ≤ (f_at S).toInt + 1) ∧ va_P D classes (mW T h0 ar S) H ∧ va_D A (mW T h0 ar S) ∧ va_S A s.heap H locs ∧ lv_has ls 11 [(1, .int j1), (0, .ref h0)]) (fun x ls => F0 m 37 ls (.int x :: [])) (fun x H locs ls hI9 => ?_) (fun key2 => ?_)
    · obtain ⟨j2, rfl⟩ : ∃ z, z = x := ⟨_, rfl⟩
      obtain ⟨hj2, hP, hD, hS, hl⟩ := hI9
      have hj2 : (f_at S).toInt ≤ j2.toInt ∧ j2.toInt ≤ (f_at S).toInt + 1 := hj2
      have hP : va_P D classes (mW T h0 ar S) H := hP
      have hD : va_D A (mW T h0 ar S) := hD
      have hl : lv_has ls 11 [(1, .int j1), (0, .ref h0)] := hl
      refine lv_istore_n (lv' := [(2, .int j2), (1, .int j1), (0, .ref h0)]) hx hb d_Mo_readNumber_37 rfl hl (by decide) rfl (fun ls hl => ?_)
      refine lv_aload_n hx hb d_Mo_readNumber_38 rfl (lv_at hl 2 rfl) ?_
      refine lv_iload_n hx hb d_Mo_readNumber_39 rfl (lv_at hl 0 rfl) ?_
      refine jm_ci (w := (fun _ => S)) hK hP hD hS hA (va_runV (As := [.int j2]) (rest := []) F (m_digits l D T h0 ar S j2 H.size ⟨i_size, i_taken, i_vals, i_room, i_dicts, i_deep, i_open, i_cells, i_points, i_part, i_length, i_knows, i_page, i_text, i_pats, i_fuel, i_fr, i_ink⟩ (show 0 ≤ j2.toInt ∧ j2.toInt ≤ 1000 by omega)) (j_cV (k := 1) (C := "PageScribeModel") hts k_7_96 k_1_12 k_7_93 k_7_95 k_0_86 (by decide +kernel) ⟨Nat.le_of_ble_eq_true rfl, Nat.le_of_ble_eq_true rfl⟩) (jm_pre hK hP hD) rfl rfl hl.1 rfl (lv_room (Nat.le_of_ble_eq_true rfl)) d_Mo_readNumber_40 ⟨Nat.le_of_ble_eq_true rfl, Nat.le_of_ble_eq_true rfl⟩) (fun rv1 u1 H locs hw1 hP hD hS => ?_)
      have hP : va_P D classes (mW T h0 ar S) H := hP
      have hD : va_D A (mW T h0 ar S) := hD
      have qhw1 : 0 ≤ rv1.toInt ∧ rv1.toInt ≤ 120 ∧ (rv1.toInt = 0 ∨ j2.toInt + rv1.toInt ≤ (f_length S).toInt) ∧ digP (a_text S) j2.toInt.toNat rv1.toInt.toNat := hw1
      refine lv_istore_n (lv' := [(3, .int rv1), (2, .int j2), (1, .int j1), (0, .ref h0)]) hx hb d_Mo_readNumber_43 rfl hl (by decide) rfl (fun ls hl => ?_)
      refine lv_iload_n hx hb d_Mo_readNumber_44 rfl (lv_at hl 0 rfl) ?_
      refine lv_iconst (v := 1) hx hb d_Mo_readNumber_45 (by decide) ?_
      refine lv_icmp_lt (tgt := 55) hx hb d_Mo_readNumber_46 (by decide) (fun c46_1 => ?_) (fun c46_1 => ?_)
      · have fc46_1 : rv1.toInt < 1 := zt_lt (show rv1.toInt = _ from rfl) tI_1 c46_1
        refine lv_bipush (v := 15) hx hb d_Mo_readNumber_55 (by decide) ?_
        exact j_iret F hr hlocks hK hS S ⟨⟨i_size, i_taken, i_vals, i_room, i_dicts, i_deep, i_open, i_cells, i_points, i_part, i_length, i_knows, i_page, i_text, i_pats, i_fuel, i_fr, i_ink⟩, (kR_r S), (kF_r S), (show 0 ≤ (15 : Int32).toInt ∧ (15 : Int32).toInt ≤ 15 ∧ 0 ≤ (f_at S).toInt ∧ (f_at S).toInt ≤ (f_length S).toInt ∧ ((15 : Int32).toInt = 0 → (f_at S).toInt < (f_at S).toInt) by have := tI_15; omega)⟩ hP hD d_Mo_readNumber_57
      · have fc46_1 : 1 ≤ rv1.toInt := Int.not_lt.mp (zt_nlt (show rv1.toInt = _ from rfl) tI_1 c46_1)
        refine lv_iload_n hx hb d_Mo_readNumber_49 rfl (lv_at hl 0 rfl) ?_
        refine lv_bipush (v := 9) hx hb d_Mo_readNumber_50 (by decide) ?_
        refine lv_icmp_le (tgt := 58) hx hb d_Mo_readNumber_52 (by decide) (fun c52_1 => ?_) (fun c52_1 => ?_)
        · have fc52_1 : rv1.toInt ≤ 9 := zt_le (show rv1.toInt = _ from rfl) tI_9 c52_1
          refine lv_aload_n hx hb d_Mo_readNumber_58 rfl (lv_at hl 3 rfl) ?_
          refine lv_iload_n hx hb d_Mo_readNumber_59 rfl (lv_at hl 1 rfl) ?_
          refine lv_iload_n hx hb d_Mo_readNumber_60 rfl (lv_at hl 0 rfl) ?_
          refine jm_cl (w := (fun _ => S)) hK hP hD hS hA (va_runV (As := [.int j2, .int rv1]) (rest := []) F (m_whole l D T h0 ar S j2 rv1 H.size ⟨i_size, i_taken, i_vals, i_room, i_dicts, i_deep, i_open, i_cells, i_points, i_part, i_length, i_knows, i_page, i_text, i_pats, i_fuel, i_fr, i_ink⟩ (show 0 ≤ j2.toInt ∧ 0 ≤ rv1.toInt ∧ rv1.toInt ≤ 9 ∧ j2.toInt + rv1.toInt ≤ 120 by omega) (show digP (a_text S) j2.toInt.toNat rv1.toInt.toNat from by simpa using qhw1.2.2.2)) (j_cV (k := 2) (C := "PageScribeModel") hts k_7_100 k_1_12 k_7_97 k_7_99 k_0_87 (by decide +kernel) ⟨Nat.le_of_ble_eq_true rfl, Nat.le_of_ble_eq_true rfl⟩) (jm_pre hK hP hD) rfl rfl hl.1 rfl (lv_room (Nat.le_of_ble_eq_true rfl)) d_Mo_readNumber_61 ⟨Nat.le_of_ble_eq_true rfl, Nat.le_of_ble_eq_true rfl⟩) (fun rv2 u2 H locs hw2 hP hD hS => ?_)
          have hP : va_P D classes (mW T h0 ar S) H := hP
          have hD : va_D A (mW T h0 ar S) := hD
          have qhw2 : 0 ≤ rv2.toInt ∧ rv2.toInt < 1000000000 := hw2
          refine lv_lstore (lv' := [(4, .long rv2), (3, .int rv1), (2, .int j2), (1, .int j1), (0, .ref h0)]) hx hb d_Mo_readNumber_64 hl (by decide) rfl (fun ls hl => ?_)
          refine lv_aload_n hx hb d_Mo_readNumber_66 rfl (lv_at hl 4 rfl) ?_
          refine lv_iload_n hx hb d_Mo_readNumber_67 rfl (lv_at hl 2 rfl) ?_
          refine lv_iload_n hx hb d_Mo_readNumber_68 rfl (lv_at hl 1 rfl) ?_
          refine lv_iadd hx hb d_Mo_readNumber_69 ?_
          refine lv_topi (fun x1 ex1 => ?_)
          have fx1 : x1.toInt = (j2.toInt + rv1.toInt) := by rw [ex1]; exact (zt_add (show j2.toInt = _ from rfl) (show rv1.toInt = _ from rfl) (by omega) (by omega)).trans (by omega)
          refine va_put (D := D) (ci := 11) (v := .int x1) (ty := .int) (C := "PageScribeModel") (T := F_Mo) (N := 45) hx hb hts i_Mo t_Mo t_Mo_ok n_Mo hown hK hP hD hS 0 mW_0 cl_11 25 (by decide) (hts _ k_6_185) (fun _ h9 => h9) rfl (by decide +kernel) rfl rfl (Nat.le_of_ble_eq_true rfl) d_Mo_readNumber_70 (fun H locs hP hD hS => ?_)
          rw [mp_at] at hP hD
          have hP : va_P D classes (mW T h0 ar ((S.1, S.2.1, S.2.2.1, ((f_length S), x1, (f_pending S), (f_level S), (a_starts S), (a_known S), (f_knows S), (f_fuel S)), S.2.2.2.2.1, S.2.2.2.2.2) : MS)) H := hP
          have hD : va_D A (mW T h0 ar ((S.1, S.2.1, S.2.2.1, ((f_length S), x1, (f_pending S), (f_level S), (a_starts S), (a_known S), (f_knows S), (f_fuel S)), S.2.2.2.2.1, S.2.2.2.2.2) : MS)) := hD
          refine j_joinH (α := Int32) (fun x H locs ls => (0 ≤ x.toInt ∧ x.toInt ≤ 120 ∧ (x.toInt = 0 ∨ (j2.toInt + rv1.toInt + 1) + x.toInt ≤ (f_length S).toInt) ∧ digP (a_text S) (j2.toInt + rv1.toInt + 1).toNat x.toInt.toNat) ∧ va_P D classes (mW T h0 ar ((S.1, S.2.1, S.2.2.1, ((f_length S), x1, (f_pending S), (f_level S), (a_starts S), (a_known S), (f_knows S), (f_fuel S)), S.2.2.2.2.1, S.2.2.2.2.2) : MS)) H ∧ va_D A (mW T h0 ar ((S.1, S.2.1, S.2.2.1, ((f_length S), x1, (f_pending S), (f_level S), (a_starts S), (a_known S), (f_knows S), (f_fuel S)), S.2.2.2.2.1, S.2.2.2.2.2) : MS)) ∧ va_S A s.heap H locs ∧ lv_has ls 11 [(4, .long rv2), (3, .int rv1), (2, .int j2), (1, .int j1), (0, .ref h0)]) (fun x ls => F0 m 100 ls (.int x :: [])) (fun x H locs ls hI9 => ?_) (fun key3 => ?_)
          · obtain ⟨j3, rfl⟩ : ∃ z, z = x := ⟨_, rfl⟩
            obtain ⟨hj3, hP, hD, hS, hl⟩ := hI9
            have hj3 : 0 ≤ j3.toInt ∧ j3.toInt ≤ 120 ∧ (j3.toInt = 0 ∨ (j2.toInt + rv1.toInt + 1) + j3.toInt ≤ (f_length S).toInt) ∧ digP (a_text S) (j2.toInt + rv1.toInt + 1).toNat j3.toInt.toNat := hj3
            have hP : va_P D classes (mW T h0 ar ((S.1, S.2.1, S.2.2.1, ((f_length S), x1, (f_pending S), (f_level S), (a_starts S), (a_known S), (f_knows S), (f_fuel S)), S.2.2.2.2.1, S.2.2.2.2.2) : MS)) H := hP
            have hD : va_D A (mW T h0 ar ((S.1, S.2.1, S.2.2.1, ((f_length S), x1, (f_pending S), (f_level S), (a_starts S), (a_known S), (f_knows S), (f_fuel S)), S.2.2.2.2.1, S.2.2.2.2.2) : MS)) := hD
            have hl : lv_has ls 11 [(4, .long rv2), (3, .int rv1), (2, .int j2), (1, .int j1), (0, .ref h0)] := hl
            refine lv_istore (lv' := [(6, .int j3), (4, .long rv2), (3, .int rv1), (2, .int j2), (1, .int j1), (0, .ref h0)]) hx hb d_Mo_readNumber_100 hl (by decide) rfl (fun ls hl => ?_)
            refine lv_iload hx hb d_Mo_readNumber_102 (lv_at hl 0 rfl) ?_
            refine lv_iconst (v := 4) hx hb d_Mo_readNumber_104 (by decide) ?_
            refine lv_icmp_le (tgt := 111) hx hb d_Mo_readNumber_105 (by decide) (fun c105_1 => ?_) (fun c105_1 => ?_)
            · have fc105_1 : j3.toInt ≤ 4 := zt_le (show j3.toInt = _ from rfl) tI_4 c105_1
              refine lv_iload hx hb d_Mo_readNumber_111 (lv_at hl 0 rfl) ?_
              refine lv_if_ne (tgt := 137) hx hb d_Mo_readNumber_113 (by decide) (fun c113_1 => ?_) (fun c113_1 => ?_)
              · first | have fc113_1 : j3.toInt < 0 := (by have := zt_ne (show j3.toInt = _ from rfl) tI_0 c113_1; omega) | have fc113_1 : 0 < j3.toInt := (by have := zt_ne (show j3.toInt = _ from rfl) tI_0 c113_1; omega) | skip
                refine j_joinH (α := UInt64) (fun x H locs ls => (4621819117588971520 ≤ dk x ∧ dk x ≤ 4666723172467343360) ∧ va_P D classes (mW T h0 ar ((S.1, S.2.1, S.2.2.1, ((f_length S), x1, (f_pending S), (f_level S), (a_starts S), (a_known S), (f_knows S), (f_fuel S)), S.2.2.2.2.1, S.2.2.2.2.2) : MS)) H ∧ va_D A (mW T h0 ar ((S.1, S.2.1, S.2.2.1, ((f_length S), x1, (f_pending S), (f_level S), (a_starts S), (a_known S), (f_knows S), (f_fuel S)), S.2.2.2.2.1, S.2.2.2.2.2) : MS)) ∧ va_S A s.heap H locs ∧ lv_has ls 11 [(6, .int j3), (4, .long rv2), (3, .int rv1), (2, .int j2), (1, .int j1), (0, .ref h0)]) (fun x ls => F0 m 176 ls (.double x :: [])) (fun x H locs ls hI9 => ?_) (fun key4 => ?_)
                · obtain ⟨j4, rfl⟩ : ∃ z, z = x := ⟨_, rfl⟩
                  obtain ⟨hj4, hP, hD, hS, hl⟩ := hI9
                  have hj4 : 4621819117588971520 ≤ dk j4 ∧ dk j4 ≤ 4666723172467343360 := hj4
                  have hP : va_P D classes (mW T h0 ar ((S.1, S.2.1, S.2.2.1, ((f_length S), x1, (f_pending S), (f_level S), (a_starts S), (a_known S), (f_knows S), (f_fuel S)), S.2.2.2.2.1, S.2.2.2.2.2) : MS)) H := hP
                  have hD : va_D A (mW T h0 ar ((S.1, S.2.1, S.2.2.1, ((f_length S), x1, (f_pending S), (f_level S), (a_starts S), (a_known S), (f_knows S), (f_fuel S)), S.2.2.2.2.1, S.2.2.2.2.2) : MS)) := hD
                  have hl : lv_has ls 11 [(6, .int j3), (4, .long rv2), (3, .int rv1), (2, .int j2), (1, .int j1), (0, .ref h0)] := hl
                  refine lv_dstore (lv' := [(7, .double j4), (6, .int j3), (4, .long rv2), (3, .int rv1), (2, .int j2), (1, .int j1), (0, .ref h0)]) hx hb d_Mo_readNumber_176 hl (by decide) rfl (fun ls hl => ?_)
                  refine lv_lload hx hb d_Mo_readNumber_178 (lv_at hl 2 rfl) ?_
                  refine lv_l2d hx hb d_Mo_readNumber_180 ?_
                  refine lv_topd (fun x2 ex2 => ?_)
                  have fx2 : dB x2 := by rw [ex2]; exact zd_l2d _
                  have mx2 : dM 1055 x2 := by rw [ex2]; exact dM_l30 (by omega)
                  refine lv_aload_n hx hb d_Mo_readNumber_181 rfl (lv_at hl 6 rfl) ?_
                  refine lv_aload_n hx hb d_Mo_readNumber_182 rfl (lv_at hl 6 rfl) ?_
                  refine va_get (D := D) (ci := 11) (v := .int x1) (C := "PageScribeModel") (T := F_Mo) (N := 45) hx hb hts i_Mo hown hK hP 0 mW_0 cl_11 25 (by decide) (hts _ k_6_185) (fun _ h9 => h9) (mg_at _ _) d_Mo_readNumber_183 ?_
                  refine lv_iconst (v := 1) hx hb d_Mo_readNumber_186 (by decide) ?_
                  refine lv_iadd hx hb d_Mo_readNumber_187 ?_
                  refine lv_topi (fun x3 ex3 => ?_)
                  have fx3 : x3.toInt = (j2.toInt + rv1.toInt + 1) := by rw [ex3]; exact (zt_add fx1 tI_1 (by omega) (by omega)).trans (by omega)
                  refine lv_iload hx hb d_Mo_readNumber_188 (lv_at hl 1 rfl) ?_
                  refine jm_cl (w := (fun _ => ((S.1, S.2.1, S.2.2.1, ((f_length S), x1, (f_pending S), (f_level S), (a_starts S), (a_known S), (f_knows S), (f_fuel S)), S.2.2.2.2.1, S.2.2.2.2.2) : MS))) hK hP hD hS hA (va_runV (As := [.int x3, .int j3]) (rest := [.double x2]) F (m_whole l D T h0 ar ((S.1, S.2.1, S.2.2.1, ((f_length S), x1, (f_pending S), (f_level S), (a_starts S), (a_known S), (f_knows S), (f_fuel S)), S.2.2.2.2.1, S.2.2.2.2.2) : MS) x3 j3 H.size ⟨i_size, i_taken, i_vals, i_room, i_dicts, i_deep, i_open, i_cells, i_points, i_part, i_length, i_knows, i_page, i_text, i_pats, i_fuel, i_fr, i_ink⟩ (show 0 ≤ x3.toInt ∧ 0 ≤ j3.toInt ∧ j3.toInt ≤ 9 ∧ x3.toInt + j3.toInt ≤ 120 by first | omega | (simp only [fx3]; omega)) (show digP (a_text S) x3.toInt.toNat j3.toInt.toNat from by rw [fx3]; exact hj3.2.2.2)) (j_cV (k := 2) (C := "PageScribeModel") hts k_7_100 k_1_12 k_7_97 k_7_99 k_0_87 (by decide +kernel) ⟨Nat.le_of_ble_eq_true rfl, Nat.le_of_ble_eq_true rfl⟩) (jm_pre hK hP hD) rfl rfl hl.1 rfl (lv_room (Nat.le_of_ble_eq_true rfl)) d_Mo_readNumber_190 ⟨Nat.le_of_ble_eq_true rfl, Nat.le_of_ble_eq_true rfl⟩) (fun rv3 u3 H locs hw3 hP hD hS => ?_)
                  have hP : va_P D classes (mW T h0 ar ((S.1, S.2.1, S.2.2.1, ((f_length S), x1, (f_pending S), (f_level S), (a_starts S), (a_known S), (f_knows S), (f_fuel S)), S.2.2.2.2.1, S.2.2.2.2.2) : MS)) H := hP
                  have hD : va_D A (mW T h0 ar ((S.1, S.2.1, S.2.2.1, ((f_length S), x1, (f_pending S), (f_level S), (a_starts S), (a_known S), (f_knows S), (f_fuel S)), S.2.2.2.2.1, S.2.2.2.2.2) : MS)) := hD
                  have qhw3 : 0 ≤ rv3.toInt ∧ rv3.toInt < 1000000000 := by simpa only [fx1, fx3] using hw3
                  refine lv_l2d hx hb d_Mo_readNumber_193 ?_
                  refine lv_topd (fun x4 ex4 => ?_)
                  have fx4 : dB x4 := by rw [ex4]; exact zd_l2d _
                  have mx4 : dM 1055 x4 := by rw [ex4]; exact dM_l30 (by omega)
                  refine lv_dload hx hb d_Mo_readNumber_194 (lv_at hl 0 rfl) ?_
                  have m196 : dM 1053 (FP.ddiv x4 j4) := dM_div (K := 1055) (L := 1026) mx4 (dM_lo (by omega)) (by decide) (by decide)
                  refine lv_ddiv hx hb d_Mo_readNumber_196 (vf_N (dF_N (dM_F m196 (by decide)))) ?_
                  refine lv_topd (fun x5 ex5 => ?_)
                  rw [show FP.ddiv x4 j4 = x5 from ex5.symm] at m196
                  have m197_0 : dM 1057 (FP.dadd x2 x5) := dM_add (K := 1055) (dM_le mx2 (by decide)) (dM_le m196 (by decide)) (by decide)
                  refine lv_dadd hx hb d_Mo_readNumber_197 (vf_N (dF_N (dM_F m197_0 (by decide)))) ?_
                  refine lv_topd (fun x6 ex6 => ?_)
                  rw [show FP.dadd x2 x5 = x6 from ex6.symm] at m197_0
                  have dx6 : dF x6 := dM_F m197_0 (by decide)
                  have bx6 : dB x6 := dM_dB m197_0 (by decide)
                  refine lv_dstore (lv' := [(9, .double x6), (7, .double j4), (6, .int j3), (4, .long rv2), (3, .int rv1), (2, .int j2), (1, .int j1), (0, .ref h0)]) hx hb d_Mo_readNumber_198 hl (by decide) rfl (fun ls hl => ?_)
                  refine lv_aload_n hx hb d_Mo_readNumber_200 rfl (lv_at hl 7 rfl) ?_
                  refine lv_bipush (v := 40) hx hb d_Mo_readNumber_201 (by decide) ?_
                  refine lv_iconst (v := 1) hx hb d_Mo_readNumber_203 (by decide) ?_
                  refine lv_lconst (v := 0) hx hb d_Mo_readNumber_204 (by decide) ?_
                  refine jm_cv (w := (fun u => u)) hK hP hD hS hA (va_runV (As := [.int 40, .int 1, .long 0]) (rest := []) F (m_set l D T h0 ar ((S.1, S.2.1, S.2.2.1, ((f_length S), x1, (f_pending S), (f_level S), (a_starts S), (a_known S), (f_knows S), (f_fuel S)), S.2.2.2.2.1, S.2.2.2.2.2) : MS) (40 : Int32) (1 : Int32) (0 : Int64) H.size (show 0 ≤ (40 : Int32).toInt ∧ (40 : Int32).toInt < 1300 by have := tI_40; have := tI_1; have := tJ_0; omega)) (j_cV (k := 3) (C := "PageScribeModel") hts k_7_81 k_1_12 k_7_78 k_7_80 k_0_83 (by decide +kernel) ⟨Nat.le_of_ble_eq_true rfl, Nat.le_of_ble_eq_true rfl⟩) (jm_pre hK hP hD) rfl rfl hl.1 rfl (lv_room (Nat.le_of_ble_eq_true rfl)) d_Mo_readNumber_205 ⟨Nat.le_of_ble_eq_true rfl, Nat.le_of_ble_eq_true rfl⟩) (fun S1 H locs hw4 hP hD hS => ?_)
                  try simp only [tI_40, tI_1, tJ_0] at hw4
                  obtain rfl := hw4
                  have hP : va_P D classes (mW T h0 ar ((((f_thrown S), (upd (a_kinds S) (40) (1 : Int32)), (vp_updL (a_codes S) (40) (0 : Int64)), (vf_upd (a_reals S) (40) 0), (f_size S), (f_taken S), (a_words S), (a_many S)), S.2.1, S.2.2.1, ((f_length S), x1, (f_pending S), (f_level S), (a_starts S), (a_known S), (f_knows S), (f_fuel S)), S.2.2.2.2.1, S.2.2.2.2.2) : MS)) H := hP
                  have hD : va_D A (mW T h0 ar ((((f_thrown S), (upd (a_kinds S) (40) (1 : Int32)), (vp_updL (a_codes S) (40) (0 : Int64)), (vf_upd (a_reals S) (40) 0), (f_size S), (f_taken S), (a_words S), (a_many S)), S.2.1, S.2.2.1, ((f_length S), x1, (f_pending S), (f_level S), (a_starts S), (a_known S), (f_knows S), (f_fuel S)), S.2.2.2.2.1, S.2.2.2.2.2) : MS)) := hD
                  have i_vals : ∀ k, k < 1300 → vOk ((upd (a_kinds S) (40) (1 : Int32)) k) ((vp_updL (a_codes S) (40) (0 : Int64)) k) ((vf_upd (a_reals S) (40) 0) k) := vOk_upd i_vals (vO_of 1 tI_1 (by decide))
                  have fa1 : ((upd (a_kinds S) (40) (1 : Int32)) 40).toInt = (1 : Int32).toInt := congrArg Int32.toInt upd_s
                  have := tI_1
                  refine lv_aload_n hx hb d_Mo_readNumber_208 rfl (lv_at hl 7 rfl) ?_
                  refine va_get (D := D) (ci := 11) (v := .ref (ar 2)) (C := "PageScribeModel") (T := F_Mo) (N := 45) hx hb hts i_Mo hown hK hP 0 mW_0 cl_11 3 (by decide) (hts _ k_6_163) (fun _ h9 => h9) (mg_reals _ _) d_Mo_readNumber_209 ?_
                  refine lv_bipush (v := 40) hx hb d_Mo_readNumber_212 (by decide) ?_
                  refine j_joinH (α := UInt64) (fun x H locs ls => (dB x) ∧ va_P D classes (mW T h0 ar ((((f_thrown S), (upd (a_kinds S) (40) (1 : Int32)), (vp_updL (a_codes S) (40) (0 : Int64)), (vf_upd (a_reals S) (40) 0), (f_size S), (f_taken S), (a_words S), (a_many S)), S.2.1, S.2.2.1, ((f_length S), x1, (f_pending S), (f_level S), (a_starts S), (a_known S), (f_knows S), (f_fuel S)), S.2.2.2.2.1, S.2.2.2.2.2) : MS)) H ∧ va_D A (mW T h0 ar ((((f_thrown S), (upd (a_kinds S) (40) (1 : Int32)), (vp_updL (a_codes S) (40) (0 : Int64)), (vf_upd (a_reals S) (40) 0), (f_size S), (f_taken S), (a_words S), (a_many S)), S.2.1, S.2.2.1, ((f_length S), x1, (f_pending S), (f_level S), (a_starts S), (a_known S), (f_knows S), (f_fuel S)), S.2.2.2.2.1, S.2.2.2.2.2) : MS)) ∧ va_S A s.heap H locs ∧ lv_has ls 11 [(9, .double x6), (7, .double j4), (6, .int j3), (4, .long rv2), (3, .int rv1), (2, .int j2), (1, .int j1), (0, .ref h0)]) (fun x ls => F0 m 227 ls (.double x :: [.int 40, .ref (ar 2)])) (fun x H locs ls hI9 => ?_) (fun key5 => ?_)
                  · obtain ⟨j5, rfl⟩ : ∃ z, z = x := ⟨_, rfl⟩
                    obtain ⟨hj5, hP, hD, hS, hl⟩ := hI9
                    have hj5 : dB j5 := hj5
                    have hP : va_P D classes (mW T h0 ar ((((f_thrown S), (upd (a_kinds S) (40) (1 : Int32)), (vp_updL (a_codes S) (40) (0 : Int64)), (vf_upd (a_reals S) (40) 0), (f_size S), (f_taken S), (a_words S), (a_many S)), S.2.1, S.2.2.1, ((f_length S), x1, (f_pending S), (f_level S), (a_starts S), (a_known S), (f_knows S), (f_fuel S)), S.2.2.2.2.1, S.2.2.2.2.2) : MS)) H := hP
                    have hD : va_D A (mW T h0 ar ((((f_thrown S), (upd (a_kinds S) (40) (1 : Int32)), (vp_updL (a_codes S) (40) (0 : Int64)), (vf_upd (a_reals S) (40) 0), (f_size S), (f_taken S), (a_words S), (a_many S)), S.2.1, S.2.2.1, ((f_length S), x1, (f_pending S), (f_level S), (a_starts S), (a_known S), (f_knows S), (f_fuel S)), S.2.2.2.2.1, S.2.2.2.2.2) : MS)) := hD
                    have hl : lv_has ls 11 [(9, .double x6), (7, .double j4), (6, .int j3), (4, .long rv2), (3, .int rv1), (2, .int j2), (1, .int j1), (0, .ref h0)] := hl
                    refine va_dast hx hb hK hP hD hS 3 3 (ma_reals _ _ _ _) rfl (zt_in tI_40 (by omega) (by omega)) d_Mo_readNumber_227 (fun H locs hP hD hS => ?_)
                    rw [ms_reals] at hP hD
                    rw [zt_ix (tI_40)] at hP hD
                    have hP : va_P D classes (mW T h0 ar ((((f_thrown S), (upd (a_kinds S) (40) (1 : Int32)), (vp_updL (a_codes S) (40) (0 : Int64)), (vf_upd (vf_upd (a_reals S) (40) 0) (40) j5), (f_size S), (f_taken S), (a_words S), (a_many S)), S.2.1, S.2.2.1, ((f_length S), x1, (f_pending S), (f_level S), (a_starts S), (a_known S), (f_knows S), (f_fuel S)), S.2.2.2.2.1, S.2.2.2.2.2) : MS)) H := hP
                    have hD : va_D A (mW T h0 ar ((((f_thrown S), (upd (a_kinds S) (40) (1 : Int32)), (vp_updL (a_codes S) (40) (0 : Int64)), (vf_upd (vf_upd (a_reals S) (40) 0) (40) j5), (f_size S), (f_taken S), (a_words S), (a_many S)), S.2.1, S.2.2.1, ((f_length S), x1, (f_pending S), (f_level S), (a_starts S), (a_known S), (f_knows S), (f_fuel S)), S.2.2.2.2.1, S.2.2.2.2.2) : MS)) := hD
                    refine lv_aload_n hx hb d_Mo_readNumber_228 rfl (lv_at hl 7 rfl) ?_
                    refine lv_dup hx hb d_Mo_readNumber_229 rfl ?_
                    refine va_get (D := D) (ci := 11) (v := .int x1) (C := "PageScribeModel") (T := F_Mo) (N := 45) hx hb hts i_Mo hown hK hP 0 mW_0 cl_11 25 (by decide) (hts _ k_6_185) (fun _ h9 => h9) (mg_at _ _) d_Mo_readNumber_230 ?_
                    refine lv_iload hx hb d_Mo_readNumber_233 (lv_at hl 2 rfl) ?_
                    refine lv_iconst (v := 1) hx hb d_Mo_readNumber_235 (by decide) ?_
                    refine lv_iadd hx hb d_Mo_readNumber_236 ?_
                    refine lv_topi (fun x7 ex7 => ?_)
                    have fx7 : x7.toInt = (j3.toInt + 1) := by rw [ex7]; exact (zt_add (show j3.toInt = _ from rfl) tI_1 (by omega) (by omega)).trans (by omega)
                    refine lv_iadd hx hb d_Mo_readNumber_237 ?_
                    refine lv_topi (fun x8 ex8 => ?_)
                    have fx8 : x8.toInt = (j2.toInt + j3.toInt + rv1.toInt + 1) := by rw [ex8]; exact (zt_add fx1 fx7 (by omega) (by omega)).trans (by omega)
                    refine va_put (D := D) (ci := 11) (v := .int x8) (ty := .int) (C := "PageScribeModel") (T := F_Mo) (N := 45) hx hb hts i_Mo t_Mo t_Mo_ok n_Mo hown hK hP hD hS 0 mW_0 cl_11 25 (by decide) (hts _ k_6_185) (fun _ h9 => h9) rfl (by decide +kernel) rfl rfl (Nat.le_of_ble_eq_true rfl) d_Mo_readNumber_238 (fun H locs hP hD hS => ?_)
                    rw [mp_at] at hP hD
                    have hP : va_P D classes (mW T h0 ar ((((f_thrown S), (upd (a_kinds S) (40) (1 : Int32)), (vp_updL (a_codes S) (40) (0 : Int64)), (vf_upd (vf_upd (a_reals S) (40) 0) (40) j5), (f_size S), (f_taken S), (a_words S), (a_many S)), S.2.1, S.2.2.1, ((f_length S), x8, (f_pending S), (f_level S), (a_starts S), (a_known S), (f_knows S), (f_fuel S)), S.2.2.2.2.1, S.2.2.2.2.2) : MS)) H := hP
                    have hD : va_D A (mW T h0 ar ((((f_thrown S), (upd (a_kinds S) (40) (1 : Int32)), (vp_updL (a_codes S) (40) (0 : Int64)), (vf_upd (vf_upd (a_reals S) (40) 0) (40) j5), (f_size S), (f_taken S), (a_words S), (a_many S)), S.2.1, S.2.2.1, ((f_length S), x8, (f_pending S), (f_level S), (a_starts S), (a_known S), (f_knows S), (f_fuel S)), S.2.2.2.2.1, S.2.2.2.2.2) : MS)) := hD
                    refine lv_iconst (v := 0) hx hb d_Mo_readNumber_241 (by decide) ?_
                    exact j_iret F hr hlocks hK hS ((((f_thrown S), (upd (a_kinds S) (40) (1 : Int32)), (vp_updL (a_codes S) (40) (0 : Int64)), (vf_upd (vf_upd (a_reals S) (40) 0) (40) j5), (f_size S), (f_taken S), (a_words S), (a_many S)), S.2.1, S.2.2.1, ((f_length S), x8, (f_pending S), (f_level S), (a_starts S), (a_known S), (f_knows S), (f_fuel S)), S.2.2.2.2.1, S.2.2.2.2.2) : MS) ⟨⟨i_size, i_taken, (vOk_updR i_vals (by omega)), i_room, i_dicts, i_deep, i_open, i_cells, i_points, i_part, i_length, i_knows, i_page, i_text, i_pats, i_fuel, i_fr, i_ink⟩, (kR_r S), (kF_r S), (show 0 ≤ (0 : Int32).toInt ∧ (0 : Int32).toInt ≤ 15 ∧ 0 ≤ x8.toInt ∧ x8.toInt ≤ (f_length S).toInt ∧ ((0 : Int32).toInt = 0 → (f_at S).toInt < x8.toInt) by have := tI_0; omega)⟩ hP hD d_Mo_readNumber_242
                  · refine lv_iload_n hx hb d_Mo_readNumber_214 rfl (lv_at hl 6 rfl) ?_
                    refine lv_if_eq (tgt := 225) hx hb d_Mo_readNumber_215 (by decide) (fun c215_1 => ?_) (fun c215_1 => ?_)
                    · have fc215_1 : j1.toInt = 0 := zt_eq (show j1.toInt = _ from rfl) tI_0 c215_1
                      refine lv_dload hx hb d_Mo_readNumber_225 (lv_at hl 0 rfl) ?_
                      exact key5 (x6) _ _ _ ⟨(show dB x6 by assumption), hP, hD, hS, lv_sub hl [0, 1, 2, 3, 4, 5, 6, 7] rfl⟩
                    · first | have fc215_1 : j1.toInt < 0 := (by have := zt_ne (show j1.toInt = _ from rfl) tI_0 c215_1; omega) | have fc215_1 : 0 < j1.toInt := (by have := zt_ne (show j1.toInt = _ from rfl) tI_0 c215_1; omega) | skip
                      refine lv_dconst0 hx hb d_Mo_readNumber_218 ?_
                      have := tD_0
                      refine lv_dload hx hb d_Mo_readNumber_219 (lv_at hl 0 rfl) ?_
                      have m221_1 : dM 1059 (FP.dsub 0 x6) := dM_sub (K := 1057) (dM_le (show dM 1 0 by unfold dM; decide +kernel) (by decide)) (dM_le m197_0 (by decide)) (by decide)
                      refine lv_dsub hx hb d_Mo_readNumber_221 (vf_N (dF_N (dM_F m221_1 (by decide)))) ?_
                      refine lv_topd (fun x9 ex9 => ?_)
                      rw [show FP.dsub 0 x6 = x9 from ex9.symm] at m221_1
                      have dx9 : dF x9 := dM_F m221_1 (by decide)
                      have bx9 : dB x9 := dM_dB m221_1 (by decide)
                      refine lv_goto (tgt := 227) hx hb d_Mo_readNumber_222 (by decide) ?_
                      exact key5 (x9) _ _ _ ⟨(show dB x9 by assumption), hP, hD, hS, lv_sub hl [0, 1, 2, 3, 4, 5, 6, 7] rfl⟩
                · refine lv_iload hx hb d_Mo_readNumber_137 (lv_at hl 0 rfl) ?_
                  refine lv_iconst (v := 1) hx hb d_Mo_readNumber_139 (by decide) ?_
                  refine lv_icmp_ne (tgt := 149) hx hb d_Mo_readNumber_140 (by decide) (fun c140_1 => ?_) (fun c140_1 => ?_)
                  · first | have fc140_1 : j3.toInt < 1 := (by have := zt_ne (show j3.toInt = _ from rfl) tI_1 c140_1; omega) | have fc140_1 : 1 < j3.toInt := (by have := zt_ne (show j3.toInt = _ from rfl) tI_1 c140_1; omega) | skip
                    refine lv_iload hx hb d_Mo_readNumber_149 (lv_at hl 0 rfl) ?_
                    refine lv_iconst (v := 2) hx hb d_Mo_readNumber_151 (by decide) ?_
                    refine lv_icmp_ne (tgt := 161) hx hb d_Mo_readNumber_152 (by decide) (fun c152_1 => ?_) (fun c152_1 => ?_)
                    · first | have fc152_1 : j3.toInt < 2 := (by have := zt_ne (show j3.toInt = _ from rfl) tI_2 c152_1; omega) | have fc152_1 : 2 < j3.toInt := (by have := zt_ne (show j3.toInt = _ from rfl) tI_2 c152_1; omega) | skip
                      refine lv_iload hx hb d_Mo_readNumber_161 (lv_at hl 0 rfl) ?_
                      refine lv_iconst (v := 3) hx hb d_Mo_readNumber_163 (by decide) ?_
                      refine lv_icmp_ne (tgt := 173) hx hb d_Mo_readNumber_164 (by decide) (fun c164_1 => ?_) (fun c164_1 => ?_)
                      · first | have fc164_1 : j3.toInt < 3 := (by have := zt_ne (show j3.toInt = _ from rfl) tI_3 c164_1; omega) | have fc164_1 : 3 < j3.toInt := (by have := zt_ne (show j3.toInt = _ from rfl) tI_3 c164_1; omega) | skip
                        refine lv_ldc2d (v := 4666723172467343360) hx hb hown (hts _ k_7_110) d_Mo_readNumber_173 ?_
                        have := tD_4666723172467343360
                        exact key4 (4666723172467343360) _ _ _ ⟨(show 4621819117588971520 ≤ dk 4666723172467343360 ∧ dk 4666723172467343360 ≤ 4666723172467343360 by have := tD_4666723172467343360; omega), hP, hD, hS, lv_sub hl [0, 1, 2, 3, 4, 5] rfl⟩
                      · have fc164_1 : j3.toInt = 3 := zt_eq (show j3.toInt = _ from rfl) tI_3 c164_1
                        refine lv_ldc2d (v := 4652007308841189376) hx hb hown (hts _ k_7_109) d_Mo_readNumber_167 ?_
                        have := tD_4652007308841189376
                        refine lv_goto (tgt := 176) hx hb d_Mo_readNumber_170 (by decide) ?_
                        exact key4 (4652007308841189376) _ _ _ ⟨(show 4621819117588971520 ≤ dk 4652007308841189376 ∧ dk 4652007308841189376 ≤ 4666723172467343360 by have := tD_4652007308841189376; omega), hP, hD, hS, lv_sub hl [0, 1, 2, 3, 4, 5] rfl⟩
                    · have fc152_1 : j3.toInt = 2 := zt_eq (show j3.toInt = _ from rfl) tI_2 c152_1
                      refine lv_ldc2d (v := 4636737291354636288) hx hb hown (hts _ k_7_108) d_Mo_readNumber_155 ?_
                      have := tD_4636737291354636288
                      refine lv_goto (tgt := 176) hx hb d_Mo_readNumber_158 (by decide) ?_
                      exact key4 (4636737291354636288) _ _ _ ⟨(show 4621819117588971520 ≤ dk 4636737291354636288 ∧ dk 4636737291354636288 ≤ 4666723172467343360 by have := tD_4636737291354636288; omega), hP, hD, hS, lv_sub hl [0, 1, 2, 3, 4, 5] rfl⟩
                  · have fc140_1 : j3.toInt = 1 := zt_eq (show j3.toInt = _ from rfl) tI_1 c140_1
                    refine lv_ldc2d (v := 4621819117588971520) hx hb hown (hts _ k_7_107) d_Mo_readNumber_143 ?_
                    have := tD_4621819117588971520
                    refine lv_goto (tgt := 176) hx hb d_Mo_readNumber_146 (by decide) ?_
                    exact key4 (4621819117588971520) _ _ _ ⟨(show 4621819117588971520 ≤ dk 4621819117588971520 ∧ dk 4621819117588971520 ≤ 4666723172467343360 by have := tD_4621819117588971520; omega), hP, hD, hS, lv_sub hl [0, 1, 2, 3, 4, 5] rfl⟩
              · have fc113_1 : j3.toInt = 0 := zt_eq (show j3.toInt = _ from rfl) tI_0 c113_1
                refine lv_aload_n hx hb d_Mo_readNumber_116 rfl (lv_at hl 5 rfl) ?_
                refine lv_bipush (v := 40) hx hb d_Mo_readNumber_117 (by decide) ?_
                refine lv_iconst (v := 0) hx hb d_Mo_readNumber_119 (by decide) ?_
                refine j_joinH (α := Int64) (fun x H locs ls => (-2147483648 ≤ x.toInt ∧ x.toInt ≤ 2147483647) ∧ va_P D classes (mW T h0 ar ((S.1, S.2.1, S.2.2.1, ((f_length S), x1, (f_pending S), (f_level S), (a_starts S), (a_known S), (f_knows S), (f_fuel S)), S.2.2.2.2.1, S.2.2.2.2.2) : MS)) H ∧ va_D A (mW T h0 ar ((S.1, S.2.1, S.2.2.1, ((f_length S), x1, (f_pending S), (f_level S), (a_starts S), (a_known S), (f_knows S), (f_fuel S)), S.2.2.2.2.1, S.2.2.2.2.2) : MS)) ∧ va_S A s.heap H locs ∧ lv_has ls 11 [(6, .int j3), (4, .long rv2), (3, .int rv1), (2, .int j2), (1, .int j1), (0, .ref h0)]) (fun x ls => F0 m 132 ls (.long x :: [.int 0, .int 40, .ref h0])) (fun x H locs ls hI9 => ?_) (fun key6 => ?_)
                · obtain ⟨j6, rfl⟩ : ∃ z, z = x := ⟨_, rfl⟩
                  obtain ⟨hj6, hP, hD, hS, hl⟩ := hI9
                  have hj6 : -2147483648 ≤ j6.toInt ∧ j6.toInt ≤ 2147483647 := hj6
                  have hP : va_P D classes (mW T h0 ar ((S.1, S.2.1, S.2.2.1, ((f_length S), x1, (f_pending S), (f_level S), (a_starts S), (a_known S), (f_knows S), (f_fuel S)), S.2.2.2.2.1, S.2.2.2.2.2) : MS)) H := hP
                  have hD : va_D A (mW T h0 ar ((S.1, S.2.1, S.2.2.1, ((f_length S), x1, (f_pending S), (f_level S), (a_starts S), (a_known S), (f_knows S), (f_fuel S)), S.2.2.2.2.1, S.2.2.2.2.2) : MS)) := hD
                  have hl : lv_has ls 11 [(6, .int j3), (4, .long rv2), (3, .int rv1), (2, .int j2), (1, .int j1), (0, .ref h0)] := hl
                  refine jm_cv (w := (fun u => u)) hK hP hD hS hA (va_runV (As := [.int 40, .int 0, .long j6]) (rest := []) F (m_set l D T h0 ar ((S.1, S.2.1, S.2.2.1, ((f_length S), x1, (f_pending S), (f_level S), (a_starts S), (a_known S), (f_knows S), (f_fuel S)), S.2.2.2.2.1, S.2.2.2.2.2) : MS) (40 : Int32) (0 : Int32) j6 H.size (show 0 ≤ (40 : Int32).toInt ∧ (40 : Int32).toInt < 1300 by have := tI_40; have := tI_0; omega)) (j_cV (k := 3) (C := "PageScribeModel") hts k_7_81 k_1_12 k_7_78 k_7_80 k_0_83 (by decide +kernel) ⟨Nat.le_of_ble_eq_true rfl, Nat.le_of_ble_eq_true rfl⟩) (jm_pre hK hP hD) rfl rfl hl.1 rfl (lv_room (Nat.le_of_ble_eq_true rfl)) d_Mo_readNumber_132 ⟨Nat.le_of_ble_eq_true rfl, Nat.le_of_ble_eq_true rfl⟩) (fun S2 H locs hw5 hP hD hS => ?_)
                  try simp only [tI_40, tI_0] at hw5
                  obtain rfl := hw5
                  have hP : va_P D classes (mW T h0 ar ((((f_thrown S), (upd (a_kinds S) (40) (0 : Int32)), (vp_updL (a_codes S) (40) j6), (vf_upd (a_reals S) (40) 0), (f_size S), (f_taken S), (a_words S), (a_many S)), S.2.1, S.2.2.1, ((f_length S), x1, (f_pending S), (f_level S), (a_starts S), (a_known S), (f_knows S), (f_fuel S)), S.2.2.2.2.1, S.2.2.2.2.2) : MS)) H := hP
                  have hD : va_D A (mW T h0 ar ((((f_thrown S), (upd (a_kinds S) (40) (0 : Int32)), (vp_updL (a_codes S) (40) j6), (vf_upd (a_reals S) (40) 0), (f_size S), (f_taken S), (a_words S), (a_many S)), S.2.1, S.2.2.1, ((f_length S), x1, (f_pending S), (f_level S), (a_starts S), (a_known S), (f_knows S), (f_fuel S)), S.2.2.2.2.1, S.2.2.2.2.2) : MS)) := hD
                  have i_vals : ∀ k, k < 1300 → vOk ((upd (a_kinds S) (40) (0 : Int32)) k) ((vp_updL (a_codes S) (40) j6) k) ((vf_upd (a_reals S) (40) 0) k) := vOk_upd i_vals (vO_int (by omega))
                  have fa2 : ((upd (a_kinds S) (40) (0 : Int32)) 40).toInt = (0 : Int32).toInt := congrArg Int32.toInt upd_s
                  have := tI_0
                  refine lv_iconst (v := 0) hx hb d_Mo_readNumber_135 (by decide) ?_
                  exact j_iret F hr hlocks hK hS ((((f_thrown S), (upd (a_kinds S) (40) (0 : Int32)), (vp_updL (a_codes S) (40) j6), (vf_upd (a_reals S) (40) 0), (f_size S), (f_taken S), (a_words S), (a_many S)), S.2.1, S.2.2.1, ((f_length S), x1, (f_pending S), (f_level S), (a_starts S), (a_known S), (f_knows S), (f_fuel S)), S.2.2.2.2.1, S.2.2.2.2.2) : MS) ⟨⟨i_size, i_taken, i_vals, i_room, i_dicts, i_deep, i_open, i_cells, i_points, i_part, i_length, i_knows, i_page, i_text, i_pats, i_fuel, i_fr, i_ink⟩, (kR_r S), (kF_r S), (show 0 ≤ (0 : Int32).toInt ∧ (0 : Int32).toInt ≤ 15 ∧ 0 ≤ x1.toInt ∧ x1.toInt ≤ (f_length S).toInt ∧ ((0 : Int32).toInt = 0 → (f_at S).toInt < x1.toInt) by have := tI_0; omega)⟩ hP hD d_Mo_readNumber_136
                · refine lv_iload_n hx hb d_Mo_readNumber_120 rfl (lv_at hl 4 rfl) ?_
                  refine lv_if_eq (tgt := 130) hx hb d_Mo_readNumber_121 (by decide) (fun c121_1 => ?_) (fun c121_1 => ?_)
                  · have fc121_1 : j1.toInt = 0 := zt_eq (show j1.toInt = _ from rfl) tI_0 c121_1
                    refine lv_lload hx hb d_Mo_readNumber_130 (lv_at hl 1 rfl) ?_
                    exact key6 (rv2) _ _ _ ⟨(show -2147483648 ≤ rv2.toInt ∧ rv2.toInt ≤ 2147483647 by omega), hP, hD, hS, lv_sub hl [0, 1, 2, 3, 4, 5] rfl⟩
                  · first | have fc121_1 : j1.toInt < 0 := (by have := zt_ne (show j1.toInt = _ from rfl) tI_0 c121_1; omega) | have fc121_1 : 0 < j1.toInt := (by have := zt_ne (show j1.toInt = _ from rfl) tI_0 c121_1; omega) | skip
                    refine lv_lload hx hb d_Mo_readNumber_124 (lv_at hl 1 rfl) ?_
                    refine lv_lneg hx hb d_Mo_readNumber_126 ?_
                    refine lv_topl (fun x10 ex10 => ?_)
                    have fx10 : x10.toInt = (-rv2.toInt) := by rw [ex10]; exact (zu_neg (show rv2.toInt = _ from rfl) (by omega) (by omega)).trans (by omega)
                    refine lv_goto (tgt := 132) hx hb d_Mo_readNumber_127 (by decide) ?_
                    exact key6 (x10) _ _ _ ⟨(show -2147483648 ≤ x10.toInt ∧ x10.toInt ≤ 2147483647 by omega), hP, hD, hS, lv_sub hl [0, 1, 2, 3, 4, 5] rfl⟩
            · have fc105_1 : 4 < j3.toInt := Int.not_le.mp (zt_nle (show j3.toInt = _ from rfl) tI_4 c105_1)
              refine lv_bipush (v := 15) hx hb d_Mo_readNumber_108 (by decide) ?_
              exact j_iret F hr hlocks hK hS ((S.1, S.2.1, S.2.2.1, ((f_length S), x1, (f_pending S), (f_level S), (a_starts S), (a_known S), (f_knows S), (f_fuel S)), S.2.2.2.2.1, S.2.2.2.2.2) : MS) ⟨⟨i_size, i_taken, i_vals, i_room, i_dicts, i_deep, i_open, i_cells, i_points, i_part, i_length, i_knows, i_page, i_text, i_pats, i_fuel, i_fr, i_ink⟩, (kR_r S), (kF_r S), (show 0 ≤ (15 : Int32).toInt ∧ (15 : Int32).toInt ≤ 15 ∧ 0 ≤ x1.toInt ∧ x1.toInt ≤ (f_length S).toInt ∧ ((15 : Int32).toInt = 0 → (f_at S).toInt < x1.toInt) by have := tI_15; omega)⟩ hP hD d_Mo_readNumber_110
          · refine lv_aload_n hx hb d_Mo_readNumber_73 rfl (lv_at hl 4 rfl) ?_
            refine lv_aload_n hx hb d_Mo_readNumber_74 rfl (lv_at hl 4 rfl) ?_
            refine va_get (D := D) (ci := 11) (v := .int x1) (C := "PageScribeModel") (T := F_Mo) (N := 45) hx hb hts i_Mo hown hK hP 0 mW_0 cl_11 25 (by decide) (hts _ k_6_185) (fun _ h9 => h9) (mg_at _ _) d_Mo_readNumber_75 ?_
            refine jm_ci (w := (fun _ => ((S.1, S.2.1, S.2.2.1, ((f_length S), x1, (f_pending S), (f_level S), (a_starts S), (a_known S), (f_knows S), (f_fuel S)), S.2.2.2.2.1, S.2.2.2.2.2) : MS))) hK hP hD hS hA (va_runV (As := [.int x1]) (rest := []) F (m_look2 l D T h0 ar ((S.1, S.2.1, S.2.2.1, ((f_length S), x1, (f_pending S), (f_level S), (a_starts S), (a_known S), (f_knows S), (f_fuel S)), S.2.2.2.2.1, S.2.2.2.2.2) : MS) x1 H.size ⟨i_size, i_taken, i_vals, i_room, i_dicts, i_deep, i_open, i_cells, i_points, i_part, i_length, i_knows, i_page, i_text, i_pats, i_fuel, i_fr, i_ink⟩ (show 0 ≤ x1.toInt by first | omega | (simp only [fx1]; omega))) (j_cV (k := 1) (C := "PageScribeModel") hts k_7_106 k_1_12 k_7_103 k_7_105 k_0_88 (by decide +kernel) ⟨Nat.le_of_ble_eq_true rfl, Nat.le_of_ble_eq_true rfl⟩) (jm_pre hK hP hD) rfl rfl hl.1 rfl (lv_room (Nat.le_of_ble_eq_true rfl)) d_Mo_readNumber_78 ⟨Nat.le_of_ble_eq_true rfl, Nat.le_of_ble_eq_true rfl⟩) (fun rv6 u4 H locs hw6 hP hD hS => ?_)
            have hP : va_P D classes (mW T h0 ar ((S.1, S.2.1, S.2.2.1, ((f_length S), x1, (f_pending S), (f_level S), (a_starts S), (a_known S), (f_knows S), (f_fuel S)), S.2.2.2.2.1, S.2.2.2.2.2) : MS)) H := hP
            have hD : va_D A (mW T h0 ar ((S.1, S.2.1, S.2.2.1, ((f_length S), x1, (f_pending S), (f_level S), (a_starts S), (a_known S), (f_knows S), (f_fuel S)), S.2.2.2.2.1, S.2.2.2.2.2) : MS)) := hD
            have qhw6 : 0 ≤ rv6.toInt ∧ rv6.toInt ≤ 127 ∧ (rv6.toInt = 32 ∨ ((j2.toInt + rv1.toInt) < (f_length S).toInt ∧ rv6.toInt = ((a_text S) (j2.toInt + rv1.toInt).toNat).toInt)) := by simpa only [fx1] using hw6
            refine lv_bipush (v := 46) hx hb d_Mo_readNumber_81 (by decide) ?_
            refine lv_icmp_ne (tgt := 99) hx hb d_Mo_readNumber_83 (by decide) (fun c83_1 => ?_) (fun c83_1 => ?_)
            · first | have fc83_1 : rv6.toInt < 46 := (by have := zt_ne (show rv6.toInt = _ from rfl) tI_46 c83_1; omega) | have fc83_1 : 46 < rv6.toInt := (by have := zt_ne (show rv6.toInt = _ from rfl) tI_46 c83_1; omega) | skip
              refine lv_iconst (v := 0) hx hb d_Mo_readNumber_99 (by decide) ?_
              exact key3 (0 : Int32) _ _ _ ⟨(show 0 ≤ (0 : Int32).toInt ∧ (0 : Int32).toInt ≤ 120 ∧ ((0 : Int32).toInt = 0 ∨ (j2.toInt + rv1.toInt + 1) + (0 : Int32).toInt ≤ (f_length S).toInt) ∧ digP (a_text S) (j2.toInt + rv1.toInt + 1).toNat (0 : Int32).toInt.toNat by have := tI_0; first | assumption | exact ⟨by omega, by omega, by omega, dig_0 (by omega)⟩), hP, hD, hS, lv_sub hl [0, 1, 2, 3, 4] rfl⟩
            · have fc83_1 : rv6.toInt = 46 := zt_eq (show rv6.toInt = _ from rfl) tI_46 c83_1
              refine lv_aload_n hx hb d_Mo_readNumber_86 rfl (lv_at hl 4 rfl) ?_
              refine lv_aload_n hx hb d_Mo_readNumber_87 rfl (lv_at hl 4 rfl) ?_
              refine va_get (D := D) (ci := 11) (v := .int x1) (C := "PageScribeModel") (T := F_Mo) (N := 45) hx hb hts i_Mo hown hK hP 0 mW_0 cl_11 25 (by decide) (hts _ k_6_185) (fun _ h9 => h9) (mg_at _ _) d_Mo_readNumber_88 ?_
              refine lv_iconst (v := 1) hx hb d_Mo_readNumber_91 (by decide) ?_
              refine lv_iadd hx hb d_Mo_readNumber_92 ?_
              refine lv_topi (fun x11 ex11 => ?_)
              have fx11 : x11.toInt = (j2.toInt + rv1.toInt + 1) := by rw [ex11]; exact (zt_add fx1 tI_1 (by omega) (by omega)).trans (by omega)
              refine jm_ci (w := (fun _ => ((S.1, S.2.1, S.2.2.1, ((f_length S), x1, (f_pending S), (f_level S), (a_starts S), (a_known S), (f_knows S), (f_fuel S)), S.2.2.2.2.1, S.2.2.2.2.2) : MS))) hK hP hD hS hA (va_runV (As := [.int x11]) (rest := []) F (m_digits l D T h0 ar ((S.1, S.2.1, S.2.2.1, ((f_length S), x1, (f_pending S), (f_level S), (a_starts S), (a_known S), (f_knows S), (f_fuel S)), S.2.2.2.2.1, S.2.2.2.2.2) : MS) x11 H.size ⟨i_size, i_taken, i_vals, i_room, i_dicts, i_deep, i_open, i_cells, i_points, i_part, i_length, i_knows, i_page, i_text, i_pats, i_fuel, i_fr, i_ink⟩ (show 0 ≤ x11.toInt ∧ x11.toInt ≤ 1000 by first | omega | (simp only [fx11]; omega))) (j_cV (k := 1) (C := "PageScribeModel") hts k_7_96 k_1_12 k_7_93 k_7_95 k_0_86 (by decide +kernel) ⟨Nat.le_of_ble_eq_true rfl, Nat.le_of_ble_eq_true rfl⟩) (jm_pre hK hP hD) rfl rfl hl.1 rfl (lv_room (Nat.le_of_ble_eq_true rfl)) d_Mo_readNumber_93 ⟨Nat.le_of_ble_eq_true rfl, Nat.le_of_ble_eq_true rfl⟩) (fun rv7 u5 H locs hw7 hP hD hS => ?_)
              have hP : va_P D classes (mW T h0 ar ((S.1, S.2.1, S.2.2.1, ((f_length S), x1, (f_pending S), (f_level S), (a_starts S), (a_known S), (f_knows S), (f_fuel S)), S.2.2.2.2.1, S.2.2.2.2.2) : MS)) H := hP
              have hD : va_D A (mW T h0 ar ((S.1, S.2.1, S.2.2.1, ((f_length S), x1, (f_pending S), (f_level S), (a_starts S), (a_known S), (f_knows S), (f_fuel S)), S.2.2.2.2.1, S.2.2.2.2.2) : MS)) := hD
              have qhw7 : 0 ≤ rv7.toInt ∧ rv7.toInt ≤ 120 ∧ (rv7.toInt = 0 ∨ (j2.toInt + rv1.toInt + 1) + rv7.toInt ≤ (f_length S).toInt) ∧ digP (a_text S) (j2.toInt + rv1.toInt + 1).toNat rv7.toInt.toNat := by simpa only [fx1, fx11] using hw7
              refine lv_goto (tgt := 100) hx hb d_Mo_readNumber_96 (by decide) ?_
              exact key3 (rv7) _ _ _ ⟨(show 0 ≤ rv7.toInt ∧ rv7.toInt ≤ 120 ∧ (rv7.toInt = 0 ∨ (j2.toInt + rv1.toInt + 1) + rv7.toInt ≤ (f_length S).toInt) ∧ digP (a_text S) (j2.toInt + rv1.toInt + 1).toNat rv7.toInt.toNat by first | assumption | exact ⟨by omega, by omega, by omega, dig_0 (by omega)⟩), hP, hD, hS, lv_sub hl [0, 1, 2, 3, 4] rfl⟩
        · have fc52_1 : 9 < rv1.toInt := Int.not_le.mp (zt_nle (show rv1.toInt = _ from rfl) tI_9 c52_1)
          refine lv_bipush (v := 15) hx hb d_Mo_readNumber_55 (by decide) ?_
          exact j_iret F hr hlocks hK hS S ⟨⟨i_size, i_taken, i_vals, i_room, i_dicts, i_deep, i_open, i_cells, i_points, i_part, i_length, i_knows, i_page, i_text, i_pats, i_fuel, i_fr, i_ink⟩, (kR_r S), (kF_r S), (show 0 ≤ (15 : Int32).toInt ∧ (15 : Int32).toInt ≤ 15 ∧ 0 ≤ (f_at S).toInt ∧ (f_at S).toInt ≤ (f_length S).toInt ∧ ((15 : Int32).toInt = 0 → (f_at S).toInt < (f_at S).toInt) by have := tI_15; omega)⟩ hP hD d_Mo_readNumber_57
    · refine lv_iload_n hx hb d_Mo_readNumber_20 rfl (lv_at hl 0 rfl) ?_
      refine lv_if_eq (tgt := 33) hx hb d_Mo_readNumber_21 (by decide) (fun c21_1 => ?_) (fun c21_1 => ?_)
      · have fc21_1 : j1.toInt = 0 := zt_eq (show j1.toInt = _ from rfl) tI_0 c21_1
        refine lv_aload_n hx hb d_Mo_readNumber_33 rfl (lv_at hl 1 rfl) ?_
        refine va_get (D := D) (ci := 11) (v := .int (f_at S)) (C := "PageScribeModel") (T := F_Mo) (N := 45) hx hb hts i_Mo hown hK hP 0 mW_0 cl_11 25 (by decide) (hts _ k_6_185) (fun _ h9 => h9) (mg_at _ _) d_Mo_readNumber_34 ?_
        exact key2 (f_at S) _ _ _ ⟨(show (f_at S).toInt ≤ (f_at S).toInt ∧ (f_at S).toInt ≤ (f_at S).toInt + 1 by omega), hP, hD, hS, lv_sub hl [0, 1] rfl⟩
      · first | have fc21_1 : j1.toInt < 0 := (by have := zt_ne (show j1.toInt = _ from rfl) tI_0 c21_1; omega) | have fc21_1 : 0 < j1.toInt := (by have := zt_ne (show j1.toInt = _ from rfl) tI_0 c21_1; omega) | skip
        refine lv_aload_n hx hb d_Mo_readNumber_24 rfl (lv_at hl 1 rfl) ?_
        refine va_get (D := D) (ci := 11) (v := .int (f_at S)) (C := "PageScribeModel") (T := F_Mo) (N := 45) hx hb hts i_Mo hown hK hP 0 mW_0 cl_11 25 (by decide) (hts _ k_6_185) (fun _ h9 => h9) (mg_at _ _) d_Mo_readNumber_25 ?_
        refine lv_iconst (v := 1) hx hb d_Mo_readNumber_28 (by decide) ?_
        refine lv_iadd hx hb d_Mo_readNumber_29 ?_
        refine lv_topi (fun x12 ex12 => ?_)
        have fx12 : x12.toInt = ((f_at S).toInt + 1) := by rw [ex12]; exact (zt_add (show (f_at S).toInt = _ from rfl) tI_1 (by omega) (by omega)).trans (by omega)
        refine lv_goto (tgt := 37) hx hb d_Mo_readNumber_30 (by decide) ?_
        exact key2 (x12) _ _ _ ⟨(show (f_at S).toInt ≤ x12.toInt ∧ x12.toInt ≤ (f_at S).toInt + 1 by omega), hP, hD, hS, lv_sub hl [0, 1] rfl⟩
  · refine lv_aload_n hx hb d_Mo_readNumber_0 rfl (lv_at hl 0 rfl) ?_
    refine va_get (D := D) (ci := 11) (v := .ref (ar 15)) (C := "PageScribeModel") (T := F_Mo) (N := 45) hx hb hts i_Mo hown hK hP 0 mW_0 cl_11 23 (by decide) (hts _ k_6_183) (fun _ h9 => h9) (mg_text _ _) d_Mo_readNumber_1 ?_
    refine lv_aload_n hx hb d_Mo_readNumber_4 rfl (lv_at hl 0 rfl) ?_
    refine va_get (D := D) (ci := 11) (v := .int (f_at S)) (C := "PageScribeModel") (T := F_Mo) (N := 45) hx hb hts i_Mo hown hK hP 0 mW_0 cl_11 25 (by decide) (hts _ k_6_185) (fun _ h9 => h9) (mg_at _ _) d_Mo_readNumber_5 ?_
    refine va_cald hx hb hK hP 16 2 (ma_text _ _ _ _) rfl (zt_in (show (f_at S).toInt = _ from rfl) (by omega) (by omega)) d_Mo_readNumber_8 ?_
    refine lv_topi (fun x13 ex13 => ?_)
    have gx13 : x13 = (a_text S) (f_at S).toInt.toNat := ex13.trans (congrArg _ (zt_ix (show (f_at S).toInt = _ from rfl)))
    have fx13 : x13.toInt = ((a_text S) (f_at S).toInt.toNat).toInt := by rw [gx13]
    have kx13 := i_text ((f_at S).toInt.toNat) (by omega)
    refine lv_bipush (v := 45) hx hb d_Mo_readNumber_9 (by decide) ?_
    refine lv_icmp_ne (tgt := 18) hx hb d_Mo_readNumber_11 (by decide) (fun c11_1 => ?_) (fun c11_1 => ?_)
    · first | have fc11_1 : x13.toInt < 45 := (by have := zt_ne (show x13.toInt = _ from rfl) tI_45 c11_1; omega) | have fc11_1 : 45 < x13.toInt := (by have := zt_ne (show x13.toInt = _ from rfl) tI_45 c11_1; omega) | skip
      refine lv_iconst (v := 0) hx hb d_Mo_readNumber_18 (by decide) ?_
      exact key1 (0 : Int32) _ _ _ ⟨(show (0 : Int32).toInt = 0 ∨ (0 : Int32).toInt = 1 by have := tI_0; omega), hP, hD, hS, lv_sub hl [0] rfl⟩
    · have fc11_1 : x13.toInt = 45 := zt_eq (show x13.toInt = _ from rfl) tI_45 c11_1
      refine lv_iconst (v := 1) hx hb d_Mo_readNumber_14 (by decide) ?_
      refine lv_goto (tgt := 19) hx hb d_Mo_readNumber_15 (by decide) ?_
      exact key1 (1 : Int32) _ _ _ ⟨(show (1 : Int32).toInt = 0 ∨ (1 : Int32).toInt = 1 by have := tI_1; omega), hP, hD, hS, lv_sub hl [0] rfl⟩
