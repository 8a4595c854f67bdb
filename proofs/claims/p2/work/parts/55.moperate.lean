theorem d_Mo_operate_0 : decode prog_15_method_42_code 0 = .ok (.aload_n 0, 1) := by decide +kernel
theorem d_Mo_operate_1 : decode prog_15_method_42_code 1 = .ok (.iload_n 1, 1) := by decide +kernel
theorem d_Mo_operate_2 : decode prog_15_method_42_code 2 = .ok (.invokevirtual 424, 3) := by decide +kernel
theorem k_7_158 : Cond.code ⟨"PageScribeModel", "pattern", "(I)I"⟩ prog_15_method_39_code 2 (some .int) ∈ gw := gw_of (tb_7 (List.mem_of_getElem? (i := 158) (by decide +kernel))) (by decide +kernel)
theorem k_7_155 : Cond.methodLink "PageScribeModel" 424 ⟨"PageScribeModel", "pattern", "(I)I"⟩ ∈ gw := gw_of (tb_7 (List.mem_of_getElem? (i := 155) (by decide +kernel))) (by decide +kernel)
theorem k_7_157 : Cond.instanceMethod ⟨"PageScribeModel", "pattern", "(I)I"⟩ ∈ gw := gw_of (tb_7 (List.mem_of_getElem? (i := 157) (by decide +kernel))) (by decide +kernel)
theorem k_0_98 : Cond.selects "PageScribeModel" ⟨"PageScribeModel", "pattern", "(I)I"⟩ ⟨"PageScribeModel", "pattern", "(I)I"⟩ ∈ gw := gw_of (tb_0 (List.mem_of_getElem? (i := 98) (by decide +kernel))) (by decide +kernel)
theorem d_Mo_operate_5 : decode prog_15_method_42_code 5 = .ok (.istore_n 2, 1) := by decide +kernel
theorem d_Mo_operate_46 : decode prog_15_method_42_code 46 = .ok (.istore_n 3, 1) := by decide +kernel
theorem d_Mo_operate_47 : decode prog_15_method_42_code 47 = .ok (.aload_n 0, 1) := by decide +kernel
theorem d_Mo_operate_48 : decode prog_15_method_42_code 48 = .ok (.getfield 247, 3) := by decide +kernel
theorem d_Mo_operate_51 : decode prog_15_method_42_code 51 = .ok (.iload_n 3, 1) := by decide +kernel
theorem d_Mo_operate_52 : decode prog_15_method_42_code 52 = .ok (.if_icmp .ge 5, 3) := by decide +kernel
theorem d_Mo_operate_57 : decode prog_15_method_42_code 57 = .ok (.iconst 1, 1) := by decide +kernel
theorem d_Mo_operate_58 : decode prog_15_method_42_code 58 = .ok (.istore 4, 2) := by decide +kernel
theorem d_Mo_operate_60 : decode prog_15_method_42_code 60 = .ok (.aload_n 0, 1) := by decide +kernel
theorem d_Mo_operate_61 : decode prog_15_method_42_code 61 = .ok (.getfield 247, 3) := by decide +kernel
theorem d_Mo_operate_64 : decode prog_15_method_42_code 64 = .ok (.iconst 1, 1) := by decide +kernel
theorem d_Mo_operate_65 : decode prog_15_method_42_code 65 = .ok (.isub, 1) := by decide +kernel
theorem d_Mo_operate_66 : decode prog_15_method_42_code 66 = .ok (.istore 5, 2) := by decide +kernel
theorem d_Mo_operate_68 : decode prog_15_method_42_code 68 = .ok (.iload_n 2, 1) := by decide +kernel
theorem d_Mo_operate_69 : decode prog_15_method_42_code 69 = .ok (.ifCond .le 39, 3) := by decide +kernel
theorem d_Mo_operate_108 : decode prog_15_method_42_code 108 = .ok (.iload 4, 2) := by decide +kernel
theorem d_Mo_operate_110 : decode prog_15_method_42_code 110 = .ok (.ifCond .eq 11, 3) := by decide +kernel
theorem d_Mo_operate_121 : decode prog_15_method_42_code 121 = .ok (.iconst 3, 1) := by decide +kernel
theorem d_Mo_operate_122 : decode prog_15_method_42_code 122 = .ok (.ireturn, 1) := by decide +kernel
theorem d_Mo_operate_113 : decode prog_15_method_42_code 113 = .ok (.aload_n 0, 1) := by decide +kernel
theorem d_Mo_operate_114 : decode prog_15_method_42_code 114 = .ok (.iload_n 1, 1) := by decide +kernel
theorem d_Mo_operate_115 : decode prog_15_method_42_code 115 = .ok (.invokevirtual 431, 3) := by decide +kernel
theorem k_7_178 : Cond.code ⟨"PageScribeModel", "suitsOther", "(I)Z"⟩ prog_15_method_41_code 5 (some .boolean) ∈ gw := gw_of (tb_7 (List.mem_of_getElem? (i := 178) (by decide +kernel))) (by decide +kernel)
theorem k_7_175 : Cond.methodLink "PageScribeModel" 431 ⟨"PageScribeModel", "suitsOther", "(I)Z"⟩ ∈ gw := gw_of (tb_7 (List.mem_of_getElem? (i := 175) (by decide +kernel))) (by decide +kernel)
theorem k_7_177 : Cond.instanceMethod ⟨"PageScribeModel", "suitsOther", "(I)Z"⟩ ∈ gw := gw_of (tb_7 (List.mem_of_getElem? (i := 177) (by decide +kernel))) (by decide +kernel)
theorem k_0_103 : Cond.selects "PageScribeModel" ⟨"PageScribeModel", "suitsOther", "(I)Z"⟩ ⟨"PageScribeModel", "suitsOther", "(I)Z"⟩ ∈ gw := gw_of (tb_0 (List.mem_of_getElem? (i := 103) (by decide +kernel))) (by decide +kernel)
theorem d_Mo_operate_118 : decode prog_15_method_42_code 118 = .ok (.ifCond .ne 5, 3) := by decide +kernel
theorem d_Mo_operate_123 : decode prog_15_method_42_code 123 = .ok (.iload_n 1, 1) := by decide +kernel
theorem d_Mo_operate_124 : decode prog_15_method_42_code 124 = .ok (.bipush 10, 2) := by decide +kernel
theorem d_Mo_operate_126 : decode prog_15_method_42_code 126 = .ok (.if_icmp .lt 9, 3) := by decide +kernel
theorem d_Mo_operate_135 : decode prog_15_method_42_code 135 = .ok (.aload_n 0, 1) := by decide +kernel
theorem d_Mo_operate_136 : decode prog_15_method_42_code 136 = .ok (.iload_n 1, 1) := by decide +kernel
theorem d_Mo_operate_137 : decode prog_15_method_42_code 137 = .ok (.invokevirtual 434, 3) := by decide +kernel
theorem k_7_182 : Cond.code ⟨"PageScribeModel", "stackOperator", "(I)I"⟩ prog_15_method_44_code 6 (some .int) ∈ gw := gw_of (tb_7 (List.mem_of_getElem? (i := 182) (by decide +kernel))) (by decide +kernel)
theorem k_7_179 : Cond.methodLink "PageScribeModel" 434 ⟨"PageScribeModel", "stackOperator", "(I)I"⟩ ∈ gw := gw_of (tb_7 (List.mem_of_getElem? (i := 179) (by decide +kernel))) (by decide +kernel)
theorem k_7_181 : Cond.instanceMethod ⟨"PageScribeModel", "stackOperator", "(I)I"⟩ ∈ gw := gw_of (tb_7 (List.mem_of_getElem? (i := 181) (by decide +kernel))) (by decide +kernel)
theorem k_0_104 : Cond.selects "PageScribeModel" ⟨"PageScribeModel", "stackOperator", "(I)I"⟩ ⟨"PageScribeModel", "stackOperator", "(I)I"⟩ ∈ gw := gw_of (tb_0 (List.mem_of_getElem? (i := 104) (by decide +kernel))) (by decide +kernel)
theorem d_Mo_operate_140 : decode prog_15_method_42_code 140 = .ok (.ireturn, 1) := by decide +kernel
theorem d_Mo_operate_129 : decode prog_15_method_42_code 129 = .ok (.iload_n 1, 1) := by decide +kernel
theorem d_Mo_operate_130 : decode prog_15_method_42_code 130 = .ok (.bipush 69, 2) := by decide +kernel
theorem d_Mo_operate_132 : decode prog_15_method_42_code 132 = .ok (.if_icmp .le 9, 3) := by decide +kernel
theorem d_Mo_operate_141 : decode prog_15_method_42_code 141 = .ok (.iload_n 1, 1) := by decide +kernel
theorem d_Mo_operate_142 : decode prog_15_method_42_code 142 = .ok (.bipush 21, 2) := by decide +kernel
theorem d_Mo_operate_144 : decode prog_15_method_42_code 144 = .ok (.if_icmp .ge 23, 3) := by decide +kernel
theorem d_Mo_operate_167 : decode prog_15_method_42_code 167 = .ok (.iload_n 1, 1) := by decide +kernel
theorem d_Mo_operate_168 : decode prog_15_method_42_code 168 = .ok (.bipush 37, 2) := by decide +kernel
theorem d_Mo_operate_170 : decode prog_15_method_42_code 170 = .ok (.if_icmp .ge 9, 3) := by decide +kernel
theorem d_Mo_operate_179 : decode prog_15_method_42_code 179 = .ok (.iload_n 1, 1) := by decide +kernel
theorem d_Mo_operate_180 : decode prog_15_method_42_code 180 = .ok (.bipush 43, 2) := by decide +kernel
theorem d_Mo_operate_182 : decode prog_15_method_42_code 182 = .ok (.if_icmp .ge 9, 3) := by decide +kernel
theorem d_Mo_operate_191 : decode prog_15_method_42_code 191 = .ok (.iload_n 1, 1) := by decide +kernel
theorem d_Mo_operate_192 : decode prog_15_method_42_code 192 = .ok (.bipush 50, 2) := by decide +kernel
theorem d_Mo_operate_194 : decode prog_15_method_42_code 194 = .ok (.if_icmp .ge 9, 3) := by decide +kernel
theorem d_Mo_operate_203 : decode prog_15_method_42_code 203 = .ok (.iload_n 1, 1) := by decide +kernel
theorem d_Mo_operate_204 : decode prog_15_method_42_code 204 = .ok (.bipush 63, 2) := by decide +kernel
theorem d_Mo_operate_206 : decode prog_15_method_42_code 206 = .ok (.if_icmp .ge 23, 3) := by decide +kernel
theorem d_Mo_operate_229 : decode prog_15_method_42_code 229 = .ok (.aload_n 0, 1) := by decide +kernel
theorem d_Mo_operate_230 : decode prog_15_method_42_code 230 = .ok (.iload_n 1, 1) := by decide +kernel
theorem d_Mo_operate_231 : decode prog_15_method_42_code 231 = .ok (.invokevirtual 458, 3) := by decide +kernel
theorem k_8_95 : Cond.code ⟨"PageScribeModel", "paint", "(I)I"⟩ prog_15_method_71_code 8 (some .int) ∈ gw := gw_of (tb_8 (List.mem_of_getElem? (i := 95) (by decide +kernel))) (by decide +kernel)
theorem k_8_92 : Cond.methodLink "PageScribeModel" 458 ⟨"PageScribeModel", "paint", "(I)I"⟩ ∈ gw := gw_of (tb_8 (List.mem_of_getElem? (i := 92) (by decide +kernel))) (by decide +kernel)
theorem k_8_94 : Cond.instanceMethod ⟨"PageScribeModel", "paint", "(I)I"⟩ ∈ gw := gw_of (tb_8 (List.mem_of_getElem? (i := 94) (by decide +kernel))) (by decide +kernel)
theorem k_0_138 : Cond.selects "PageScribeModel" ⟨"PageScribeModel", "paint", "(I)I"⟩ ⟨"PageScribeModel", "paint", "(I)I"⟩ ∈ gw := gw_of (tb_0 (List.mem_of_getElem? (i := 138) (by decide +kernel))) (by decide +kernel)
theorem d_Mo_operate_234 : decode prog_15_method_42_code 234 = .ok (.ireturn, 1) := by decide +kernel
theorem d_Mo_operate_209 : decode prog_15_method_42_code 209 = .ok (.iload_n 1, 1) := by decide +kernel
theorem d_Mo_operate_210 : decode prog_15_method_42_code 210 = .ok (.bipush 57, 2) := by decide +kernel
theorem d_Mo_operate_212 : decode prog_15_method_42_code 212 = .ok (.if_icmp .ge 11, 3) := by decide +kernel
theorem d_Mo_operate_223 : decode prog_15_method_42_code 223 = .ok (.aload_n 0, 1) := by decide +kernel
theorem d_Mo_operate_224 : decode prog_15_method_42_code 224 = .ok (.iload_n 1, 1) := by decide +kernel
theorem d_Mo_operate_225 : decode prog_15_method_42_code 225 = .ok (.invokevirtual 455, 3) := by decide +kernel
theorem k_8_67 : Cond.code ⟨"PageScribeModel", "control", "(I)I"⟩ prog_15_method_65_code 2 (some .int) ∈ gw := gw_of (tb_8 (List.mem_of_getElem? (i := 67) (by decide +kernel))) (by decide +kernel)
theorem k_8_64 : Cond.methodLink "PageScribeModel" 455 ⟨"PageScribeModel", "control", "(I)I"⟩ ∈ gw := gw_of (tb_8 (List.mem_of_getElem? (i := 64) (by decide +kernel))) (by decide +kernel)
theorem k_8_66 : Cond.instanceMethod ⟨"PageScribeModel", "control", "(I)I"⟩ ∈ gw := gw_of (tb_8 (List.mem_of_getElem? (i := 66) (by decide +kernel))) (by decide +kernel)
theorem k_0_131 : Cond.selects "PageScribeModel" ⟨"PageScribeModel", "control", "(I)I"⟩ ⟨"PageScribeModel", "control", "(I)I"⟩ ∈ gw := gw_of (tb_0 (List.mem_of_getElem? (i := 131) (by decide +kernel))) (by decide +kernel)
theorem d_Mo_operate_228 : decode prog_15_method_42_code 228 = .ok (.ireturn, 1) := by decide +kernel
theorem d_Mo_operate_215 : decode prog_15_method_42_code 215 = .ok (.aload_n 0, 1) := by decide +kernel
theorem d_Mo_operate_216 : decode prog_15_method_42_code 216 = .ok (.iload_n 1, 1) := by decide +kernel
theorem d_Mo_operate_217 : decode prog_15_method_42_code 217 = .ok (.invokevirtual 452, 3) := by decide +kernel
theorem k_8_51 : Cond.code ⟨"PageScribeModel", "begins", "(I)I"⟩ prog_15_method_64_code 8 (some .int) ∈ gw := gw_of (tb_8 (List.mem_of_getElem? (i := 51) (by decide +kernel))) (by decide +kernel)
theorem k_8_48 : Cond.methodLink "PageScribeModel" 452 ⟨"PageScribeModel", "begins", "(I)I"⟩ ∈ gw := gw_of (tb_8 (List.mem_of_getElem? (i := 48) (by decide +kernel))) (by decide +kernel)
theorem k_8_50 : Cond.instanceMethod ⟨"PageScribeModel", "begins", "(I)I"⟩ ∈ gw := gw_of (tb_8 (List.mem_of_getElem? (i := 50) (by decide +kernel))) (by decide +kernel)
theorem k_0_127 : Cond.selects "PageScribeModel" ⟨"PageScribeModel", "begins", "(I)I"⟩ ⟨"PageScribeModel", "begins", "(I)I"⟩ ∈ gw := gw_of (tb_0 (List.mem_of_getElem? (i := 127) (by decide +kernel))) (by decide +kernel)
theorem d_Mo_operate_220 : decode prog_15_method_42_code 220 = .ok (.goto 8, 3) := by decide +kernel
theorem d_Mo_operate_197 : decode prog_15_method_42_code 197 = .ok (.aload_n 0, 1) := by decide +kernel
theorem d_Mo_operate_198 : decode prog_15_method_42_code 198 = .ok (.iload_n 1, 1) := by decide +kernel
theorem d_Mo_operate_199 : decode prog_15_method_42_code 199 = .ok (.invokevirtual 449, 3) := by decide +kernel
theorem k_8_43 : Cond.code ⟨"PageScribeModel", "dictOperator", "(I)I"⟩ prog_15_method_62_code 4 (some .int) ∈ gw := gw_of (tb_8 (List.mem_of_getElem? (i := 43) (by decide +kernel))) (by decide +kernel)
theorem k_8_40 : Cond.methodLink "PageScribeModel" 449 ⟨"PageScribeModel", "dictOperator", "(I)I"⟩ ∈ gw := gw_of (tb_8 (List.mem_of_getElem? (i := 40) (by decide +kernel))) (by decide +kernel)
theorem k_8_42 : Cond.instanceMethod ⟨"PageScribeModel", "dictOperator", "(I)I"⟩ ∈ gw := gw_of (tb_8 (List.mem_of_getElem? (i := 42) (by decide +kernel))) (by decide +kernel)
theorem k_0_125 : Cond.selects "PageScribeModel" ⟨"PageScribeModel", "dictOperator", "(I)I"⟩ ⟨"PageScribeModel", "dictOperator", "(I)I"⟩ ∈ gw := gw_of (tb_0 (List.mem_of_getElem? (i := 125) (by decide +kernel))) (by decide +kernel)
theorem d_Mo_operate_202 : decode prog_15_method_42_code 202 = .ok (.ireturn, 1) := by decide +kernel
theorem d_Mo_operate_185 : decode prog_15_method_42_code 185 = .ok (.aload_n 0, 1) := by decide +kernel
theorem d_Mo_operate_186 : decode prog_15_method_42_code 186 = .ok (.iload_n 1, 1) := by decide +kernel
theorem d_Mo_operate_187 : decode prog_15_method_42_code 187 = .ok (.invokevirtual 446, 3) := by decide +kernel
theorem k_8_11 : Cond.code ⟨"PageScribeModel", "arrayOperator", "(I)I"⟩ prog_15_method_53_code 3 (some .int) ∈ gw := gw_of (tb_8 (List.mem_of_getElem? (i := 11) (by decide +kernel))) (by decide +kernel)
theorem k_8_8 : Cond.methodLink "PageScribeModel" 446 ⟨"PageScribeModel", "arrayOperator", "(I)I"⟩ ∈ gw := gw_of (tb_8 (List.mem_of_getElem? (i := 8) (by decide +kernel))) (by decide +kernel)
theorem k_8_10 : Cond.instanceMethod ⟨"PageScribeModel", "arrayOperator", "(I)I"⟩ ∈ gw := gw_of (tb_8 (List.mem_of_getElem? (i := 10) (by decide +kernel))) (by decide +kernel)
theorem k_0_118 : Cond.selects "PageScribeModel" ⟨"PageScribeModel", "arrayOperator", "(I)I"⟩ ⟨"PageScribeModel", "arrayOperator", "(I)I"⟩ ∈ gw := gw_of (tb_0 (List.mem_of_getElem? (i := 118) (by decide +kernel))) (by decide +kernel)
theorem d_Mo_operate_190 : decode prog_15_method_42_code 190 = .ok (.ireturn, 1) := by decide +kernel
theorem d_Mo_operate_173 : decode prog_15_method_42_code 173 = .ok (.aload_n 0, 1) := by decide +kernel
theorem d_Mo_operate_174 : decode prog_15_method_42_code 174 = .ok (.iload_n 1, 1) := by decide +kernel
theorem d_Mo_operate_175 : decode prog_15_method_42_code 175 = .ok (.invokevirtual 443, 3) := by decide +kernel
theorem k_7_233 : Cond.code ⟨"PageScribeModel", "truth", "(I)I"⟩ prog_15_method_51_code 8 (some .int) ∈ gw := gw_of (tb_7 (List.mem_of_getElem? (i := 233) (by decide +kernel))) (by decide +kernel)
theorem k_7_230 : Cond.methodLink "PageScribeModel" 443 ⟨"PageScribeModel", "truth", "(I)I"⟩ ∈ gw := gw_of (tb_7 (List.mem_of_getElem? (i := 230) (by decide +kernel))) (by decide +kernel)
theorem k_7_232 : Cond.instanceMethod ⟨"PageScribeModel", "truth", "(I)I"⟩ ∈ gw := gw_of (tb_7 (List.mem_of_getElem? (i := 232) (by decide +kernel))) (by decide +kernel)
theorem k_0_115 : Cond.selects "PageScribeModel" ⟨"PageScribeModel", "truth", "(I)I"⟩ ⟨"PageScribeModel", "truth", "(I)I"⟩ ∈ gw := gw_of (tb_0 (List.mem_of_getElem? (i := 115) (by decide +kernel))) (by decide +kernel)
theorem d_Mo_operate_178 : decode prog_15_method_42_code 178 = .ok (.ireturn, 1) := by decide +kernel
theorem d_Mo_operate_147 : decode prog_15_method_42_code 147 = .ok (.iload_n 1, 1) := by decide +kernel
theorem d_Mo_operate_148 : decode prog_15_method_42_code 148 = .ok (.bipush 16, 2) := by decide +kernel
theorem d_Mo_operate_150 : decode prog_15_method_42_code 150 = .ok (.if_icmp .ge 11, 3) := by decide +kernel
theorem d_Mo_operate_161 : decode prog_15_method_42_code 161 = .ok (.aload_n 0, 1) := by decide +kernel
theorem d_Mo_operate_162 : decode prog_15_method_42_code 162 = .ok (.iload_n 1, 1) := by decide +kernel
theorem d_Mo_operate_163 : decode prog_15_method_42_code 163 = .ok (.invokevirtual 440, 3) := by decide +kernel
theorem k_7_225 : Cond.code ⟨"PageScribeModel", "single", "(I)I"⟩ prog_15_method_49_code 7 (some .int) ∈ gw := gw_of (tb_7 (List.mem_of_getElem? (i := 225) (by decide +kernel))) (by decide +kernel)
theorem k_7_222 : Cond.methodLink "PageScribeModel" 440 ⟨"PageScribeModel", "single", "(I)I"⟩ ∈ gw := gw_of (tb_7 (List.mem_of_getElem? (i := 222) (by decide +kernel))) (by decide +kernel)
theorem k_7_224 : Cond.instanceMethod ⟨"PageScribeModel", "single", "(I)I"⟩ ∈ gw := gw_of (tb_7 (List.mem_of_getElem? (i := 224) (by decide +kernel))) (by decide +kernel)
theorem k_0_114 : Cond.selects "PageScribeModel" ⟨"PageScribeModel", "single", "(I)I"⟩ ⟨"PageScribeModel", "single", "(I)I"⟩ ∈ gw := gw_of (tb_0 (List.mem_of_getElem? (i := 114) (by decide +kernel))) (by decide +kernel)
theorem d_Mo_operate_166 : decode prog_15_method_42_code 166 = .ok (.ireturn, 1) := by decide +kernel
theorem d_Mo_operate_153 : decode prog_15_method_42_code 153 = .ok (.aload_n 0, 1) := by decide +kernel
theorem d_Mo_operate_154 : decode prog_15_method_42_code 154 = .ok (.iload_n 1, 1) := by decide +kernel
theorem d_Mo_operate_155 : decode prog_15_method_42_code 155 = .ok (.invokevirtual 437, 3) := by decide +kernel
theorem k_7_203 : Cond.code ⟨"PageScribeModel", "sum", "(I)I"⟩ prog_15_method_47_code 11 (some .int) ∈ gw := gw_of (tb_7 (List.mem_of_getElem? (i := 203) (by decide +kernel))) (by decide +kernel)
theorem k_7_200 : Cond.methodLink "PageScribeModel" 437 ⟨"PageScribeModel", "sum", "(I)I"⟩ ∈ gw := gw_of (tb_7 (List.mem_of_getElem? (i := 200) (by decide +kernel))) (by decide +kernel)
theorem k_7_202 : Cond.instanceMethod ⟨"PageScribeModel", "sum", "(I)I"⟩ ∈ gw := gw_of (tb_7 (List.mem_of_getElem? (i := 202) (by decide +kernel))) (by decide +kernel)
theorem k_0_109 : Cond.selects "PageScribeModel" ⟨"PageScribeModel", "sum", "(I)I"⟩ ⟨"PageScribeModel", "sum", "(I)I"⟩ ∈ gw := gw_of (tb_0 (List.mem_of_getElem? (i := 109) (by decide +kernel))) (by decide +kernel)
theorem d_Mo_operate_158 : decode prog_15_method_42_code 158 = .ok (.goto 8, 3) := by decide +kernel
theorem d_Mo_operate_95 : decode prog_15_method_42_code 95 = .ok (.istore 4, 2) := by decide +kernel
theorem d_Mo_operate_97 : decode prog_15_method_42_code 97 = .ok (.iload_n 2, 1) := by decide +kernel
theorem d_Mo_operate_98 : decode prog_15_method_42_code 98 = .ok (.bipush 10, 2) := by decide +kernel
theorem d_Mo_operate_100 : decode prog_15_method_42_code 100 = .ok (.idiv, 1) := by decide +kernel
theorem d_Mo_operate_101 : decode prog_15_method_42_code 101 = .ok (.istore_n 2, 1) := by decide +kernel
theorem d_Mo_operate_102 : decode prog_15_method_42_code 102 = .ok (.iinc 5 (-1), 3) := by decide +kernel
theorem d_Mo_operate_105 : decode prog_15_method_42_code 105 = .ok (.goto (-37), 3) := by decide +kernel
theorem d_Mo_operate_72 : decode prog_15_method_42_code 72 = .ok (.iload 4, 2) := by decide +kernel
theorem d_Mo_operate_74 : decode prog_15_method_42_code 74 = .ok (.ifCond .eq 20, 3) := by decide +kernel
theorem d_Mo_operate_94 : decode prog_15_method_42_code 94 = .ok (.iconst 0, 1) := by decide +kernel
theorem d_Mo_operate_77 : decode prog_15_method_42_code 77 = .ok (.aload_n 0, 1) := by decide +kernel
theorem d_Mo_operate_78 : decode prog_15_method_42_code 78 = .ok (.iload 5, 2) := by decide +kernel
theorem d_Mo_operate_80 : decode prog_15_method_42_code 80 = .ok (.iload_n 2, 1) := by decide +kernel
theorem d_Mo_operate_81 : decode prog_15_method_42_code 81 = .ok (.bipush 10, 2) := by decide +kernel
theorem d_Mo_operate_83 : decode prog_15_method_42_code 83 = .ok (.irem, 1) := by decide +kernel
theorem d_Mo_operate_84 : decode prog_15_method_42_code 84 = .ok (.invokevirtual 427, 3) := by decide +kernel
theorem k_7_162 : Cond.code ⟨"PageScribeModel", "suits", "(II)Z"⟩ prog_15_method_40_code 3 (some .boolean) ∈ gw := gw_of (tb_7 (List.mem_of_getElem? (i := 162) (by decide +kernel))) (by decide +kernel)
theorem k_7_159 : Cond.methodLink "PageScribeModel" 427 ⟨"PageScribeModel", "suits", "(II)Z"⟩ ∈ gw := gw_of (tb_7 (List.mem_of_getElem? (i := 159) (by decide +kernel))) (by decide +kernel)
theorem k_7_161 : Cond.instanceMethod ⟨"PageScribeModel", "suits", "(II)Z"⟩ ∈ gw := gw_of (tb_7 (List.mem_of_getElem? (i := 161) (by decide +kernel))) (by decide +kernel)
theorem k_0_99 : Cond.selects "PageScribeModel" ⟨"PageScribeModel", "suits", "(II)Z"⟩ ⟨"PageScribeModel", "suits", "(II)Z"⟩ ∈ gw := gw_of (tb_0 (List.mem_of_getElem? (i := 99) (by decide +kernel))) (by decide +kernel)
theorem d_Mo_operate_87 : decode prog_15_method_42_code 87 = .ok (.ifCond .eq 7, 3) := by decide +kernel
theorem d_Mo_operate_90 : decode prog_15_method_42_code 90 = .ok (.iconst 1, 1) := by decide +kernel
theorem d_Mo_operate_91 : decode prog_15_method_42_code 91 = .ok (.goto 4, 3) := by decide +kernel
theorem d_Mo_operate_55 : decode prog_15_method_42_code 55 = .ok (.iconst 1, 1) := by decide +kernel
theorem d_Mo_operate_56 : decode prog_15_method_42_code 56 = .ok (.ireturn, 1) := by decide +kernel
theorem d_Mo_operate_6 : decode prog_15_method_42_code 6 = .ok (.iload_n 2, 1) := by decide +kernel
theorem d_Mo_operate_7 : decode prog_15_method_42_code 7 = .ok (.ifCond .ne 7, 3) := by decide +kernel
theorem d_Mo_operate_14 : decode prog_15_method_42_code 14 = .ok (.iload_n 2, 1) := by decide +kernel
theorem d_Mo_operate_15 : decode prog_15_method_42_code 15 = .ok (.bipush 10, 2) := by decide +kernel
theorem d_Mo_operate_17 : decode prog_15_method_42_code 17 = .ok (.if_icmp .ge 7, 3) := by decide +kernel
theorem d_Mo_operate_24 : decode prog_15_method_42_code 24 = .ok (.iload_n 2, 1) := by decide +kernel
theorem d_Mo_operate_25 : decode prog_15_method_42_code 25 = .ok (.bipush 100, 2) := by decide +kernel
theorem d_Mo_operate_27 : decode prog_15_method_42_code 27 = .ok (.if_icmp .ge 7, 3) := by decide +kernel
theorem tI_100 : (100 : Int32).toInt = 100 := by decide +kernel
theorem d_Mo_operate_34 : decode prog_15_method_42_code 34 = .ok (.iload_n 2, 1) := by decide +kernel
theorem d_Mo_operate_35 : decode prog_15_method_42_code 35 = .ok (.sipush 1000, 3) := by decide +kernel
theorem d_Mo_operate_38 : decode prog_15_method_42_code 38 = .ok (.if_icmp .ge 7, 3) := by decide +kernel
theorem tI_1000 : (1000 : Int32).toInt = 1000 := by decide +kernel
theorem d_Mo_operate_45 : decode prog_15_method_42_code 45 = .ok (.iconst 4, 1) := by decide +kernel
theorem d_Mo_operate_41 : decode prog_15_method_42_code 41 = .ok (.iconst 3, 1) := by decide +kernel
theorem d_Mo_operate_42 : decode prog_15_method_42_code 42 = .ok (.goto 4, 3) := by decide +kernel
theorem d_Mo_operate_30 : decode prog_15_method_42_code 30 = .ok (.iconst 2, 1) := by decide +kernel
theorem d_Mo_operate_31 : decode prog_15_method_42_code 31 = .ok (.goto 15, 3) := by decide +kernel
theorem d_Mo_operate_20 : decode prog_15_method_42_code 20 = .ok (.iconst 1, 1) := by decide +kernel
theorem d_Mo_operate_21 : decode prog_15_method_42_code 21 = .ok (.goto 25, 3) := by decide +kernel
theorem d_Mo_operate_10 : decode prog_15_method_42_code 10 = .ok (.iconst 0, 1) := by decide +kernel
theorem d_Mo_operate_11 : decode prog_15_method_42_code 11 = .ok (.goto 35, 3) := by decide +kernel
set_option maxHeartbeats 4000000 in
set_option maxRecDepth 100000 in
theorem m_operate (l : Launch) (D : va_G) (T : Nat → ClassId) (h0 : Nat) (ar : Nat → Nat) (S : MS) (p0 : Int32) (sz : Nat) (hI : MI S) (h1 : 0 ≤ p0.toInt ∧ p0.toInt ≤ 71) (h2 : freeT S) : Met l ⟨"PageScribeModel", "operate", "(I)I"⟩ (wy ⟨"PageScribeModel", "operate", "(I)I"⟩ prog_15_method_42_code 6 (some .int)) ({ frames := 4, cells := 0, slots := 0, locals := 280 }) (va_Pc [.ref h0, .int p0] (Pw D T (mW T h0 ar S) sz E0)) (va_Qi (fun (r : Int32) (u : MS) => MI u ∧ kA S u ∧ (-1 ≤ r.toInt ∧ r.toInt ≤ 16 ∧ (f_frames u).toInt ≤ (f_frames S).toInt + 2 ∧ (r.toInt = -1 → ((a_kinds u) 40).toInt = 11 → 1 ≤ (f_frames u).toInt ∧ ((a_what u) ((f_frames u).toInt - 1).toNat).toInt ≤ 2))) (fun u t => Bw D T (va_A (mW T h0 ar S) sz) (mW T h0 ar u) t) (va_A (mW T h0 ar S) sz)) 0 0 (va_A (mW T h0 ar S) sz) := by
  refine j_met (y := ⟨"PageScribeModel", "operate", "(I)I"⟩) (b := prog_15_method_42_code) (n := 6) (ret := (some .int)) (av := [.ref h0, .int p0]) (Qc := fun A => va_Qi (fun (r : Int32) (u : MS) => MI u ∧ kA S u ∧ (-1 ≤ r.toInt ∧ r.toInt ≤ 16 ∧ (f_frames u).toInt ≤ (f_frames S).toInt + 2 ∧ (r.toInt = -1 → ((a_kinds u) 40).toInt = 11 → 1 ≤ (f_frames u).toInt ∧ ((a_what u) ((f_frames u).toInt - 1).toNat).toInt ≤ 2))) (fun u t => Bw D T A (mW T h0 ar u) t) A) (by decide +kernel) (Nat.le_of_ble_eq_true rfl) (fun p e s m args below meth c A ls F hr hlocks hnm hK hP hD hS hA hN hE hl => ?_)
  obtain ⟨hx, hb, hml, hown, hts⟩ := id F
  have hl : lv_has ls 6 [(0, .ref h0), (1, .int p0)] := hl
  obtain ⟨i_size, i_taken, i_vals, i_room, i_dicts, i_deep, i_open, i_cells, i_points, i_part, i_length, i_knows, i_page, i_text, i_pats, i_fuel, i_fr, i_ink⟩ := id hI
  refine lv_aload_n hx hb d_Mo_operate_0 rfl (lv_at hl 0 rfl) ?_
  refine lv_iload_n hx hb d_Mo_operate_1 rfl (lv_at hl 1 rfl) ?_
  refine jm_ci (w := (fun _ => S)) hK hP hD hS hA (va_runV (As := [.int p0]) (rest := []) F (m_pattern l D T h0 ar S p0 s.heap.size ⟨i_size, i_taken, i_vals, i_room, i_dicts, i_deep, i_open, i_cells, i_points, i_part, i_length, i_knows, i_page, i_text, i_pats, i_fuel, i_fr, i_ink⟩ (show 0 ≤ p0.toInt ∧ p0.toInt ≤ 71 by omega)) (j_cV (k := 1) (C := "PageScribeModel") hts k_7_158 k_1_12 k_7_155 k_7_157 k_0_98 (by decide +kernel) ⟨Nat.le_of_ble_eq_true rfl, Nat.le_of_ble_eq_true rfl⟩) (jm_pre hK hP hD) rfl rfl hl.1 rfl (lv_room (Nat.le_of_ble_eq_true rfl)) d_Mo_operate_2 ⟨Nat.le_of_ble_eq_true rfl, Nat.le_of_ble_eq_true rfl⟩) (fun rv1 u1 H locs hw1 hP hD hS => ?_)
  have hP : va_P D classes (mW T h0 ar S) H := hP
  have hD : va_D A (mW T h0 ar S) := hD
  have qhw1 : rv1.toInt = pat p0.toInt := hw1
  have ep : rv1.toInt = pat p0.toInt := qhw1
  have hp := pat_rng h1
  rw [← ep] at hp
  refine lv_istore_n (lv' := [(2, .int rv1), (0, .ref h0), (1, .int p0)]) hx hb d_Mo_operate_5 rfl hl (by decide) rfl (fun ls hl => ?_)
  refine j_joinH (α := Int32) (fun x H locs ls => ((1 ≤ rv1.toInt → 1 ≤ x.toInt) ∧ (10 ≤ rv1.toInt → 2 ≤ x.toInt) ∧ (100 ≤ rv1.toInt → 3 ≤ x.toInt) ∧ (1000 ≤ rv1.toInt → 4 ≤ x.toInt)) ∧ va_P D classes (mW T h0 ar S) H ∧ va_D A (mW T h0 ar S) ∧ va_S A s.heap H locs ∧ lv_has ls 6 [(2, .int rv1), (0, .ref h0), (1, .int p0)]) (fun x ls => F0 m 46 ls (.int x :: [])) (fun x H locs ls hI9 => ?_) (fun key1 => ?_)
  · obtain ⟨j1, rfl⟩ : ∃ z, z = x := ⟨_, rfl⟩
    obtain ⟨hj1, hP, hD, hS, hl⟩ := hI9
    have hj1 : (1 ≤ rv1.toInt → 1 ≤ j1.toInt) ∧ (10 ≤ rv1.toInt → 2 ≤ j1.toInt) ∧ (100 ≤ rv1.toInt → 3 ≤ j1.toInt) ∧ (1000 ≤ rv1.toInt → 4 ≤ j1.toInt) := hj1
    have hP : va_P D classes (mW T h0 ar S) H := hP
    have hD : va_D A (mW T h0 ar S) := hD
    have hl : lv_has ls 6 [(2, .int rv1), (0, .ref h0), (1, .int p0)] := hl
    refine lv_istore_n (lv' := [(3, .int j1), (2, .int rv1), (0, .ref h0), (1, .int p0)]) hx hb d_Mo_operate_46 rfl hl (by decide) rfl (fun ls hl => ?_)
    refine lv_aload_n hx hb d_Mo_operate_47 rfl (lv_at hl 2 rfl) ?_
    refine va_get (D := D) (ci := 11) (v := .int (f_size S)) (C := "PageScribeModel") (T := F_Mo) (N := 45) hx hb hts i_Mo hown hK hP 0 mW_0 cl_11 4 (by decide) (hts _ k_6_164) (fun _ h9 => h9) (mg_size _ _) d_Mo_operate_48 ?_
    refine lv_iload_n hx hb d_Mo_operate_51 rfl (lv_at hl 0 rfl) ?_
    refine lv_icmp_ge (tgt := 57) hx hb d_Mo_operate_52 (by decide) (fun c52_1 => ?_) (fun c52_1 => ?_)
    · have fc52_1 : j1.toInt ≤ (f_size S).toInt := zt_le (show j1.toInt = _ from rfl) (show (f_size S).toInt = _ from rfl) c52_1
      have hn : ndP (pat p0.toInt) (f_size S).toInt := by rw [← ep]; unfold ndP; omega
      refine lv_iconst (v := 1) hx hb d_Mo_operate_57 (by decide) ?_
      refine lv_istore (lv' := [(4, .int 1), (3, .int j1), (2, .int rv1), (0, .ref h0), (1, .int p0)]) hx hb d_Mo_operate_58 hl (by decide) rfl (fun ls hl => ?_)
      refine lv_aload_n hx hb d_Mo_operate_60 rfl (lv_at hl 3 rfl) ?_
      refine va_get (D := D) (ci := 11) (v := .int (f_size S)) (C := "PageScribeModel") (T := F_Mo) (N := 45) hx hb hts i_Mo hown hK hP 0 mW_0 cl_11 4 (by decide) (hts _ k_6_164) (fun _ h9 => h9) (mg_size _ _) d_Mo_operate_61 ?_
      refine lv_iconst (v := 1) hx hb d_Mo_operate_64 (by decide) ?_
      refine lv_isub hx hb d_Mo_operate_65 ?_
      refine lv_topi (fun x1 ex1 => ?_)
      have fx1 : x1.toInt = ((f_size S).toInt - 1) := by rw [ex1]; exact (zt_sub (show (f_size S).toInt = _ from rfl) tI_1 (by omega) (by omega)).trans (by omega)
      refine lv_istore (lv' := [(5, .int x1), (4, .int 1), (3, .int j1), (2, .int rv1), (0, .ref h0), (1, .int p0)]) hx hb d_Mo_operate_66 hl (by decide) rfl (fun ls hl => ?_)
      refine j_loop (α := Int32 × Int32 × Int32) (fun k x H locs ls => (opL S (pat p0.toInt) x.1.toInt x.2.1.toInt x.2.2.toInt ∧ 0 ≤ x.1.toInt ∧ x.1.toInt ≤ 1115 ∧ x.1.toInt ≤ ((k : Nat) : Int) ∧ -1 ≤ x.2.2.toInt ∧ x.2.2.toInt ≤ 39) ∧ va_P D classes (mW T h0 ar S) H ∧ va_D A (mW T h0 ar S) ∧ va_S A s.heap H locs ∧ lv_has ls 6 [(5, .int x.2.2), (4, .int x.2.1), (3, .int j1), (2, .int x.1), (0, .ref h0), (1, .int p0)]) (fun _ _ ls => F0 m 68 ls []) (fun k x H locs ls hI9 ih => ?_) 1115 (rv1, (1 : Int32), x1) _ _ _ ⟨(show opL S (pat p0.toInt) rv1.toInt (1 : Int32).toInt x1.toInt ∧ 0 ≤ rv1.toInt ∧ rv1.toInt ≤ 1115 ∧ rv1.toInt ≤ ((1115 : Nat) : Int) ∧ -1 ≤ x1.toInt ∧ x1.toInt ≤ 39 by have := tI_1; first | exact ⟨opL_s hf1.1 (by omega) (by rw [← ep]; exact hp) hj2 (by omega) (by omega), by omega, by omega, by omega, by omega, by omega⟩ | exact ⟨opL_0 (by omega) (by omega) (by omega), by omega, by omega, by omega, by omega, by omega⟩), hP, hD, hS, lv_sub hl [0, 1, 2, 3, 4, 5] rfl⟩
      obtain ⟨t, g, i⟩ := x
      obtain ⟨hf1, hP, hD, hS, hl⟩ := hI9
      have hf1 : opL S (pat p0.toInt) t.toInt g.toInt i.toInt ∧ 0 ≤ t.toInt ∧ t.toInt ≤ 1115 ∧ t.toInt ≤ ((k : Nat) : Int) ∧ -1 ≤ i.toInt ∧ i.toInt ≤ 39 := hf1
      have hP : va_P D classes (mW T h0 ar S) H := hP
      have hD : va_D A (mW T h0 ar S) := hD
      have hl : lv_has ls 6 [(5, .int i), (4, .int g), (3, .int j1), (2, .int t), (0, .ref h0), (1, .int p0)] := hl
      refine lv_iload_n hx hb d_Mo_operate_68 rfl (lv_at hl 3 rfl) ?_
      refine lv_if_le (tgt := 108) hx hb d_Mo_operate_69 (by decide) (fun c69_1 => ?_) (fun c69_1 => ?_)
      · have fc69_1 : t.toInt ≤ 0 := zt_le (show t.toInt = _ from rfl) tI_0 c69_1
        refine lv_iload hx hb d_Mo_operate_108 (lv_at hl 1 rfl) ?_
        refine lv_if_eq (tgt := 121) hx hb d_Mo_operate_110 (by decide) (fun c110_1 => ?_) (fun c110_1 => ?_)
        · have fc110_1 : g.toInt = 0 := zt_eq (show g.toInt = _ from rfl) tI_0 c110_1
          refine lv_iconst (v := 3) hx hb d_Mo_operate_121 (by decide) ?_
          exact j_iret F hr hlocks hK hS S ⟨⟨i_size, i_taken, i_vals, i_room, i_dicts, i_deep, i_open, i_cells, i_points, i_part, i_length, i_knows, i_page, i_text, i_pats, i_fuel, i_fr, i_ink⟩, (kA_r S), (show -1 ≤ (3 : Int32).toInt ∧ (3 : Int32).toInt ≤ 16 ∧ (f_frames S).toInt ≤ (f_frames S).toInt + 2 ∧ ((3 : Int32).toInt = -1 → ((a_kinds S) 40).toInt = 11 → 1 ≤ (f_frames S).toInt ∧ ((a_what S) ((f_frames S).toInt - 1).toNat).toInt ≤ 2) by have := tI_3; first | exact ⟨by omega, by omega, by omega, fun q => by omega⟩ | (refine ⟨by omega, by omega, by omega, ?_⟩; exact (by assumption : _ ∧ _ ∧ _ ∧ _).2.2.2))⟩ hP hD d_Mo_operate_122
        · have fc110_1 : ¬ g.toInt = 0 := zt_ne (show g.toInt = _ from rfl) tI_0 c110_1
          have hop : opD S p0.toInt := op_end hf1.1 (by omega) (by have := hf1.1.1; omega) hn
          refine lv_aload_n hx hb d_Mo_operate_113 rfl (lv_at hl 4 rfl) ?_
          refine lv_iload_n hx hb d_Mo_operate_114 rfl (lv_at hl 5 rfl) ?_
          refine jm_ci (w := (fun _ => S)) hK hP hD hS hA (va_runV (As := [.int p0]) (rest := []) F (m_suitsOther l D T h0 ar S p0 H.size ⟨i_size, i_taken, i_vals, i_room, i_dicts, i_deep, i_open, i_cells, i_points, i_part, i_length, i_knows, i_page, i_text, i_pats, i_fuel, i_fr, i_ink⟩ (show 0 ≤ p0.toInt ∧ p0.toInt ≤ 71 by omega) (fun a b => (op_oth hop ⟨a, b⟩).1) (fun a => (op_oth hop (by omega)).2.1 a) (fun a => (op_oth hop (by omega)).2.2 a)) (j_cV (k := 1) (C := "PageScribeModel") hts k_7_178 k_1_12 k_7_175 k_7_177 k_0_103 (by decide +kernel) ⟨Nat.le_of_ble_eq_true rfl, Nat.le_of_ble_eq_true rfl⟩) (jm_pre hK hP hD) rfl rfl hl.1 rfl (lv_room (Nat.le_of_ble_eq_true rfl)) d_Mo_operate_115 ⟨Nat.le_of_ble_eq_true rfl, Nat.le_of_ble_eq_true rfl⟩) (fun rv2 u2 H locs hw2 hP hD hS => ?_)
          have hP : va_P D classes (mW T h0 ar S) H := hP
          have hD : va_D A (mW T h0 ar S) := hD
          have qhw2 : (rv2.toInt = 1 ∧ othP p0.toInt S) ∨ rv2.toInt = 0 := hw2
          have hos := qhw2
          refine lv_if_ne (tgt := 123) hx hb d_Mo_operate_118 (by decide) (fun c118_1 => ?_) (fun c118_1 => ?_)
          · have fc118_1 : ¬ rv2.toInt = 0 := zt_ne (show rv2.toInt = _ from rfl) tI_0 c118_1
            have ho := hos.resolve_right (by omega) |>.2
            refine lv_iload_n hx hb d_Mo_operate_123 rfl (lv_at hl 5 rfl) ?_
            refine lv_bipush (v := 10) hx hb d_Mo_operate_124 (by decide) ?_
            refine lv_icmp_lt (tgt := 135) hx hb d_Mo_operate_126 (by decide) (fun c126_1 => ?_) (fun c126_1 => ?_)
            · have fc126_1 : p0.toInt < 10 := zt_lt (show p0.toInt = _ from rfl) tI_10 c126_1
              refine lv_aload_n hx hb d_Mo_operate_135 rfl (lv_at hl 4 rfl) ?_
              refine lv_iload_n hx hb d_Mo_operate_136 rfl (lv_at hl 5 rfl) ?_
              refine jm_ci (w := (fun u => u)) hK hP hD hS hA (va_runV (As := [.int p0]) (rest := []) F (m_stackOperator l D T h0 ar S p0 H.size ⟨i_size, i_taken, i_vals, i_room, i_dicts, i_deep, i_open, i_cells, i_points, i_part, i_length, i_knows, i_page, i_text, i_pats, i_fuel, i_fr, i_ink⟩ (show (0 ≤ p0.toInt ∧ p0.toInt ≤ 9) ∨ p0.toInt = 70 ∨ p0.toInt = 71 by omega) (op_stk hop (by omega))) (j_cV (k := 1) (C := "PageScribeModel") hts k_7_182 k_1_12 k_7_179 k_7_181 k_0_104 (by decide +kernel) ⟨Nat.le_of_ble_eq_true rfl, Nat.le_of_ble_eq_true rfl⟩) (jm_pre hK hP hD) rfl rfl hl.1 rfl (lv_room (Nat.le_of_ble_eq_true rfl)) d_Mo_operate_137 ⟨Nat.le_of_ble_eq_true rfl, Nat.le_of_ble_eq_true rfl⟩) (fun rv3 S1 H locs hw3 hP hD hS => ?_)
              have hP : va_P D classes (mW T h0 ar S1) H := hP
              have hD : va_D A (mW T h0 ar S1) := hD
              obtain ⟨⟨i_size, i_taken, i_vals, i_room, i_dicts, i_deep, i_open, i_cells, i_points, i_part, i_length, i_knows, i_page, i_text, i_pats, i_fuel, i_fr, i_ink⟩, kpA_S1, kpF_S1, qqhw3⟩ := hw3
              have kSA_S1 : kA S S1 := kA_t (show kA S S from (kA_r S)) kpA_S1
              have kSF_S1 : kF S S1 := kF_t (show kF S S from (kF_r S)) kpF_S1
              have kST_S1 : kT S S1 := kT_t (show kT S S from (kT_r S)) (kT_A kpA_S1)
              have nS1 : (f_frames S1).toInt = (f_frames S).toInt := congrArg Int32.toInt kSF_S1.1
              have pS1 : (f_steps S1).toInt = (f_steps S).toInt := congrArg Int32.toInt kSA_S1.2.2.2.2.1
              have wS1 : (f_fuel S1).toInt = (f_fuel S).toInt := congrArg Int32.toInt kSA_S1.2.2.2.1
              have qhw3 : 0 ≤ rv3.toInt ∧ rv3.toInt ≤ 16 := qqhw3
              exact j_iret F hr hlocks hK hS S1 ⟨⟨i_size, i_taken, i_vals, i_room, i_dicts, i_deep, i_open, i_cells, i_points, i_part, i_length, i_knows, i_page, i_text, i_pats, i_fuel, i_fr, i_ink⟩, kSA_S1, (show -1 ≤ rv3.toInt ∧ rv3.toInt ≤ 16 ∧ (f_frames S1).toInt ≤ (f_frames S).toInt + 2 ∧ (rv3.toInt = -1 → ((a_kinds S1) 40).toInt = 11 → 1 ≤ (f_frames S1).toInt ∧ ((a_what S1) ((f_frames S1).toInt - 1).toNat).toInt ≤ 2) by first | exact ⟨by omega, by omega, by omega, fun q => by omega⟩ | (refine ⟨by omega, by omega, by omega, ?_⟩; exact (by assumption : _ ∧ _ ∧ _ ∧ _).2.2.2))⟩ hP hD d_Mo_operate_140
            · have fc126_1 : 10 ≤ p0.toInt := Int.not_lt.mp (zt_nlt (show p0.toInt = _ from rfl) tI_10 c126_1)
              refine lv_iload_n hx hb d_Mo_operate_129 rfl (lv_at hl 5 rfl) ?_
              refine lv_bipush (v := 69) hx hb d_Mo_operate_130 (by decide) ?_
              refine lv_icmp_le (tgt := 141) hx hb d_Mo_operate_132 (by decide) (fun c132_1 => ?_) (fun c132_1 => ?_)
              · have fc132_1 : p0.toInt ≤ 69 := zt_le (show p0.toInt = _ from rfl) tI_69 c132_1
                refine lv_iload_n hx hb d_Mo_operate_141 rfl (lv_at hl 5 rfl) ?_
                refine lv_bipush (v := 21) hx hb d_Mo_operate_142 (by decide) ?_
                refine lv_icmp_ge (tgt := 167) hx hb d_Mo_operate_144 (by decide) (fun c144_1 => ?_) (fun c144_1 => ?_)
                · have fc144_1 : 21 ≤ p0.toInt := zt_le tI_21 (show p0.toInt = _ from rfl) c144_1
                  refine lv_iload_n hx hb d_Mo_operate_167 rfl (lv_at hl 5 rfl) ?_
                  refine lv_bipush (v := 37) hx hb d_Mo_operate_168 (by decide) ?_
                  refine lv_icmp_ge (tgt := 179) hx hb d_Mo_operate_170 (by decide) (fun c170_1 => ?_) (fun c170_1 => ?_)
                  · have fc170_1 : 37 ≤ p0.toInt := zt_le tI_37 (show p0.toInt = _ from rfl) c170_1
                    refine lv_iload_n hx hb d_Mo_operate_179 rfl (lv_at hl 5 rfl) ?_
                    refine lv_bipush (v := 43) hx hb d_Mo_operate_180 (by decide) ?_
                    refine lv_icmp_ge (tgt := 191) hx hb d_Mo_operate_182 (by decide) (fun c182_1 => ?_) (fun c182_1 => ?_)
                    · have fc182_1 : 43 ≤ p0.toInt := zt_le tI_43 (show p0.toInt = _ from rfl) c182_1
                      refine lv_iload_n hx hb d_Mo_operate_191 rfl (lv_at hl 5 rfl) ?_
                      refine lv_bipush (v := 50) hx hb d_Mo_operate_192 (by decide) ?_
                      refine lv_icmp_ge (tgt := 203) hx hb d_Mo_operate_194 (by decide) (fun c194_1 => ?_) (fun c194_1 => ?_)
                      · have fc194_1 : 50 ≤ p0.toInt := zt_le tI_50 (show p0.toInt = _ from rfl) c194_1
                        refine lv_iload_n hx hb d_Mo_operate_203 rfl (lv_at hl 5 rfl) ?_
                        refine lv_bipush (v := 63) hx hb d_Mo_operate_204 (by decide) ?_
                        refine lv_icmp_ge (tgt := 229) hx hb d_Mo_operate_206 (by decide) (fun c206_1 => ?_) (fun c206_1 => ?_)
                        · have fc206_1 : 63 ≤ p0.toInt := zt_le tI_63 (show p0.toInt = _ from rfl) c206_1
                          refine lv_aload_n hx hb d_Mo_operate_229 rfl (lv_at hl 4 rfl) ?_
                          refine lv_iload_n hx hb d_Mo_operate_230 rfl (lv_at hl 5 rfl) ?_
                          refine jm_ci (w := (fun u => u)) hK hP hD hS hA (va_runV (As := [.int p0]) (rest := []) F (m_paint l D T h0 ar S p0 H.size ⟨i_size, i_taken, i_vals, i_room, i_dicts, i_deep, i_open, i_cells, i_points, i_part, i_length, i_knows, i_page, i_text, i_pats, i_fuel, i_fr, i_ink⟩ (show 63 ≤ p0.toInt ∧ p0.toInt ≤ 69 by omega) (op_pai hop (by omega)) i_size.1) (j_cV (k := 1) (C := "PageScribeModel") hts k_8_95 k_1_12 k_8_92 k_8_94 k_0_138 (by decide +kernel) ⟨Nat.le_of_ble_eq_true rfl, Nat.le_of_ble_eq_true rfl⟩) (jm_pre hK hP hD) rfl rfl hl.1 rfl (lv_room (Nat.le_of_ble_eq_true rfl)) d_Mo_operate_231 ⟨Nat.le_of_ble_eq_true rfl, Nat.le_of_ble_eq_true rfl⟩) (fun rv4 S2 H locs hw4 hP hD hS => ?_)
                          have hP : va_P D classes (mW T h0 ar S2) H := hP
                          have hD : va_D A (mW T h0 ar S2) := hD
                          obtain ⟨⟨i_size, i_taken, i_vals, i_room, i_dicts, i_deep, i_open, i_cells, i_points, i_part, i_length, i_knows, i_page, i_text, i_pats, i_fuel, i_fr, i_ink⟩, kpA_S2, kpF_S2, qqhw4⟩ := hw4
                          have kSA_S2 : kA S S2 := kA_t (show kA S S from (kA_r S)) kpA_S2
                          have kSF_S2 : kF S S2 := kF_t (show kF S S from (kF_r S)) kpF_S2
                          have kST_S2 : kT S S2 := kT_t (show kT S S from (kT_r S)) (kT_A kpA_S2)
                          have nS2 : (f_frames S2).toInt = (f_frames S).toInt := congrArg Int32.toInt kSF_S2.1
                          have pS2 : (f_steps S2).toInt = (f_steps S).toInt := congrArg Int32.toInt kSA_S2.2.2.2.2.1
                          have wS2 : (f_fuel S2).toInt = (f_fuel S).toInt := congrArg Int32.toInt kSA_S2.2.2.2.1
                          have qhw4 : 0 ≤ rv4.toInt ∧ rv4.toInt ≤ 15 := qqhw4
                          exact j_iret F hr hlocks hK hS S2 ⟨⟨i_size, i_taken, i_vals, i_room, i_dicts, i_deep, i_open, i_cells, i_points, i_part, i_length, i_knows, i_page, i_text, i_pats, i_fuel, i_fr, i_ink⟩, kSA_S2, (show -1 ≤ rv4.toInt ∧ rv4.toInt ≤ 16 ∧ (f_frames S2).toInt ≤ (f_frames S).toInt + 2 ∧ (rv4.toInt = -1 → ((a_kinds S2) 40).toInt = 11 → 1 ≤ (f_frames S2).toInt ∧ ((a_what S2) ((f_frames S2).toInt - 1).toNat).toInt ≤ 2) by first | exact ⟨by omega, by omega, by omega, fun q => by omega⟩ | (refine ⟨by omega, by omega, by omega, ?_⟩; exact (by assumption : _ ∧ _ ∧ _ ∧ _).2.2.2))⟩ hP hD d_Mo_operate_234
                        · have fc206_1 : p0.toInt < 63 := Int.not_le.mp (zt_nle tI_63 (show p0.toInt = _ from rfl) c206_1)
                          refine lv_iload_n hx hb d_Mo_operate_209 rfl (lv_at hl 5 rfl) ?_
                          refine lv_bipush (v := 57) hx hb d_Mo_operate_210 (by decide) ?_
                          refine lv_icmp_ge (tgt := 223) hx hb d_Mo_operate_212 (by decide) (fun c212_1 => ?_) (fun c212_1 => ?_)
                          · have fc212_1 : 57 ≤ p0.toInt := zt_le tI_57 (show p0.toInt = _ from rfl) c212_1
                            refine lv_aload_n hx hb d_Mo_operate_223 rfl (lv_at hl 4 rfl) ?_
                            refine lv_iload_n hx hb d_Mo_operate_224 rfl (lv_at hl 5 rfl) ?_
                            refine jm_ci (w := (fun u => u)) hK hP hD hS hA (va_runV (As := [.int p0]) (rest := []) F (m_control l D T h0 ar S p0 H.size ⟨i_size, i_taken, i_vals, i_room, i_dicts, i_deep, i_open, i_cells, i_points, i_part, i_length, i_knows, i_page, i_text, i_pats, i_fuel, i_fr, i_ink⟩ (show 57 ≤ p0.toInt ∧ p0.toInt ≤ 62 by omega) h2 (op_ctl hop (by omega))) (j_cV (k := 1) (C := "PageScribeModel") hts k_8_67 k_1_12 k_8_64 k_8_66 k_0_131 (by decide +kernel) ⟨Nat.le_of_ble_eq_true rfl, Nat.le_of_ble_eq_true rfl⟩) (jm_pre hK hP hD) rfl rfl hl.1 rfl (lv_room (Nat.le_of_ble_eq_true rfl)) d_Mo_operate_225 ⟨Nat.le_of_ble_eq_true rfl, Nat.le_of_ble_eq_true rfl⟩) (fun rv5 S3 H locs hw5 hP hD hS => ?_)
                            have hP : va_P D classes (mW T h0 ar S3) H := hP
                            have hD : va_D A (mW T h0 ar S3) := hD
                            obtain ⟨⟨i_size, i_taken, i_vals, i_room, i_dicts, i_deep, i_open, i_cells, i_points, i_part, i_length, i_knows, i_page, i_text, i_pats, i_fuel, i_fr, i_ink⟩, kpA_S3, qqhw5⟩ := hw5
                            have kSA_S3 : kA S S3 := kA_t (show kA S S from (kA_r S)) kpA_S3
                            have kST_S3 : kT S S3 := kT_t (show kT S S from (kT_r S)) (kT_A kpA_S3)
                            have pS3 : (f_steps S3).toInt = (f_steps S).toInt := congrArg Int32.toInt kSA_S3.2.2.2.2.1
                            have wS3 : (f_fuel S3).toInt = (f_fuel S).toInt := congrArg Int32.toInt kSA_S3.2.2.2.1
                            have qhw5 : -1 ≤ rv5.toInt ∧ rv5.toInt ≤ 16 ∧ (f_frames S3).toInt ≤ (f_frames S).toInt + 2 ∧ (rv5.toInt = -1 → ((a_kinds S3) 40).toInt = 11 → 1 ≤ (f_frames S3).toInt ∧ ((a_what S3) ((f_frames S3).toInt - 1).toNat).toInt ≤ 2) := qqhw5
                            exact j_iret F hr hlocks hK hS S3 ⟨⟨i_size, i_taken, i_vals, i_room, i_dicts, i_deep, i_open, i_cells, i_points, i_part, i_length, i_knows, i_page, i_text, i_pats, i_fuel, i_fr, i_ink⟩, kSA_S3, (show -1 ≤ rv5.toInt ∧ rv5.toInt ≤ 16 ∧ (f_frames S3).toInt ≤ (f_frames S).toInt + 2 ∧ (rv5.toInt = -1 → ((a_kinds S3) 40).toInt = 11 → 1 ≤ (f_frames S3).toInt ∧ ((a_what S3) ((f_frames S3).toInt - 1).toNat).toInt ≤ 2) by first | exact ⟨by omega, by omega, by omega, fun q => by omega⟩ | (refine ⟨by omega, by omega, by omega, ?_⟩; exact (by assumption : _ ∧ _ ∧ _ ∧ _).2.2.2))⟩ hP hD d_Mo_operate_228
                          · have fc212_1 : p0.toInt < 57 := Int.not_le.mp (zt_nle tI_57 (show p0.toInt = _ from rfl) c212_1)
                            refine lv_aload_n hx hb d_Mo_operate_215 rfl (lv_at hl 4 rfl) ?_
                            refine lv_iload_n hx hb d_Mo_operate_216 rfl (lv_at hl 5 rfl) ?_
                            refine jm_ci (w := (fun u => u)) hK hP hD hS hA (va_runV (As := [.int p0]) (rest := []) F (m_begins l D T h0 ar S p0 H.size ⟨i_size, i_taken, i_vals, i_room, i_dicts, i_deep, i_open, i_cells, i_points, i_part, i_length, i_knows, i_page, i_text, i_pats, i_fuel, i_fr, i_ink⟩ (show 50 ≤ p0.toInt ∧ p0.toInt ≤ 56 by omega) h2 (op_beg hop (by omega))) (j_cV (k := 1) (C := "PageScribeModel") hts k_8_51 k_1_12 k_8_48 k_8_50 k_0_127 (by decide +kernel) ⟨Nat.le_of_ble_eq_true rfl, Nat.le_of_ble_eq_true rfl⟩) (jm_pre hK hP hD) rfl rfl hl.1 rfl (lv_room (Nat.le_of_ble_eq_true rfl)) d_Mo_operate_217 ⟨Nat.le_of_ble_eq_true rfl, Nat.le_of_ble_eq_true rfl⟩) (fun rv6 S4 H locs hw6 hP hD hS => ?_)
                            have hP : va_P D classes (mW T h0 ar S4) H := hP
                            have hD : va_D A (mW T h0 ar S4) := hD
                            obtain ⟨⟨i_size, i_taken, i_vals, i_room, i_dicts, i_deep, i_open, i_cells, i_points, i_part, i_length, i_knows, i_page, i_text, i_pats, i_fuel, i_fr, i_ink⟩, kpA_S4, qqhw6⟩ := hw6
                            have kSA_S4 : kA S S4 := kA_t (show kA S S from (kA_r S)) kpA_S4
                            have kST_S4 : kT S S4 := kT_t (show kT S S from (kT_r S)) (kT_A kpA_S4)
                            have pS4 : (f_steps S4).toInt = (f_steps S).toInt := congrArg Int32.toInt kSA_S4.2.2.2.2.1
                            have wS4 : (f_fuel S4).toInt = (f_fuel S).toInt := congrArg Int32.toInt kSA_S4.2.2.2.1
                            have qhw6 : -1 ≤ rv6.toInt ∧ rv6.toInt ≤ 16 ∧ (f_frames S4).toInt ≤ (f_frames S).toInt + 1 ∧ (rv6.toInt = -1 → ((a_kinds S4) 40).toInt = 11 → 1 ≤ (f_frames S4).toInt ∧ ((a_what S4) ((f_frames S4).toInt - 1).toNat).toInt ≤ 2) := qqhw6
                            refine lv_goto (tgt := 228) hx hb d_Mo_operate_220 (by decide) ?_
                            exact j_iret F hr hlocks hK hS S4 ⟨⟨i_size, i_taken, i_vals, i_room, i_dicts, i_deep, i_open, i_cells, i_points, i_part, i_length, i_knows, i_page, i_text, i_pats, i_fuel, i_fr, i_ink⟩, kSA_S4, (show -1 ≤ rv6.toInt ∧ rv6.toInt ≤ 16 ∧ (f_frames S4).toInt ≤ (f_frames S).toInt + 2 ∧ (rv6.toInt = -1 → ((a_kinds S4) 40).toInt = 11 → 1 ≤ (f_frames S4).toInt ∧ ((a_what S4) ((f_frames S4).toInt - 1).toNat).toInt ≤ 2) by first | exact ⟨by omega, by omega, by omega, fun q => by omega⟩ | (refine ⟨by omega, by omega, by omega, ?_⟩; exact (by assumption : _ ∧ _ ∧ _ ∧ _).2.2.2))⟩ hP hD d_Mo_operate_228
                      · have fc194_1 : p0.toInt < 50 := Int.not_le.mp (zt_nle tI_50 (show p0.toInt = _ from rfl) c194_1)
                        refine lv_aload_n hx hb d_Mo_operate_197 rfl (lv_at hl 4 rfl) ?_
                        refine lv_iload_n hx hb d_Mo_operate_198 rfl (lv_at hl 5 rfl) ?_
                        refine jm_ci (w := (fun u => u)) hK hP hD hS hA (va_runV (As := [.int p0]) (rest := []) F (m_dictOperator l D T h0 ar S p0 H.size ⟨i_size, i_taken, i_vals, i_room, i_dicts, i_deep, i_open, i_cells, i_points, i_part, i_length, i_knows, i_page, i_text, i_pats, i_fuel, i_fr, i_ink⟩ (show 43 ≤ p0.toInt ∧ p0.toInt ≤ 49 by omega) (op_dic hop (by omega))) (j_cV (k := 1) (C := "PageScribeModel") hts k_8_43 k_1_12 k_8_40 k_8_42 k_0_125 (by decide +kernel) ⟨Nat.le_of_ble_eq_true rfl, Nat.le_of_ble_eq_true rfl⟩) (jm_pre hK hP hD) rfl rfl hl.1 rfl (lv_room (Nat.le_of_ble_eq_true rfl)) d_Mo_operate_199 ⟨Nat.le_of_ble_eq_true rfl, Nat.le_of_ble_eq_true rfl⟩) (fun rv7 S5 H locs hw7 hP hD hS => ?_)
                        have hP : va_P D classes (mW T h0 ar S5) H := hP
                        have hD : va_D A (mW T h0 ar S5) := hD
                        obtain ⟨⟨i_size, i_taken, i_vals, i_room, i_dicts, i_deep, i_open, i_cells, i_points, i_part, i_length, i_knows, i_page, i_text, i_pats, i_fuel, i_fr, i_ink⟩, kpA_S5, kpF_S5, qqhw7⟩ := hw7
                        have kSA_S5 : kA S S5 := kA_t (show kA S S from (kA_r S)) kpA_S5
                        have kSF_S5 : kF S S5 := kF_t (show kF S S from (kF_r S)) kpF_S5
                        have kST_S5 : kT S S5 := kT_t (show kT S S from (kT_r S)) (kT_A kpA_S5)
                        have nS5 : (f_frames S5).toInt = (f_frames S).toInt := congrArg Int32.toInt kSF_S5.1
                        have pS5 : (f_steps S5).toInt = (f_steps S).toInt := congrArg Int32.toInt kSA_S5.2.2.2.2.1
                        have wS5 : (f_fuel S5).toInt = (f_fuel S).toInt := congrArg Int32.toInt kSA_S5.2.2.2.1
                        have qhw7 : 0 ≤ rv7.toInt ∧ rv7.toInt ≤ 16 := qqhw7
                        exact j_iret F hr hlocks hK hS S5 ⟨⟨i_size, i_taken, i_vals, i_room, i_dicts, i_deep, i_open, i_cells, i_points, i_part, i_length, i_knows, i_page, i_text, i_pats, i_fuel, i_fr, i_ink⟩, kSA_S5, (show -1 ≤ rv7.toInt ∧ rv7.toInt ≤ 16 ∧ (f_frames S5).toInt ≤ (f_frames S).toInt + 2 ∧ (rv7.toInt = -1 → ((a_kinds S5) 40).toInt = 11 → 1 ≤ (f_frames S5).toInt ∧ ((a_what S5) ((f_frames S5).toInt - 1).toNat).toInt ≤ 2) by first | exact ⟨by omega, by omega, by omega, fun q => by omega⟩ | (refine ⟨by omega, by omega, by omega, ?_⟩; exact (by assumption : _ ∧ _ ∧ _ ∧ _).2.2.2))⟩ hP hD d_Mo_operate_202
                    · have fc182_1 : p0.toInt < 43 := Int.not_le.mp (zt_nle tI_43 (show p0.toInt = _ from rfl) c182_1)
                      refine lv_aload_n hx hb d_Mo_operate_185 rfl (lv_at hl 4 rfl) ?_
                      refine lv_iload_n hx hb d_Mo_operate_186 rfl (lv_at hl 5 rfl) ?_
                      refine jm_ci (w := (fun u => u)) hK hP hD hS hA (va_runV (As := [.int p0]) (rest := []) F (m_arrayOperator l D T h0 ar S p0 H.size ⟨i_size, i_taken, i_vals, i_room, i_dicts, i_deep, i_open, i_cells, i_points, i_part, i_length, i_knows, i_page, i_text, i_pats, i_fuel, i_fr, i_ink⟩ (show 37 ≤ p0.toInt ∧ p0.toInt ≤ 42 by omega) (op_arr hop ho (by omega))) (j_cV (k := 1) (C := "PageScribeModel") hts k_8_11 k_1_12 k_8_8 k_8_10 k_0_118 (by decide +kernel) ⟨Nat.le_of_ble_eq_true rfl, Nat.le_of_ble_eq_true rfl⟩) (jm_pre hK hP hD) rfl rfl hl.1 rfl (lv_room (Nat.le_of_ble_eq_true rfl)) d_Mo_operate_187 ⟨Nat.le_of_ble_eq_true rfl, Nat.le_of_ble_eq_true rfl⟩) (fun rv8 S6 H locs hw8 hP hD hS => ?_)
                      have hP : va_P D classes (mW T h0 ar S6) H := hP
                      have hD : va_D A (mW T h0 ar S6) := hD
                      obtain ⟨⟨i_size, i_taken, i_vals, i_room, i_dicts, i_deep, i_open, i_cells, i_points, i_part, i_length, i_knows, i_page, i_text, i_pats, i_fuel, i_fr, i_ink⟩, kpA_S6, kpF_S6, qqhw8⟩ := hw8
                      have kSA_S6 : kA S S6 := kA_t (show kA S S from (kA_r S)) kpA_S6
                      have kSF_S6 : kF S S6 := kF_t (show kF S S from (kF_r S)) kpF_S6
                      have kST_S6 : kT S S6 := kT_t (show kT S S from (kT_r S)) (kT_A kpA_S6)
                      have nS6 : (f_frames S6).toInt = (f_frames S).toInt := congrArg Int32.toInt kSF_S6.1
                      have pS6 : (f_steps S6).toInt = (f_steps S).toInt := congrArg Int32.toInt kSA_S6.2.2.2.2.1
                      have wS6 : (f_fuel S6).toInt = (f_fuel S).toInt := congrArg Int32.toInt kSA_S6.2.2.2.1
                      have qhw8 : 0 ≤ rv8.toInt ∧ rv8.toInt ≤ 16 := qqhw8
                      exact j_iret F hr hlocks hK hS S6 ⟨⟨i_size, i_taken, i_vals, i_room, i_dicts, i_deep, i_open, i_cells, i_points, i_part, i_length, i_knows, i_page, i_text, i_pats, i_fuel, i_fr, i_ink⟩, kSA_S6, (show -1 ≤ rv8.toInt ∧ rv8.toInt ≤ 16 ∧ (f_frames S6).toInt ≤ (f_frames S).toInt + 2 ∧ (rv8.toInt = -1 → ((a_kinds S6) 40).toInt = 11 → 1 ≤ (f_frames S6).toInt ∧ ((a_what S6) ((f_frames S6).toInt - 1).toNat).toInt ≤ 2) by first | exact ⟨by omega, by omega, by omega, fun q => by omega⟩ | (refine ⟨by omega, by omega, by omega, ?_⟩; exact (by assumption : _ ∧ _ ∧ _ ∧ _).2.2.2))⟩ hP hD d_Mo_operate_190
                  · have fc170_1 : p0.toInt < 37 := Int.not_le.mp (zt_nle tI_37 (show p0.toInt = _ from rfl) c170_1)
                    refine lv_aload_n hx hb d_Mo_operate_173 rfl (lv_at hl 4 rfl) ?_
                    refine lv_iload_n hx hb d_Mo_operate_174 rfl (lv_at hl 5 rfl) ?_
                    refine jm_ci (w := (fun u => u)) hK hP hD hS hA (va_runV (As := [.int p0]) (rest := []) F (m_truth l D T h0 ar S p0 H.size ⟨i_size, i_taken, i_vals, i_room, i_dicts, i_deep, i_open, i_cells, i_points, i_part, i_length, i_knows, i_page, i_text, i_pats, i_fuel, i_fr, i_ink⟩ (show 21 ≤ p0.toInt ∧ p0.toInt ≤ 36 by omega) (op_tru hop (by omega)) (op_bit ho i_vals i_size)) (j_cV (k := 1) (C := "PageScribeModel") hts k_7_233 k_1_12 k_7_230 k_7_232 k_0_115 (by decide +kernel) ⟨Nat.le_of_ble_eq_true rfl, Nat.le_of_ble_eq_true rfl⟩) (jm_pre hK hP hD) rfl rfl hl.1 rfl (lv_room (Nat.le_of_ble_eq_true rfl)) d_Mo_operate_175 ⟨Nat.le_of_ble_eq_true rfl, Nat.le_of_ble_eq_true rfl⟩) (fun rv9 S7 H locs hw9 hP hD hS => ?_)
                    have hP : va_P D classes (mW T h0 ar S7) H := hP
                    have hD : va_D A (mW T h0 ar S7) := hD
                    obtain ⟨⟨i_size, i_taken, i_vals, i_room, i_dicts, i_deep, i_open, i_cells, i_points, i_part, i_length, i_knows, i_page, i_text, i_pats, i_fuel, i_fr, i_ink⟩, kpA_S7, kpF_S7, qqhw9⟩ := hw9
                    have kSA_S7 : kA S S7 := kA_t (show kA S S from (kA_r S)) kpA_S7
                    have kSF_S7 : kF S S7 := kF_t (show kF S S from (kF_r S)) kpF_S7
                    have kST_S7 : kT S S7 := kT_t (show kT S S from (kT_r S)) (kT_A kpA_S7)
                    have nS7 : (f_frames S7).toInt = (f_frames S).toInt := congrArg Int32.toInt kSF_S7.1
                    have pS7 : (f_steps S7).toInt = (f_steps S).toInt := congrArg Int32.toInt kSA_S7.2.2.2.2.1
                    have wS7 : (f_fuel S7).toInt = (f_fuel S).toInt := congrArg Int32.toInt kSA_S7.2.2.2.1
                    have qhw9 : rv9.toInt = 0 ∨ rv9.toInt = 2 := qqhw9
                    exact j_iret F hr hlocks hK hS S7 ⟨⟨i_size, i_taken, i_vals, i_room, i_dicts, i_deep, i_open, i_cells, i_points, i_part, i_length, i_knows, i_page, i_text, i_pats, i_fuel, i_fr, i_ink⟩, kSA_S7, (show -1 ≤ rv9.toInt ∧ rv9.toInt ≤ 16 ∧ (f_frames S7).toInt ≤ (f_frames S).toInt + 2 ∧ (rv9.toInt = -1 → ((a_kinds S7) 40).toInt = 11 → 1 ≤ (f_frames S7).toInt ∧ ((a_what S7) ((f_frames S7).toInt - 1).toNat).toInt ≤ 2) by first | exact ⟨by omega, by omega, by omega, fun q => by omega⟩ | (refine ⟨by omega, by omega, by omega, ?_⟩; exact (by assumption : _ ∧ _ ∧ _ ∧ _).2.2.2))⟩ hP hD d_Mo_operate_178
                · have fc144_1 : p0.toInt < 21 := Int.not_le.mp (zt_nle tI_21 (show p0.toInt = _ from rfl) c144_1)
                  refine lv_iload_n hx hb d_Mo_operate_147 rfl (lv_at hl 5 rfl) ?_
                  refine lv_bipush (v := 16) hx hb d_Mo_operate_148 (by decide) ?_
                  refine lv_icmp_ge (tgt := 161) hx hb d_Mo_operate_150 (by decide) (fun c150_1 => ?_) (fun c150_1 => ?_)
                  · have fc150_1 : 16 ≤ p0.toInt := zt_le tI_16 (show p0.toInt = _ from rfl) c150_1
                    refine lv_aload_n hx hb d_Mo_operate_161 rfl (lv_at hl 4 rfl) ?_
                    refine lv_iload_n hx hb d_Mo_operate_162 rfl (lv_at hl 5 rfl) ?_
                    refine jm_ci (w := (fun u => u)) hK hP hD hS hA (va_runV (As := [.int p0]) (rest := []) F (m_single l D T h0 ar S p0 H.size ⟨i_size, i_taken, i_vals, i_room, i_dicts, i_deep, i_open, i_cells, i_points, i_part, i_length, i_knows, i_page, i_text, i_pats, i_fuel, i_fr, i_ink⟩ (show 16 ≤ p0.toInt ∧ p0.toInt ≤ 20 by omega) (op_sin hop (by omega))) (j_cV (k := 1) (C := "PageScribeModel") hts k_7_225 k_1_12 k_7_222 k_7_224 k_0_114 (by decide +kernel) ⟨Nat.le_of_ble_eq_true rfl, Nat.le_of_ble_eq_true rfl⟩) (jm_pre hK hP hD) rfl rfl hl.1 rfl (lv_room (Nat.le_of_ble_eq_true rfl)) d_Mo_operate_163 ⟨Nat.le_of_ble_eq_true rfl, Nat.le_of_ble_eq_true rfl⟩) (fun rv10 S8 H locs hw10 hP hD hS => ?_)
                    have hP : va_P D classes (mW T h0 ar S8) H := hP
                    have hD : va_D A (mW T h0 ar S8) := hD
                    obtain ⟨⟨i_size, i_taken, i_vals, i_room, i_dicts, i_deep, i_open, i_cells, i_points, i_part, i_length, i_knows, i_page, i_text, i_pats, i_fuel, i_fr, i_ink⟩, kpA_S8, kpF_S8, qqhw10⟩ := hw10
                    have kSA_S8 : kA S S8 := kA_t (show kA S S from (kA_r S)) kpA_S8
                    have kSF_S8 : kF S S8 := kF_t (show kF S S from (kF_r S)) kpF_S8
                    have kST_S8 : kT S S8 := kT_t (show kT S S from (kT_r S)) (kT_A kpA_S8)
                    have nS8 : (f_frames S8).toInt = (f_frames S).toInt := congrArg Int32.toInt kSF_S8.1
                    have pS8 : (f_steps S8).toInt = (f_steps S).toInt := congrArg Int32.toInt kSA_S8.2.2.2.2.1
                    have wS8 : (f_fuel S8).toInt = (f_fuel S).toInt := congrArg Int32.toInt kSA_S8.2.2.2.1
                    have qhw10 : rv10.toInt = 0 ∨ rv10.toInt = 4 := qqhw10
                    exact j_iret F hr hlocks hK hS S8 ⟨⟨i_size, i_taken, i_vals, i_room, i_dicts, i_deep, i_open, i_cells, i_points, i_part, i_length, i_knows, i_page, i_text, i_pats, i_fuel, i_fr, i_ink⟩, kSA_S8, (show -1 ≤ rv10.toInt ∧ rv10.toInt ≤ 16 ∧ (f_frames S8).toInt ≤ (f_frames S).toInt + 2 ∧ (rv10.toInt = -1 → ((a_kinds S8) 40).toInt = 11 → 1 ≤ (f_frames S8).toInt ∧ ((a_what S8) ((f_frames S8).toInt - 1).toNat).toInt ≤ 2) by first | exact ⟨by omega, by omega, by omega, fun q => by omega⟩ | (refine ⟨by omega, by omega, by omega, ?_⟩; exact (by assumption : _ ∧ _ ∧ _ ∧ _).2.2.2))⟩ hP hD d_Mo_operate_166
                  · have fc150_1 : p0.toInt < 16 := Int.not_le.mp (zt_nle tI_16 (show p0.toInt = _ from rfl) c150_1)
                    refine lv_aload_n hx hb d_Mo_operate_153 rfl (lv_at hl 4 rfl) ?_
                    refine lv_iload_n hx hb d_Mo_operate_154 rfl (lv_at hl 5 rfl) ?_
                    refine jm_ci (w := (fun u => u)) hK hP hD hS hA (va_runV (As := [.int p0]) (rest := []) F (m_sum l D T h0 ar S p0 H.size ⟨i_size, i_taken, i_vals, i_room, i_dicts, i_deep, i_open, i_cells, i_points, i_part, i_length, i_knows, i_page, i_text, i_pats, i_fuel, i_fr, i_ink⟩ (show 10 ≤ p0.toInt ∧ p0.toInt ≤ 15 by omega) (op_sum hop (by omega))) (j_cV (k := 1) (C := "PageScribeModel") hts k_7_203 k_1_12 k_7_200 k_7_202 k_0_109 (by decide +kernel) ⟨Nat.le_of_ble_eq_true rfl, Nat.le_of_ble_eq_true rfl⟩) (jm_pre hK hP hD) rfl rfl hl.1 rfl (lv_room (Nat.le_of_ble_eq_true rfl)) d_Mo_operate_155 ⟨Nat.le_of_ble_eq_true rfl, Nat.le_of_ble_eq_true rfl⟩) (fun rv11 S9 H locs hw11 hP hD hS => ?_)
                    have hP : va_P D classes (mW T h0 ar S9) H := hP
                    have hD : va_D A (mW T h0 ar S9) := hD
                    obtain ⟨⟨i_size, i_taken, i_vals, i_room, i_dicts, i_deep, i_open, i_cells, i_points, i_part, i_length, i_knows, i_page, i_text, i_pats, i_fuel, i_fr, i_ink⟩, kpA_S9, kpF_S9, qqhw11⟩ := hw11
                    have kSA_S9 : kA S S9 := kA_t (show kA S S from (kA_r S)) kpA_S9
                    have kSF_S9 : kF S S9 := kF_t (show kF S S from (kF_r S)) kpF_S9
                    have kST_S9 : kT S S9 := kT_t (show kT S S from (kT_r S)) (kT_A kpA_S9)
                    have nS9 : (f_frames S9).toInt = (f_frames S).toInt := congrArg Int32.toInt kSF_S9.1
                    have pS9 : (f_steps S9).toInt = (f_steps S).toInt := congrArg Int32.toInt kSA_S9.2.2.2.2.1
                    have wS9 : (f_fuel S9).toInt = (f_fuel S).toInt := congrArg Int32.toInt kSA_S9.2.2.2.1
                    have qhw11 : rv11.toInt = 0 ∨ rv11.toInt = 4 ∨ rv11.toInt = 6 := qqhw11
                    refine lv_goto (tgt := 166) hx hb d_Mo_operate_158 (by decide) ?_
                    exact j_iret F hr hlocks hK hS S9 ⟨⟨i_size, i_taken, i_vals, i_room, i_dicts, i_deep, i_open, i_cells, i_points, i_part, i_length, i_knows, i_page, i_text, i_pats, i_fuel, i_fr, i_ink⟩, kSA_S9, (show -1 ≤ rv11.toInt ∧ rv11.toInt ≤ 16 ∧ (f_frames S9).toInt ≤ (f_frames S).toInt + 2 ∧ (rv11.toInt = -1 → ((a_kinds S9) 40).toInt = 11 → 1 ≤ (f_frames S9).toInt ∧ ((a_what S9) ((f_frames S9).toInt - 1).toNat).toInt ≤ 2) by first | exact ⟨by omega, by omega, by omega, fun q => by omega⟩ | (refine ⟨by omega, by omega, by omega, ?_⟩; exact (by assumption : _ ∧ _ ∧ _ ∧ _).2.2.2))⟩ hP hD d_Mo_operate_166
              · have fc132_1 : 69 < p0.toInt := Int.not_le.mp (zt_nle (show p0.toInt = _ from rfl) tI_69 c132_1)
                refine lv_aload_n hx hb d_Mo_operate_135 rfl (lv_at hl 4 rfl) ?_
                refine lv_iload_n hx hb d_Mo_operate_136 rfl (lv_at hl 5 rfl) ?_
                refine jm_ci (w := (fun u => u)) hK hP hD hS hA (va_runV (As := [.int p0]) (rest := []) F (m_stackOperator l D T h0 ar S p0 H.size ⟨i_size, i_taken, i_vals, i_room, i_dicts, i_deep, i_open, i_cells, i_points, i_part, i_length, i_knows, i_page, i_text, i_pats, i_fuel, i_fr, i_ink⟩ (show (0 ≤ p0.toInt ∧ p0.toInt ≤ 9) ∨ p0.toInt = 70 ∨ p0.toInt = 71 by omega) (op_stk hop (by omega))) (j_cV (k := 1) (C := "PageScribeModel") hts k_7_182 k_1_12 k_7_179 k_7_181 k_0_104 (by decide +kernel) ⟨Nat.le_of_ble_eq_true rfl, Nat.le_of_ble_eq_true rfl⟩) (jm_pre hK hP hD) rfl rfl hl.1 rfl (lv_room (Nat.le_of_ble_eq_true rfl)) d_Mo_operate_137 ⟨Nat.le_of_ble_eq_true rfl, Nat.le_of_ble_eq_true rfl⟩) (fun rv12 S10 H locs hw12 hP hD hS => ?_)
                have hP : va_P D classes (mW T h0 ar S10) H := hP
                have hD : va_D A (mW T h0 ar S10) := hD
                obtain ⟨⟨i_size, i_taken, i_vals, i_room, i_dicts, i_deep, i_open, i_cells, i_points, i_part, i_length, i_knows, i_page, i_text, i_pats, i_fuel, i_fr, i_ink⟩, kpA_S10, kpF_S10, qqhw12⟩ := hw12
                have kSA_S10 : kA S S10 := kA_t (show kA S S from (kA_r S)) kpA_S10
                have kSF_S10 : kF S S10 := kF_t (show kF S S from (kF_r S)) kpF_S10
                have kST_S10 : kT S S10 := kT_t (show kT S S from (kT_r S)) (kT_A kpA_S10)
                have nS10 : (f_frames S10).toInt = (f_frames S).toInt := congrArg Int32.toInt kSF_S10.1
                have pS10 : (f_steps S10).toInt = (f_steps S).toInt := congrArg Int32.toInt kSA_S10.2.2.2.2.1
                have wS10 : (f_fuel S10).toInt = (f_fuel S).toInt := congrArg Int32.toInt kSA_S10.2.2.2.1
                have qhw12 : 0 ≤ rv12.toInt ∧ rv12.toInt ≤ 16 := qqhw12
                exact j_iret F hr hlocks hK hS S10 ⟨⟨i_size, i_taken, i_vals, i_room, i_dicts, i_deep, i_open, i_cells, i_points, i_part, i_length, i_knows, i_page, i_text, i_pats, i_fuel, i_fr, i_ink⟩, kSA_S10, (show -1 ≤ rv12.toInt ∧ rv12.toInt ≤ 16 ∧ (f_frames S10).toInt ≤ (f_frames S).toInt + 2 ∧ (rv12.toInt = -1 → ((a_kinds S10) 40).toInt = 11 → 1 ≤ (f_frames S10).toInt ∧ ((a_what S10) ((f_frames S10).toInt - 1).toNat).toInt ≤ 2) by first | exact ⟨by omega, by omega, by omega, fun q => by omega⟩ | (refine ⟨by omega, by omega, by omega, ?_⟩; exact (by assumption : _ ∧ _ ∧ _ ∧ _).2.2.2))⟩ hP hD d_Mo_operate_140
          · have fc118_1 : rv2.toInt = 0 := zt_eq (show rv2.toInt = _ from rfl) tI_0 c118_1
            refine lv_iconst (v := 3) hx hb d_Mo_operate_121 (by decide) ?_
            exact j_iret F hr hlocks hK hS S ⟨⟨i_size, i_taken, i_vals, i_room, i_dicts, i_deep, i_open, i_cells, i_points, i_part, i_length, i_knows, i_page, i_text, i_pats, i_fuel, i_fr, i_ink⟩, (kA_r S), (show -1 ≤ (3 : Int32).toInt ∧ (3 : Int32).toInt ≤ 16 ∧ (f_frames S).toInt ≤ (f_frames S).toInt + 2 ∧ ((3 : Int32).toInt = -1 → ((a_kinds S) 40).toInt = 11 → 1 ≤ (f_frames S).toInt ∧ ((a_what S) ((f_frames S).toInt - 1).toNat).toInt ≤ 2) by have := tI_3; first | exact ⟨by omega, by omega, by omega, fun q => by omega⟩ | (refine ⟨by omega, by omega, by omega, ?_⟩; exact (by assumption : _ ∧ _ ∧ _ ∧ _).2.2.2))⟩ hP hD d_Mo_operate_122
      · have fc69_1 : 0 < t.toInt := Int.not_le.mp (zt_nle (show t.toInt = _ from rfl) tI_0 c69_1)
        refine j_joinH (α := Int32) (fun x H locs ls => (stP S g.toInt t.toInt i.toInt x.toInt) ∧ va_P D classes (mW T h0 ar S) H ∧ va_D A (mW T h0 ar S) ∧ va_S A s.heap H locs ∧ lv_has ls 6 [(5, .int i), (4, .int g), (3, .int j1), (2, .int t), (0, .ref h0), (1, .int p0)]) (fun x ls => F0 m 95 ls (.int x :: [])) (fun x H locs ls hI9 => ?_) (fun key2 => ?_)
        · obtain ⟨j2, rfl⟩ : ∃ z, z = x := ⟨_, rfl⟩
          obtain ⟨hj2, hP, hD, hS, hl⟩ := hI9
          have hj2 : stP S g.toInt t.toInt i.toInt j2.toInt := hj2
          have hP : va_P D classes (mW T h0 ar S) H := hP
          have hD : va_D A (mW T h0 ar S) := hD
          have hl : lv_has ls 6 [(5, .int i), (4, .int g), (3, .int j1), (2, .int t), (0, .ref h0), (1, .int p0)] := hl
          refine lv_istore (lv' := [(4, .int j2), (5, .int i), (3, .int j1), (2, .int t), (0, .ref h0), (1, .int p0)]) hx hb d_Mo_operate_95 hl (by decide) rfl (fun ls hl => ?_)
          refine lv_iload_n hx hb d_Mo_operate_97 rfl (lv_at hl 3 rfl) ?_
          refine lv_bipush (v := 10) hx hb d_Mo_operate_98 (by decide) ?_
          refine lv_idiv hx hb d_Mo_operate_100 (zt_n0 tI_10 (by omega)) ?_
          refine lv_topi (fun x2 ex2 => ?_)
          try have fx2 : x2.toInt = t.toInt / 10 := by rw [ex2]; exact zt_div (show t.toInt = _ from rfl) tI_10 (by omega) (by omega)
          refine lv_istore_n (lv' := [(2, .int x2), (4, .int j2), (5, .int i), (3, .int j1), (0, .ref h0), (1, .int p0)]) hx hb d_Mo_operate_101 rfl hl (by decide) rfl (fun ls hl => ?_)
          have hkk := opL_k hf1.1 (show 0 < t.toInt by omega) (by rw [← ep]; exact hp) hn
          refine lv_iinc (v := (i + (-1))) (lv' := [(5, .int (i + (-1))), (2, .int x2), (4, .int j2), (3, .int j1), (0, .ref h0), (1, .int p0)]) hx hb d_Mo_operate_102 hl (k := 2) rfl (by first | rfl | decide) (by decide) rfl (fun ls hl => ?_)
          obtain ⟨x3, ex3⟩ : ∃ z, z = (i + (-1)) := ⟨_, rfl⟩
          rw [← ex3] at hl
          have fx3 : x3.toInt = (i.toInt - 1) := by rw [ex3]; exact (zt_add (show i.toInt = _ from rfl) tI_m1 (by omega) (by omega)).trans (by omega)
          have hl : lv_has ls 6 [(5, .int x3), (2, .int x2), (4, .int j2), (3, .int j1), (0, .ref h0), (1, .int p0)] := hl
          refine lv_goto (tgt := 68) hx hb d_Mo_operate_105 (by decide) ?_
          exact ih (k - 1) (x2, j2, x3) _ _ _ (by omega) ⟨(show opL S (pat p0.toInt) x2.toInt j2.toInt x3.toInt ∧ 0 ≤ x2.toInt ∧ x2.toInt ≤ 1115 ∧ x2.toInt ≤ (((k - 1) : Nat) : Int) ∧ -1 ≤ x3.toInt ∧ x3.toInt ≤ 39 by first | exact ⟨opL_s hf1.1 (by omega) (by rw [← ep]; exact hp) hj2 (by omega) (by omega), by omega, by omega, by omega, by omega, by omega⟩ | exact ⟨opL_0 (by omega) (by omega) (by omega), by omega, by omega, by omega, by omega, by omega⟩), hP, hD, hS, lv_sub hl [0, 2, 3, 1, 4, 5] rfl⟩
        · refine lv_iload hx hb d_Mo_operate_72 (lv_at hl 1 rfl) ?_
          refine lv_if_eq (tgt := 94) hx hb d_Mo_operate_74 (by decide) (fun c74_1 => ?_) (fun c74_1 => ?_)
          · have fc74_1 : g.toInt = 0 := zt_eq (show g.toInt = _ from rfl) tI_0 c74_1
            refine lv_iconst (v := 0) hx hb d_Mo_operate_94 (by decide) ?_
            exact key2 (0 : Int32) _ _ _ ⟨(show stP S g.toInt t.toInt i.toInt (0 : Int32).toInt by have := tI_0; first | exact ⟨by omega, fun q => by omega⟩ | exact ⟨by omega, fun q => ⟨by have := hf1.1.1; omega, sq.resolve_right (by omega) |>.2⟩⟩), hP, hD, hS, lv_sub hl [0, 1, 2, 3, 4, 5] rfl⟩
          · have fc74_1 : ¬ g.toInt = 0 := zt_ne (show g.toInt = _ from rfl) tI_0 c74_1
            have hkk := opL_k hf1.1 (by omega) (by rw [← ep]; exact hp) hn
            refine lv_aload_n hx hb d_Mo_operate_77 rfl (lv_at hl 4 rfl) ?_
            refine lv_iload hx hb d_Mo_operate_78 (lv_at hl 0 rfl) ?_
            refine lv_iload_n hx hb d_Mo_operate_80 rfl (lv_at hl 3 rfl) ?_
            refine lv_bipush (v := 10) hx hb d_Mo_operate_81 (by decide) ?_
            refine lv_irem hx hb d_Mo_operate_83 (zt_n0 tI_10 (by omega)) ?_
            refine lv_topi (fun x4 ex4 => ?_)
            try have fx4 : x4.toInt = t.toInt % 10 := by rw [ex4]; exact zt_rem (show t.toInt = _ from rfl) tI_10 (by omega) (by omega)
            have kv1 : vOk ((a_kinds S) (i.toInt.toNat)) ((a_codes S) (i.toInt.toNat)) ((a_reals S) (i.toInt.toNat)) := i_vals (i.toInt.toNat) (by omega)
            have rkv1 := vk_rng kv1
            refine jm_ci (w := (fun _ => S)) hK hP hD hS hA (va_runV (As := [.int i, .int x4]) (rest := []) F (m_suits l D T h0 ar S i x4 H.size ⟨i_size, i_taken, i_vals, i_room, i_dicts, i_deep, i_open, i_cells, i_points, i_part, i_length, i_knows, i_page, i_text, i_pats, i_fuel, i_fr, i_ink⟩ (show 0 ≤ i.toInt ∧ i.toInt < 1300 by omega) (show 0 ≤ x4.toInt ∧ x4.toInt ≤ 9 by omega)) (j_cV (k := 2) (C := "PageScribeModel") hts k_7_162 k_1_12 k_7_159 k_7_161 k_0_99 (by decide +kernel) ⟨Nat.le_of_ble_eq_true rfl, Nat.le_of_ble_eq_true rfl⟩) (jm_pre hK hP hD) rfl rfl hl.1 rfl (lv_room (Nat.le_of_ble_eq_true rfl)) d_Mo_operate_84 ⟨Nat.le_of_ble_eq_true rfl, Nat.le_of_ble_eq_true rfl⟩) (fun rv13 u3 H locs hw13 hP hD hS => ?_)
            have hP : va_P D classes (mW T h0 ar S) H := hP
            have hD : va_D A (mW T h0 ar S) := hD
            have qhw13 : (rv13.toInt = 1 ∧ suitP x4.toInt ((a_kinds S) i.toInt.toNat).toInt) ∨ rv13.toInt = 0 := hw13
            have sq : (rv13.toInt = 1 ∧ suitP (t.toInt % 10) (a_kinds S i.toInt.toNat).toInt) ∨ rv13.toInt = 0 := by rw [← fx4]; exact qhw13
            refine lv_if_eq (tgt := 94) hx hb d_Mo_operate_87 (by decide) (fun c87_1 => ?_) (fun c87_1 => ?_)
            · have fc87_1 : rv13.toInt = 0 := zt_eq (show rv13.toInt = _ from rfl) tI_0 c87_1
              refine lv_iconst (v := 0) hx hb d_Mo_operate_94 (by decide) ?_
              exact key2 (0 : Int32) _ _ _ ⟨(show stP S g.toInt t.toInt i.toInt (0 : Int32).toInt by have := tI_0; first | exact ⟨by omega, fun q => by omega⟩ | exact ⟨by omega, fun q => ⟨by have := hf1.1.1; omega, sq.resolve_right (by omega) |>.2⟩⟩), hP, hD, hS, lv_sub hl [0, 1, 2, 3, 4, 5] rfl⟩
            · have fc87_1 : ¬ rv13.toInt = 0 := zt_ne (show rv13.toInt = _ from rfl) tI_0 c87_1
              refine lv_iconst (v := 1) hx hb d_Mo_operate_90 (by decide) ?_
              refine lv_goto (tgt := 95) hx hb d_Mo_operate_91 (by decide) ?_
              exact key2 (1 : Int32) _ _ _ ⟨(show stP S g.toInt t.toInt i.toInt (1 : Int32).toInt by have := tI_1; first | exact ⟨by omega, fun q => by omega⟩ | exact ⟨by omega, fun q => ⟨by have := hf1.1.1; omega, sq.resolve_right (by omega) |>.2⟩⟩), hP, hD, hS, lv_sub hl [0, 1, 2, 3, 4, 5] rfl⟩
    · have fc52_1 : (f_size S).toInt < j1.toInt := Int.not_le.mp (zt_nle (show j1.toInt = _ from rfl) (show (f_size S).toInt = _ from rfl) c52_1)
      refine lv_iconst (v := 1) hx hb d_Mo_operate_55 (by decide) ?_
      exact j_iret F hr hlocks hK hS S ⟨⟨i_size, i_taken, i_vals, i_room, i_dicts, i_deep, i_open, i_cells, i_points, i_part, i_length, i_knows, i_page, i_text, i_pats, i_fuel, i_fr, i_ink⟩, (kA_r S), (show -1 ≤ (1 : Int32).toInt ∧ (1 : Int32).toInt ≤ 16 ∧ (f_frames S).toInt ≤ (f_frames S).toInt + 2 ∧ ((1 : Int32).toInt = -1 → ((a_kinds S) 40).toInt = 11 → 1 ≤ (f_frames S).toInt ∧ ((a_what S) ((f_frames S).toInt - 1).toNat).toInt ≤ 2) by have := tI_1; first | exact ⟨by omega, by omega, by omega, fun q => by omega⟩ | (refine ⟨by omega, by omega, by omega, ?_⟩; exact (by assumption : _ ∧ _ ∧ _ ∧ _).2.2.2))⟩ hP hD d_Mo_operate_56
  · refine lv_iload_n hx hb d_Mo_operate_6 rfl (lv_at hl 0 rfl) ?_
    refine lv_if_ne (tgt := 14) hx hb d_Mo_operate_7 (by decide) (fun c7_1 => ?_) (fun c7_1 => ?_)
    · first | have fc7_1 : rv1.toInt < 0 := (by have := zt_ne (show rv1.toInt = _ from rfl) tI_0 c7_1; omega) | have fc7_1 : 0 < rv1.toInt := (by have := zt_ne (show rv1.toInt = _ from rfl) tI_0 c7_1; omega) | skip
      refine lv_iload_n hx hb d_Mo_operate_14 rfl (lv_at hl 0 rfl) ?_
      refine lv_bipush (v := 10) hx hb d_Mo_operate_15 (by decide) ?_
      refine lv_icmp_ge (tgt := 24) hx hb d_Mo_operate_17 (by decide) (fun c17_1 => ?_) (fun c17_1 => ?_)
      · have fc17_1 : 10 ≤ rv1.toInt := zt_le tI_10 (show rv1.toInt = _ from rfl) c17_1
        refine lv_iload_n hx hb d_Mo_operate_24 rfl (lv_at hl 0 rfl) ?_
        refine lv_bipush (v := 100) hx hb d_Mo_operate_25 (by decide) ?_
        refine lv_icmp_ge (tgt := 34) hx hb d_Mo_operate_27 (by decide) (fun c27_1 => ?_) (fun c27_1 => ?_)
        · have fc27_1 : 100 ≤ rv1.toInt := zt_le tI_100 (show rv1.toInt = _ from rfl) c27_1
          refine lv_iload_n hx hb d_Mo_operate_34 rfl (lv_at hl 0 rfl) ?_
          refine lv_sipush (v := 1000) hx hb d_Mo_operate_35 (by decide) ?_
          refine lv_icmp_ge (tgt := 45) hx hb d_Mo_operate_38 (by decide) (fun c38_1 => ?_) (fun c38_1 => ?_)
          · have fc38_1 : 1000 ≤ rv1.toInt := zt_le tI_1000 (show rv1.toInt = _ from rfl) c38_1
            refine lv_iconst (v := 4) hx hb d_Mo_operate_45 (by decide) ?_
            exact key1 (4 : Int32) _ _ _ ⟨(show (1 ≤ rv1.toInt → 1 ≤ (4 : Int32).toInt) ∧ (10 ≤ rv1.toInt → 2 ≤ (4 : Int32).toInt) ∧ (100 ≤ rv1.toInt → 3 ≤ (4 : Int32).toInt) ∧ (1000 ≤ rv1.toInt → 4 ≤ (4 : Int32).toInt) by have := tI_4; omega), hP, hD, hS, lv_sub hl [0, 1, 2] rfl⟩
          · have fc38_1 : rv1.toInt < 1000 := Int.not_le.mp (zt_nle tI_1000 (show rv1.toInt = _ from rfl) c38_1)
            refine lv_iconst (v := 3) hx hb d_Mo_operate_41 (by decide) ?_
            refine lv_goto (tgt := 46) hx hb d_Mo_operate_42 (by decide) ?_
            exact key1 (3 : Int32) _ _ _ ⟨(show (1 ≤ rv1.toInt → 1 ≤ (3 : Int32).toInt) ∧ (10 ≤ rv1.toInt → 2 ≤ (3 : Int32).toInt) ∧ (100 ≤ rv1.toInt → 3 ≤ (3 : Int32).toInt) ∧ (1000 ≤ rv1.toInt → 4 ≤ (3 : Int32).toInt) by have := tI_3; omega), hP, hD, hS, lv_sub hl [0, 1, 2] rfl⟩
        · have fc27_1 : rv1.toInt < 100 := Int.not_le.mp (zt_nle tI_100 (show rv1.toInt = _ from rfl) c27_1)
          refine lv_iconst (v := 2) hx hb d_Mo_operate_30 (by decide) ?_
          refine lv_goto (tgt := 46) hx hb d_Mo_operate_31 (by decide) ?_
          exact key1 (2 : Int32) _ _ _ ⟨(show (1 ≤ rv1.toInt → 1 ≤ (2 : Int32).toInt) ∧ (10 ≤ rv1.toInt → 2 ≤ (2 : Int32).toInt) ∧ (100 ≤ rv1.toInt → 3 ≤ (2 : Int32).toInt) ∧ (1000 ≤ rv1.toInt → 4 ≤ (2 : Int32).toInt) by have := tI_2; omega), hP, hD, hS, lv_sub hl [0, 1, 2] rfl⟩
      · have fc17_1 : rv1.toInt < 10 := Int.not_le.mp (zt_nle tI_10 (show rv1.toInt = _ from rfl) c17_1)
        refine lv_iconst (v := 1) hx hb d_Mo_operate_20 (by decide) ?_
        refine lv_goto (tgt := 46) hx hb d_Mo_operate_21 (by decide) ?_
        exact key1 (1 : Int32) _ _ _ ⟨(show (1 ≤ rv1.toInt → 1 ≤ (1 : Int32).toInt) ∧ (10 ≤ rv1.toInt → 2 ≤ (1 : Int32).toInt) ∧ (100 ≤ rv1.toInt → 3 ≤ (1 : Int32).toInt) ∧ (1000 ≤ rv1.toInt → 4 ≤ (1 : Int32).toInt) by have := tI_1; omega), hP, hD, hS, lv_sub hl [0, 1, 2] rfl⟩
    · have fc7_1 : rv1.toInt = 0 := zt_eq (show rv1.toInt = _ from rfl) tI_0 c7_1
      refine lv_iconst (v := 0) hx hb d_Mo_operate_10 (by decide) ?_
      refine lv_goto (tgt := 46) hx hb d_Mo_operate_11 (by decide) ?_
      exact key1 (0 : Int32) _ _ _ ⟨(show (1 ≤ rv1.toInt → 1 ≤ (0 : Int32).toInt) ∧ (10 ≤ rv1.toInt → 2 ≤ (0 : Int32).toInt) ∧ (100 ≤ rv1.toInt → 3 ≤ (0 : Int32).toInt) ∧ (1000 ≤ rv1.toInt → 4 ≤ (0 : Int32).toInt) by have := tI_0; omega), hP, hD, hS, lv_sub hl [0, 1, 2] rfl⟩
