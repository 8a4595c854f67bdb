theorem n_Stack : ∀ a, a < 4 → ∀ b, b < 4 → a ≠ b → (F_Stack a).2.1 ≠ (F_Stack b).2.1 := by decide +kernel
theorem t_Stack_ok : ∀ k, k < 4 → parseFieldDescriptor (F_Stack k).2.2.1 = some (t_Stack k) := by decide +kernel
theorem k_1_58 : Cond.laysFinal "PageScribe$Stack" "PageScribe$Row" "kinds" "[I" ∈ gw := gw_of (tb_1 (List.mem_of_getElem? (i := 58) (by decide +kernel))) (by decide +kernel)
theorem k_1_60 : Cond.laysFinal "PageScribe$Stack" "PageScribe$Row" "numbers" "[I" ∈ gw := gw_of (tb_1 (List.mem_of_getElem? (i := 60) (by decide +kernel))) (by decide +kernel)
theorem k_1_62 : Cond.laysFinal "PageScribe$Stack" "PageScribe$Row" "reals" "[D" ∈ gw := gw_of (tb_1 (List.mem_of_getElem? (i := 62) (by decide +kernel))) (by decide +kernel)
theorem k_1_64 : Cond.lays "PageScribe$Stack" "PageScribe$Row" "size" "I" ∈ gw := gw_of (tb_1 (List.mem_of_getElem? (i := 64) (by decide +kernel))) (by decide +kernel)
theorem i_Stack : ∀ w ∈ u_ws "PageScribe$Stack" F_Stack 4, w ∈ gw := List.forall_mem_cons.mpr ⟨k_1_58, List.forall_mem_cons.mpr ⟨k_1_60, List.forall_mem_cons.mpr ⟨k_1_62, List.forall_mem_cons.mpr ⟨k_1_64, List.forall_mem_nil _⟩⟩⟩⟩
theorem z_Stack : ∀ j, j < 4 → defaultValue (t_Stack j) = vp_V [.null, .null, .null, .int 0] j := by decide +kernel
theorem n_Words : ∀ a, a < 3 → ∀ b, b < 3 → a ≠ b → (F_Words a).2.1 ≠ (F_Words b).2.1 := by decide +kernel
theorem t_Words_ok : ∀ k, k < 3 → parseFieldDescriptor (F_Words k).2.2.1 = some (t_Words k) := by decide +kernel
theorem k_1_79 : Cond.laysFinal "PageScribe$Words" "PageScribe$Words" "letters" "[C" ∈ gw := gw_of (tb_1 (List.mem_of_getElem? (i := 79) (by decide +kernel))) (by decide +kernel)
theorem k_1_81 : Cond.laysFinal "PageScribe$Words" "PageScribe$Words" "lengths" "[I" ∈ gw := gw_of (tb_1 (List.mem_of_getElem? (i := 81) (by decide +kernel))) (by decide +kernel)
theorem k_1_83 : Cond.lays "PageScribe$Words" "PageScribe$Words" "count" "I" ∈ gw := gw_of (tb_1 (List.mem_of_getElem? (i := 83) (by decide +kernel))) (by decide +kernel)
theorem i_Words : ∀ w ∈ u_ws "PageScribe$Words" F_Words 3, w ∈ gw := List.forall_mem_cons.mpr ⟨k_1_79, List.forall_mem_cons.mpr ⟨k_1_81, List.forall_mem_cons.mpr ⟨k_1_83, List.forall_mem_nil _⟩⟩⟩
theorem z_Words : ∀ j, j < 3 → defaultValue (t_Words j) = vp_V [.null, .null, .int 0] j := by decide +kernel
theorem n_Memory : ∀ a, a < 8 → ∀ b, b < 8 → a ≠ b → (F_Memory a).2.1 ≠ (F_Memory b).2.1 := by decide +kernel
theorem t_Memory_ok : ∀ k, k < 8 → parseFieldDescriptor (F_Memory k).2.2.1 = some (t_Memory k) := by decide +kernel
theorem k_1_141 : Cond.laysFinal "PageScribe$Memory" "PageScribe$Memory" "stack" "LPageScribe$Stack;" ∈ gw := gw_of (tb_1 (List.mem_of_getElem? (i := 141) (by decide +kernel))) (by decide +kernel)
theorem k_1_143 : Cond.laysFinal "PageScribe$Memory" "PageScribe$Memory" "store" "LPageScribe$Store;" ∈ gw := gw_of (tb_1 (List.mem_of_getElem? (i := 143) (by decide +kernel))) (by decide +kernel)
theorem k_1_145 : Cond.laysFinal "PageScribe$Memory" "PageScribe$Memory" "scopes" "[I" ∈ gw := gw_of (tb_1 (List.mem_of_getElem? (i := 145) (by decide +kernel))) (by decide +kernel)
theorem k_1_147 : Cond.lays "PageScribe$Memory" "PageScribe$Memory" "scopeCount" "I" ∈ gw := gw_of (tb_1 (List.mem_of_getElem? (i := 147) (by decide +kernel))) (by decide +kernel)
theorem k_1_149 : Cond.laysFinal "PageScribe$Memory" "PageScribe$Memory" "kept" "[LPageScribe$Store;" ∈ gw := gw_of (tb_1 (List.mem_of_getElem? (i := 149) (by decide +kernel))) (by decide +kernel)
theorem k_1_151 : Cond.laysFinal "PageScribe$Memory" "PageScribe$Memory" "keptNumbers" "[I" ∈ gw := gw_of (tb_1 (List.mem_of_getElem? (i := 151) (by decide +kernel))) (by decide +kernel)
theorem k_1_153 : Cond.lays "PageScribe$Memory" "PageScribe$Memory" "openSaves" "I" ∈ gw := gw_of (tb_1 (List.mem_of_getElem? (i := 153) (by decide +kernel))) (by decide +kernel)
theorem k_1_155 : Cond.lays "PageScribe$Memory" "PageScribe$Memory" "savesMade" "I" ∈ gw := gw_of (tb_1 (List.mem_of_getElem? (i := 155) (by decide +kernel))) (by decide +kernel)
theorem i_Memory : ∀ w ∈ u_ws "PageScribe$Memory" F_Memory 8, w ∈ gw := List.forall_mem_cons.mpr ⟨k_1_141, List.forall_mem_cons.mpr ⟨k_1_143, List.forall_mem_cons.mpr ⟨k_1_145, List.forall_mem_cons.mpr ⟨k_1_147, List.forall_mem_cons.mpr ⟨k_1_149, List.forall_mem_cons.mpr ⟨k_1_151, List.forall_mem_cons.mpr ⟨k_1_153, List.forall_mem_cons.mpr ⟨k_1_155, List.forall_mem_nil _⟩⟩⟩⟩⟩⟩⟩⟩
theorem z_Memory : ∀ j, j < 8 → defaultValue (t_Memory j) = vp_V [.null, .null, .null, .int 0, .null, .null, .int 0, .int 0] j := by decide +kernel
theorem n_Store : ∀ a, a < 5 → ∀ b, b < 5 → a ≠ b → (F_Store a).2.1 ≠ (F_Store b).2.1 := by decide +kernel
theorem t_Store_ok : ∀ k, k < 5 → parseFieldDescriptor (F_Store k).2.2.1 = some (t_Store k) := by decide +kernel
theorem k_1_117 : Cond.laysFinal "PageScribe$Store" "PageScribe$Store" "cells" "LPageScribe$Row;" ∈ gw := gw_of (tb_1 (List.mem_of_getElem? (i := 117) (by decide +kernel))) (by decide +kernel)
theorem k_1_119 : Cond.laysFinal "PageScribe$Store" "PageScribe$Store" "rooms" "[I" ∈ gw := gw_of (tb_1 (List.mem_of_getElem? (i := 119) (by decide +kernel))) (by decide +kernel)
theorem k_1_121 : Cond.laysFinal "PageScribe$Store" "PageScribe$Store" "counts" "[I" ∈ gw := gw_of (tb_1 (List.mem_of_getElem? (i := 121) (by decide +kernel))) (by decide +kernel)
theorem k_1_123 : Cond.laysFinal "PageScribe$Store" "PageScribe$Store" "names" "[I" ∈ gw := gw_of (tb_1 (List.mem_of_getElem? (i := 123) (by decide +kernel))) (by decide +kernel)
theorem k_1_125 : Cond.laysFinal "PageScribe$Store" "PageScribe$Store" "values" "LPageScribe$Row;" ∈ gw := gw_of (tb_1 (List.mem_of_getElem? (i := 125) (by decide +kernel))) (by decide +kernel)
theorem i_Store : ∀ w ∈ u_ws "PageScribe$Store" F_Store 5, w ∈ gw := List.forall_mem_cons.mpr ⟨k_1_117, List.forall_mem_cons.mpr ⟨k_1_119, List.forall_mem_cons.mpr ⟨k_1_121, List.forall_mem_cons.mpr ⟨k_1_123, List.forall_mem_cons.mpr ⟨k_1_125, List.forall_mem_nil _⟩⟩⟩⟩⟩
theorem z_Store : ∀ j, j < 5 → defaultValue (t_Store j) = vp_V [.null, .null, .null, .null, .null] j := by decide +kernel
theorem n_Row : ∀ a, a < 4 → ∀ b, b < 4 → a ≠ b → (F_Row a).2.1 ≠ (F_Row b).2.1 := by decide +kernel
theorem t_Row_ok : ∀ k, k < 4 → parseFieldDescriptor (F_Row k).2.2.1 = some (t_Row k) := by decide +kernel
theorem k_1_102 : Cond.laysFinal "PageScribe$Row" "PageScribe$Row" "kinds" "[I" ∈ gw := gw_of (tb_1 (List.mem_of_getElem? (i := 102) (by decide +kernel))) (by decide +kernel)
theorem k_1_103 : Cond.laysFinal "PageScribe$Row" "PageScribe$Row" "numbers" "[I" ∈ gw := gw_of (tb_1 (List.mem_of_getElem? (i := 103) (by decide +kernel))) (by decide +kernel)
theorem k_1_104 : Cond.laysFinal "PageScribe$Row" "PageScribe$Row" "reals" "[D" ∈ gw := gw_of (tb_1 (List.mem_of_getElem? (i := 104) (by decide +kernel))) (by decide +kernel)
theorem k_1_105 : Cond.lays "PageScribe$Row" "PageScribe$Row" "size" "I" ∈ gw := gw_of (tb_1 (List.mem_of_getElem? (i := 105) (by decide +kernel))) (by decide +kernel)
theorem i_Row : ∀ w ∈ u_ws "PageScribe$Row" F_Row 4, w ∈ gw := List.forall_mem_cons.mpr ⟨k_1_102, List.forall_mem_cons.mpr ⟨k_1_103, List.forall_mem_cons.mpr ⟨k_1_104, List.forall_mem_cons.mpr ⟨k_1_105, List.forall_mem_nil _⟩⟩⟩⟩
theorem z_Row : ∀ j, j < 4 → defaultValue (t_Row j) = vp_V [.null, .null, .null, .int 0] j := by decide +kernel
theorem n_Reader : ∀ a, a < 10 → ∀ b, b < 10 → a ≠ b → (F_Reader a).2.1 ≠ (F_Reader b).2.1 := by decide +kernel
theorem t_Reader_ok : ∀ k, k < 10 → parseFieldDescriptor (F_Reader k).2.2.1 = some (t_Reader k) := by decide +kernel
theorem k_1_180 : Cond.laysFinal "PageScribe$Reader" "PageScribe$Reader" "words" "LPageScribe$Words;" ∈ gw := gw_of (tb_1 (List.mem_of_getElem? (i := 180) (by decide +kernel))) (by decide +kernel)
theorem k_1_182 : Cond.laysFinal "PageScribe$Reader" "PageScribe$Reader" "store" "LPageScribe$Store;" ∈ gw := gw_of (tb_1 (List.mem_of_getElem? (i := 182) (by decide +kernel))) (by decide +kernel)
theorem k_1_184 : Cond.laysFinal "PageScribe$Reader" "PageScribe$Reader" "text" "[C" ∈ gw := gw_of (tb_1 (List.mem_of_getElem? (i := 184) (by decide +kernel))) (by decide +kernel)
theorem k_1_186 : Cond.lays "PageScribe$Reader" "PageScribe$Reader" "length" "I" ∈ gw := gw_of (tb_1 (List.mem_of_getElem? (i := 186) (by decide +kernel))) (by decide +kernel)
theorem k_1_188 : Cond.lays "PageScribe$Reader" "PageScribe$Reader" "place" "I" ∈ gw := gw_of (tb_1 (List.mem_of_getElem? (i := 188) (by decide +kernel))) (by decide +kernel)
theorem k_1_190 : Cond.lays "PageScribe$Reader" "PageScribe$Reader" "tokenKind" "I" ∈ gw := gw_of (tb_1 (List.mem_of_getElem? (i := 190) (by decide +kernel))) (by decide +kernel)
theorem k_1_192 : Cond.lays "PageScribe$Reader" "PageScribe$Reader" "tokenNumber" "I" ∈ gw := gw_of (tb_1 (List.mem_of_getElem? (i := 192) (by decide +kernel))) (by decide +kernel)
theorem k_1_194 : Cond.lays "PageScribe$Reader" "PageScribe$Reader" "tokenReal" "D" ∈ gw := gw_of (tb_1 (List.mem_of_getElem? (i := 194) (by decide +kernel))) (by decide +kernel)
theorem k_1_196 : Cond.laysFinal "PageScribe$Reader" "PageScribe$Reader" "gathered" "LPageScribe$Row;" ∈ gw := gw_of (tb_1 (List.mem_of_getElem? (i := 196) (by decide +kernel))) (by decide +kernel)
theorem k_1_198 : Cond.laysFinal "PageScribe$Reader" "PageScribe$Reader" "begins" "[I" ∈ gw := gw_of (tb_1 (List.mem_of_getElem? (i := 198) (by decide +kernel))) (by decide +kernel)
theorem i_Reader : ∀ w ∈ u_ws "PageScribe$Reader" F_Reader 10, w ∈ gw := List.forall_mem_cons.mpr ⟨k_1_180, List.forall_mem_cons.mpr ⟨k_1_182, List.forall_mem_cons.mpr ⟨k_1_184, List.forall_mem_cons.mpr ⟨k_1_186, List.forall_mem_cons.mpr ⟨k_1_188, List.forall_mem_cons.mpr ⟨k_1_190, List.forall_mem_cons.mpr ⟨k_1_192, List.forall_mem_cons.mpr ⟨k_1_194, List.forall_mem_cons.mpr ⟨k_1_196, List.forall_mem_cons.mpr ⟨k_1_198, List.forall_mem_nil _⟩⟩⟩⟩⟩⟩⟩⟩⟩⟩
theorem z_Reader : ∀ j, j < 10 → defaultValue (t_Reader j) = vp_V [.null, .null, .null, .int 0, .int 0, .int 0, .int 0, .double 0, .null, .null] j := by decide +kernel
theorem n_Canvas : ∀ a, a < 9 → ∀ b, b < 9 → a ≠ b → (F_Canvas a).2.1 ≠ (F_Canvas b).2.1 := by decide +kernel
theorem t_Canvas_ok : ∀ k, k < 9 → parseFieldDescriptor (F_Canvas k).2.2.1 = some (t_Canvas k) := by decide +kernel
theorem k_1_217 : Cond.laysFinal "PageScribe$Canvas" "PageScribe$Canvas" "stack" "LPageScribe$Stack;" ∈ gw := gw_of (tb_1 (List.mem_of_getElem? (i := 217) (by decide +kernel))) (by decide +kernel)
theorem k_1_219 : Cond.laysFinal "PageScribe$Canvas" "PageScribe$Canvas" "columns" "I" ∈ gw := gw_of (tb_1 (List.mem_of_getElem? (i := 219) (by decide +kernel))) (by decide +kernel)
theorem k_1_221 : Cond.laysFinal "PageScribe$Canvas" "PageScribe$Canvas" "rows" "I" ∈ gw := gw_of (tb_1 (List.mem_of_getElem? (i := 221) (by decide +kernel))) (by decide +kernel)
theorem k_1_223 : Cond.laysFinal "PageScribe$Canvas" "PageScribe$Canvas" "levels" "[I" ∈ gw := gw_of (tb_1 (List.mem_of_getElem? (i := 223) (by decide +kernel))) (by decide +kernel)
theorem k_1_225 : Cond.lays "PageScribe$Canvas" "PageScribe$Canvas" "gray" "F" ∈ gw := gw_of (tb_1 (List.mem_of_getElem? (i := 225) (by decide +kernel))) (by decide +kernel)
theorem k_1_227 : Cond.laysFinal "PageScribe$Canvas" "PageScribe$Canvas" "across" "[D" ∈ gw := gw_of (tb_1 (List.mem_of_getElem? (i := 227) (by decide +kernel))) (by decide +kernel)
theorem k_1_229 : Cond.laysFinal "PageScribe$Canvas" "PageScribe$Canvas" "along" "[D" ∈ gw := gw_of (tb_1 (List.mem_of_getElem? (i := 229) (by decide +kernel))) (by decide +kernel)
theorem k_1_231 : Cond.laysFinal "PageScribe$Canvas" "PageScribe$Canvas" "begins" "[I" ∈ gw := gw_of (tb_1 (List.mem_of_getElem? (i := 231) (by decide +kernel))) (by decide +kernel)
theorem k_1_233 : Cond.lays "PageScribe$Canvas" "PageScribe$Canvas" "points" "I" ∈ gw := gw_of (tb_1 (List.mem_of_getElem? (i := 233) (by decide +kernel))) (by decide +kernel)
theorem i_Canvas : ∀ w ∈ u_ws "PageScribe$Canvas" F_Canvas 9, w ∈ gw := List.forall_mem_cons.mpr ⟨k_1_217, List.forall_mem_cons.mpr ⟨k_1_219, List.forall_mem_cons.mpr ⟨k_1_221, List.forall_mem_cons.mpr ⟨k_1_223, List.forall_mem_cons.mpr ⟨k_1_225, List.forall_mem_cons.mpr ⟨k_1_227, List.forall_mem_cons.mpr ⟨k_1_229, List.forall_mem_cons.mpr ⟨k_1_231, List.forall_mem_cons.mpr ⟨k_1_233, List.forall_mem_nil _⟩⟩⟩⟩⟩⟩⟩⟩⟩
theorem z_Canvas : ∀ j, j < 9 → defaultValue (t_Canvas j) = vp_V [.null, .int 0, .int 0, .null, .float 0, .null, .null, .null, .int 0] j := by decide +kernel
theorem n_Engine : ∀ a, a < 11 → ∀ b, b < 11 → a ≠ b → (F_Engine a).2.1 ≠ (F_Engine b).2.1 := by decide +kernel
theorem t_Engine_ok : ∀ k, k < 11 → parseFieldDescriptor (F_Engine k).2.2.1 = some (t_Engine k) := by decide +kernel
theorem k_2_35 : Cond.laysFinal "PageScribe$Engine" "PageScribe$Engine" "stack" "LPageScribe$Stack;" ∈ gw := gw_of (tb_2 (List.mem_of_getElem? (i := 35) (by decide +kernel))) (by decide +kernel)
theorem k_2_37 : Cond.laysFinal "PageScribe$Engine" "PageScribe$Engine" "memory" "LPageScribe$Memory;" ∈ gw := gw_of (tb_2 (List.mem_of_getElem? (i := 37) (by decide +kernel))) (by decide +kernel)
theorem k_2_39 : Cond.laysFinal "PageScribe$Engine" "PageScribe$Engine" "canvas" "LPageScribe$Canvas;" ∈ gw := gw_of (tb_2 (List.mem_of_getElem? (i := 39) (by decide +kernel))) (by decide +kernel)
theorem k_2_41 : Cond.laysFinal "PageScribe$Engine" "PageScribe$Engine" "sums" "LPageScribe$Sums;" ∈ gw := gw_of (tb_2 (List.mem_of_getElem? (i := 41) (by decide +kernel))) (by decide +kernel)
theorem k_2_43 : Cond.laysFinal "PageScribe$Engine" "PageScribe$Engine" "truths" "LPageScribe$Truths;" ∈ gw := gw_of (tb_2 (List.mem_of_getElem? (i := 43) (by decide +kernel))) (by decide +kernel)
theorem k_2_45 : Cond.lays "PageScribe$Engine" "PageScribe$Engine" "fuelGiven" "I" ∈ gw := gw_of (tb_2 (List.mem_of_getElem? (i := 45) (by decide +kernel))) (by decide +kernel)
theorem k_2_47 : Cond.lays "PageScribe$Engine" "PageScribe$Engine" "stepsDone" "I" ∈ gw := gw_of (tb_2 (List.mem_of_getElem? (i := 47) (by decide +kernel))) (by decide +kernel)
theorem k_2_49 : Cond.lays "PageScribe$Engine" "PageScribe$Engine" "latestFault" "I" ∈ gw := gw_of (tb_2 (List.mem_of_getElem? (i := 49) (by decide +kernel))) (by decide +kernel)
theorem k_2_51 : Cond.lays "PageScribe$Engine" "PageScribe$Engine" "underWay" "I" ∈ gw := gw_of (tb_2 (List.mem_of_getElem? (i := 51) (by decide +kernel))) (by decide +kernel)
theorem k_2_53 : Cond.lays "PageScribe$Engine" "PageScribe$Engine" "reach" "I" ∈ gw := gw_of (tb_2 (List.mem_of_getElem? (i := 53) (by decide +kernel))) (by decide +kernel)
theorem k_2_55 : Cond.lays "PageScribe$Engine" "PageScribe$Engine" "loops" "I" ∈ gw := gw_of (tb_2 (List.mem_of_getElem? (i := 55) (by decide +kernel))) (by decide +kernel)
theorem i_Engine : ∀ w ∈ u_ws "PageScribe$Engine" F_Engine 11, w ∈ gw := List.forall_mem_cons.mpr ⟨k_2_35, List.forall_mem_cons.mpr ⟨k_2_37, List.forall_mem_cons.mpr ⟨k_2_39, List.forall_mem_cons.mpr ⟨k_2_41, List.forall_mem_cons.mpr ⟨k_2_43, List.forall_mem_cons.mpr ⟨k_2_45, List.forall_mem_cons.mpr ⟨k_2_47, List.forall_mem_cons.mpr ⟨k_2_49, List.forall_mem_cons.mpr ⟨k_2_51, List.forall_mem_cons.mpr ⟨k_2_53, List.forall_mem_cons.mpr ⟨k_2_55, List.forall_mem_nil _⟩⟩⟩⟩⟩⟩⟩⟩⟩⟩⟩
theorem z_Engine : ∀ j, j < 11 → defaultValue (t_Engine j) = vp_V [.null, .null, .null, .null, .null, .int 0, .int 0, .int 0, .int 0, .int 0, .int 0] j := by decide +kernel
theorem n_Sums : ∀ a, a < 1 → ∀ b, b < 1 → a ≠ b → (F_Sums a).2.1 ≠ (F_Sums b).2.1 := by decide +kernel
theorem t_Sums_ok : ∀ k, k < 1 → parseFieldDescriptor (F_Sums k).2.2.1 = some (t_Sums k) := by decide +kernel
theorem k_2_9 : Cond.laysFinal "PageScribe$Sums" "PageScribe$Sums" "stack" "LPageScribe$Stack;" ∈ gw := gw_of (tb_2 (List.mem_of_getElem? (i := 9) (by decide +kernel))) (by decide +kernel)
theorem i_Sums : ∀ w ∈ u_ws "PageScribe$Sums" F_Sums 1, w ∈ gw := List.forall_mem_cons.mpr ⟨k_2_9, List.forall_mem_nil _⟩
theorem z_Sums : ∀ j, j < 1 → defaultValue (t_Sums j) = vp_V [.null] j := by decide +kernel
theorem n_Truths : ∀ a, a < 1 → ∀ b, b < 1 → a ≠ b → (F_Truths a).2.1 ≠ (F_Truths b).2.1 := by decide +kernel
theorem t_Truths_ok : ∀ k, k < 1 → parseFieldDescriptor (F_Truths k).2.2.1 = some (t_Truths k) := by decide +kernel
theorem k_2_19 : Cond.laysFinal "PageScribe$Truths" "PageScribe$Truths" "stack" "LPageScribe$Stack;" ∈ gw := gw_of (tb_2 (List.mem_of_getElem? (i := 19) (by decide +kernel))) (by decide +kernel)
theorem i_Truths : ∀ w ∈ u_ws "PageScribe$Truths" F_Truths 1, w ∈ gw := List.forall_mem_cons.mpr ⟨k_2_19, List.forall_mem_nil _⟩
theorem z_Truths : ∀ j, j < 1 → defaultValue (t_Truths j) = vp_V [.null] j := by decide +kernel
theorem n_Ps : ∀ a, a < 6 → ∀ b, b < 6 → a ≠ b → (F_Ps a).2.1 ≠ (F_Ps b).2.1 := by decide +kernel
theorem t_Ps_ok : ∀ k, k < 6 → parseFieldDescriptor (F_Ps k).2.2.1 = some (t_Ps k) := by decide +kernel
theorem k_2_64 : Cond.laysFinal "PageScribe" "PageScribe" "stack" "LPageScribe$Stack;" ∈ gw := gw_of (tb_2 (List.mem_of_getElem? (i := 64) (by decide +kernel))) (by decide +kernel)
theorem k_2_66 : Cond.laysFinal "PageScribe" "PageScribe" "words" "LPageScribe$Words;" ∈ gw := gw_of (tb_2 (List.mem_of_getElem? (i := 66) (by decide +kernel))) (by decide +kernel)
theorem k_2_68 : Cond.laysFinal "PageScribe" "PageScribe" "memory" "LPageScribe$Memory;" ∈ gw := gw_of (tb_2 (List.mem_of_getElem? (i := 68) (by decide +kernel))) (by decide +kernel)
theorem k_2_70 : Cond.laysFinal "PageScribe" "PageScribe" "reader" "LPageScribe$Reader;" ∈ gw := gw_of (tb_2 (List.mem_of_getElem? (i := 70) (by decide +kernel))) (by decide +kernel)
theorem k_2_72 : Cond.laysFinal "PageScribe" "PageScribe" "canvas" "LPageScribe$Canvas;" ∈ gw := gw_of (tb_2 (List.mem_of_getElem? (i := 72) (by decide +kernel))) (by decide +kernel)
theorem k_2_74 : Cond.laysFinal "PageScribe" "PageScribe" "engine" "LPageScribe$Engine;" ∈ gw := gw_of (tb_2 (List.mem_of_getElem? (i := 74) (by decide +kernel))) (by decide +kernel)
theorem i_Ps : ∀ w ∈ u_ws "PageScribe" F_Ps 6, w ∈ gw := List.forall_mem_cons.mpr ⟨k_2_64, List.forall_mem_cons.mpr ⟨k_2_66, List.forall_mem_cons.mpr ⟨k_2_68, List.forall_mem_cons.mpr ⟨k_2_70, List.forall_mem_cons.mpr ⟨k_2_72, List.forall_mem_cons.mpr ⟨k_2_74, List.forall_mem_nil _⟩⟩⟩⟩⟩⟩
theorem z_Ps : ∀ j, j < 6 → defaultValue (t_Ps j) = vp_V [.null, .null, .null, .null, .null, .null] j := by decide +kernel
theorem n_Mo : ∀ a, a < 45 → ∀ b, b < 45 → a ≠ b → (F_Mo a).2.1 ≠ (F_Mo b).2.1 := by decide +kernel
theorem t_Mo_ok : ∀ k, k < 45 → parseFieldDescriptor (F_Mo k).2.2.1 = some (t_Mo k) := by decide +kernel
theorem k_6_205 : Cond.lays "PageScribeModel" "PageScribeModel" "thrown" "I" ∈ gw := gw_of (tb_6 (List.mem_of_getElem? (i := 205) (by decide +kernel))) (by decide +kernel)
theorem k_6_207 : Cond.laysFinal "PageScribeModel" "PageScribeModel" "kinds" "[I" ∈ gw := gw_of (tb_6 (List.mem_of_getElem? (i := 207) (by decide +kernel))) (by decide +kernel)
theorem k_6_209 : Cond.laysFinal "PageScribeModel" "PageScribeModel" "codes" "[J" ∈ gw := gw_of (tb_6 (List.mem_of_getElem? (i := 209) (by decide +kernel))) (by decide +kernel)
theorem k_6_211 : Cond.laysFinal "PageScribeModel" "PageScribeModel" "reals" "[D" ∈ gw := gw_of (tb_6 (List.mem_of_getElem? (i := 211) (by decide +kernel))) (by decide +kernel)
theorem k_6_213 : Cond.lays "PageScribeModel" "PageScribeModel" "size" "I" ∈ gw := gw_of (tb_6 (List.mem_of_getElem? (i := 213) (by decide +kernel))) (by decide +kernel)
theorem k_6_215 : Cond.lays "PageScribeModel" "PageScribeModel" "taken" "I" ∈ gw := gw_of (tb_6 (List.mem_of_getElem? (i := 215) (by decide +kernel))) (by decide +kernel)
theorem k_6_217 : Cond.laysFinal "PageScribeModel" "PageScribeModel" "words" "[J" ∈ gw := gw_of (tb_6 (List.mem_of_getElem? (i := 217) (by decide +kernel))) (by decide +kernel)
theorem k_6_219 : Cond.laysFinal "PageScribeModel" "PageScribeModel" "many" "[I" ∈ gw := gw_of (tb_6 (List.mem_of_getElem? (i := 219) (by decide +kernel))) (by decide +kernel)
theorem k_6_221 : Cond.laysFinal "PageScribeModel" "PageScribeModel" "room" "[I" ∈ gw := gw_of (tb_6 (List.mem_of_getElem? (i := 221) (by decide +kernel))) (by decide +kernel)
theorem k_6_223 : Cond.laysFinal "PageScribeModel" "PageScribeModel" "dicts" "[I" ∈ gw := gw_of (tb_6 (List.mem_of_getElem? (i := 223) (by decide +kernel))) (by decide +kernel)
theorem k_6_225 : Cond.lays "PageScribeModel" "PageScribeModel" "deep" "I" ∈ gw := gw_of (tb_6 (List.mem_of_getElem? (i := 225) (by decide +kernel))) (by decide +kernel)
theorem k_6_227 : Cond.lays "PageScribeModel" "PageScribeModel" "saves" "I" ∈ gw := gw_of (tb_6 (List.mem_of_getElem? (i := 227) (by decide +kernel))) (by decide +kernel)
theorem k_6_229 : Cond.lays "PageScribeModel" "PageScribeModel" "open" "I" ∈ gw := gw_of (tb_6 (List.mem_of_getElem? (i := 229) (by decide +kernel))) (by decide +kernel)
theorem k_6_231 : Cond.laysFinal "PageScribeModel" "PageScribeModel" "numbers" "[I" ∈ gw := gw_of (tb_6 (List.mem_of_getElem? (i := 231) (by decide +kernel))) (by decide +kernel)
theorem k_6_233 : Cond.laysFinal "PageScribeModel" "PageScribeModel" "cells" "[I" ∈ gw := gw_of (tb_6 (List.mem_of_getElem? (i := 233) (by decide +kernel))) (by decide +kernel)
theorem k_6_235 : Cond.lays "PageScribeModel" "PageScribeModel" "frames" "I" ∈ gw := gw_of (tb_6 (List.mem_of_getElem? (i := 235) (by decide +kernel))) (by decide +kernel)
theorem k_6_237 : Cond.lays "PageScribeModel" "PageScribeModel" "under" "I" ∈ gw := gw_of (tb_6 (List.mem_of_getElem? (i := 237) (by decide +kernel))) (by decide +kernel)
theorem k_6_239 : Cond.laysFinal "PageScribeModel" "PageScribeModel" "what" "[I" ∈ gw := gw_of (tb_6 (List.mem_of_getElem? (i := 239) (by decide +kernel))) (by decide +kernel)
theorem k_7_1 : Cond.laysFinal "PageScribeModel" "PageScribeModel" "array" "[J" ∈ gw := gw_of (tb_7 (List.mem_of_getElem? (i := 1) (by decide +kernel))) (by decide +kernel)
theorem k_7_3 : Cond.laysFinal "PageScribeModel" "PageScribeModel" "far" "[I" ∈ gw := gw_of (tb_7 (List.mem_of_getElem? (i := 3) (by decide +kernel))) (by decide +kernel)
theorem k_7_5 : Cond.laysFinal "PageScribeModel" "PageScribeModel" "value" "[J" ∈ gw := gw_of (tb_7 (List.mem_of_getElem? (i := 5) (by decide +kernel))) (by decide +kernel)
theorem k_7_7 : Cond.laysFinal "PageScribeModel" "PageScribeModel" "grows" "[J" ∈ gw := gw_of (tb_7 (List.mem_of_getElem? (i := 7) (by decide +kernel))) (by decide +kernel)
theorem k_7_9 : Cond.laysFinal "PageScribeModel" "PageScribeModel" "last" "[J" ∈ gw := gw_of (tb_7 (List.mem_of_getElem? (i := 9) (by decide +kernel))) (by decide +kernel)
theorem k_7_11 : Cond.laysFinal "PageScribeModel" "PageScribeModel" "text" "[C" ∈ gw := gw_of (tb_7 (List.mem_of_getElem? (i := 11) (by decide +kernel))) (by decide +kernel)
theorem k_7_13 : Cond.lays "PageScribeModel" "PageScribeModel" "length" "I" ∈ gw := gw_of (tb_7 (List.mem_of_getElem? (i := 13) (by decide +kernel))) (by decide +kernel)
theorem k_7_15 : Cond.lays "PageScribeModel" "PageScribeModel" "at" "I" ∈ gw := gw_of (tb_7 (List.mem_of_getElem? (i := 15) (by decide +kernel))) (by decide +kernel)
theorem k_7_17 : Cond.lays "PageScribeModel" "PageScribeModel" "pending" "I" ∈ gw := gw_of (tb_7 (List.mem_of_getElem? (i := 17) (by decide +kernel))) (by decide +kernel)
theorem k_7_19 : Cond.lays "PageScribeModel" "PageScribeModel" "level" "I" ∈ gw := gw_of (tb_7 (List.mem_of_getElem? (i := 19) (by decide +kernel))) (by decide +kernel)
theorem k_7_21 : Cond.laysFinal "PageScribeModel" "PageScribeModel" "starts" "[I" ∈ gw := gw_of (tb_7 (List.mem_of_getElem? (i := 21) (by decide +kernel))) (by decide +kernel)
theorem k_7_23 : Cond.laysFinal "PageScribeModel" "PageScribeModel" "known" "[J" ∈ gw := gw_of (tb_7 (List.mem_of_getElem? (i := 23) (by decide +kernel))) (by decide +kernel)
theorem k_7_25 : Cond.lays "PageScribeModel" "PageScribeModel" "knows" "I" ∈ gw := gw_of (tb_7 (List.mem_of_getElem? (i := 25) (by decide +kernel))) (by decide +kernel)
theorem k_7_27 : Cond.lays "PageScribeModel" "PageScribeModel" "fuel" "I" ∈ gw := gw_of (tb_7 (List.mem_of_getElem? (i := 27) (by decide +kernel))) (by decide +kernel)
theorem k_7_29 : Cond.lays "PageScribeModel" "PageScribeModel" "steps" "I" ∈ gw := gw_of (tb_7 (List.mem_of_getElem? (i := 29) (by decide +kernel))) (by decide +kernel)
theorem k_7_31 : Cond.lays "PageScribeModel" "PageScribeModel" "failure" "I" ∈ gw := gw_of (tb_7 (List.mem_of_getElem? (i := 31) (by decide +kernel))) (by decide +kernel)
theorem k_7_33 : Cond.laysFinal "PageScribeModel" "PageScribeModel" "columns" "I" ∈ gw := gw_of (tb_7 (List.mem_of_getElem? (i := 33) (by decide +kernel))) (by decide +kernel)
theorem k_7_35 : Cond.laysFinal "PageScribeModel" "PageScribeModel" "rows" "I" ∈ gw := gw_of (tb_7 (List.mem_of_getElem? (i := 35) (by decide +kernel))) (by decide +kernel)
theorem k_7_37 : Cond.laysFinal "PageScribeModel" "PageScribeModel" "pixels" "[I" ∈ gw := gw_of (tb_7 (List.mem_of_getElem? (i := 37) (by decide +kernel))) (by decide +kernel)
theorem k_7_39 : Cond.lays "PageScribeModel" "PageScribeModel" "gray" "F" ∈ gw := gw_of (tb_7 (List.mem_of_getElem? (i := 39) (by decide +kernel))) (by decide +kernel)
theorem k_7_41 : Cond.laysFinal "PageScribeModel" "PageScribeModel" "across" "[D" ∈ gw := gw_of (tb_7 (List.mem_of_getElem? (i := 41) (by decide +kernel))) (by decide +kernel)
theorem k_7_43 : Cond.laysFinal "PageScribeModel" "PageScribeModel" "along" "[D" ∈ gw := gw_of (tb_7 (List.mem_of_getElem? (i := 43) (by decide +kernel))) (by decide +kernel)
theorem k_7_45 : Cond.laysFinal "PageScribeModel" "PageScribeModel" "part" "[I" ∈ gw := gw_of (tb_7 (List.mem_of_getElem? (i := 45) (by decide +kernel))) (by decide +kernel)
theorem k_7_47 : Cond.lays "PageScribeModel" "PageScribeModel" "points" "I" ∈ gw := gw_of (tb_7 (List.mem_of_getElem? (i := 47) (by decide +kernel))) (by decide +kernel)
theorem k_7_49 : Cond.laysFinal "PageScribeModel" "PageScribeModel" "patterns" "[I" ∈ gw := gw_of (tb_7 (List.mem_of_getElem? (i := 49) (by decide +kernel))) (by decide +kernel)
theorem k_7_51 : Cond.laysFinal "PageScribeModel" "PageScribeModel" "early" "[J" ∈ gw := gw_of (tb_7 (List.mem_of_getElem? (i := 51) (by decide +kernel))) (by decide +kernel)
theorem k_7_53 : Cond.laysFinal "PageScribeModel" "PageScribeModel" "late" "[J" ∈ gw := gw_of (tb_7 (List.mem_of_getElem? (i := 53) (by decide +kernel))) (by decide +kernel)
theorem i_Mo : ∀ w ∈ u_ws "PageScribeModel" F_Mo 45, w ∈ gw := List.forall_mem_cons.mpr ⟨k_6_205, List.forall_mem_cons.mpr ⟨k_6_207, List.forall_mem_cons.mpr ⟨k_6_209, List.forall_mem_cons.mpr ⟨k_6_211, List.forall_mem_cons.mpr ⟨k_6_213, List.forall_mem_cons.mpr ⟨k_6_215, List.forall_mem_cons.mpr ⟨k_6_217, List.forall_mem_cons.mpr ⟨k_6_219, List.forall_mem_cons.mpr ⟨k_6_221, List.forall_mem_cons.mpr ⟨k_6_223, List.forall_mem_cons.mpr ⟨k_6_225, List.forall_mem_cons.mpr ⟨k_6_227, List.forall_mem_cons.mpr ⟨k_6_229, List.forall_mem_cons.mpr ⟨k_6_231, List.forall_mem_cons.mpr ⟨k_6_233, List.forall_mem_cons.mpr ⟨k_6_235, List.forall_mem_cons.mpr ⟨k_6_237, List.forall_mem_cons.mpr ⟨k_6_239, List.forall_mem_cons.mpr ⟨k_7_1, List.forall_mem_cons.mpr ⟨k_7_3, List.forall_mem_cons.mpr ⟨k_7_5, List.forall_mem_cons.mpr ⟨k_7_7, List.forall_mem_cons.mpr ⟨k_7_9, List.forall_mem_cons.mpr ⟨k_7_11, List.forall_mem_cons.mpr ⟨k_7_13, List.forall_mem_cons.mpr ⟨k_7_15, List.forall_mem_cons.mpr ⟨k_7_17, List.forall_mem_cons.mpr ⟨k_7_19, List.forall_mem_cons.mpr ⟨k_7_21, List.forall_mem_cons.mpr ⟨k_7_23, List.forall_mem_cons.mpr ⟨k_7_25, List.forall_mem_cons.mpr ⟨k_7_27, List.forall_mem_cons.mpr ⟨k_7_29, List.forall_mem_cons.mpr ⟨k_7_31, List.forall_mem_cons.mpr ⟨k_7_33, List.forall_mem_cons.mpr ⟨k_7_35, List.forall_mem_cons.mpr ⟨k_7_37, List.forall_mem_cons.mpr ⟨k_7_39, List.forall_mem_cons.mpr ⟨k_7_41, List.forall_mem_cons.mpr ⟨k_7_43, List.forall_mem_cons.mpr ⟨k_7_45, List.forall_mem_cons.mpr ⟨k_7_47, List.forall_mem_cons.mpr ⟨k_7_49, List.forall_mem_cons.mpr ⟨k_7_51, List.forall_mem_cons.mpr ⟨k_7_53, List.forall_mem_nil _⟩⟩⟩⟩⟩⟩⟩⟩⟩⟩⟩⟩⟩⟩⟩⟩⟩⟩⟩⟩⟩⟩⟩⟩⟩⟩⟩⟩⟩⟩⟩⟩⟩⟩⟩⟩⟩⟩⟩⟩⟩⟩⟩⟩⟩
theorem z_Mo : ∀ j, j < 45 → defaultValue (t_Mo j) = vp_V [.int 0, .null, .null, .null, .int 0, .int 0, .null, .null, .null, .null, .int 0, .int 0, .int 0, .null, .null, .int 0, .int 0, .null, .null, .null, .null, .null, .null, .null, .int 0, .int 0, .int 0, .int 0, .null, .null, .int 0, .int 0, .int 0, .int 0, .int 0, .int 0, .null, .float 0, .null, .null, .null, .int 0, .null, .null, .null] j := by decide +kernel
abbrev zI : Nat → Int32 := fun _ => 0
abbrev zJ : Nat → Int64 := fun _ => 0
abbrev zD : Nat → UInt64 := fun _ => 0
abbrev zQ : Nat → Option Nat := fun _ => none
