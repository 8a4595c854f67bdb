theorem zI_up (k : Nat) : upd zI k 0 = zI := by
  funext j
  by_cases h : j = k
  · subst h; simp [upd]
  · simp [upd, h]
theorem d_Ps_init_0 : decode prog_1_method_1_code 0 = .ok (.aload_n 0, 1) := by decide +kernel
theorem d_Ps_init_1 : decode prog_1_method_1_code 1 = .ok (.invokespecial 3, 3) := by decide +kernel
theorem k_1_34 : Cond.methodLink "PageScribe" 3 ⟨"java/lang/Object", "<init>", "()V"⟩ ∈ gw := gw_of (tb_1 (List.mem_of_getElem? (i := 34) (by decide +kernel))) (by decide +kernel)
theorem d_Ps_init_4 : decode prog_1_method_1_code 4 = .ok (.aload_n 0, 1) := by decide +kernel
theorem d_Ps_init_5 : decode prog_1_method_1_code 5 = .ok (.new 9, 3) := by decide +kernel
theorem k_1_37 : Cond.classLink "PageScribe" 9 "PageScribe$Stack" ∈ gw := gw_of (tb_1 (List.mem_of_getElem? (i := 37) (by decide +kernel))) (by decide +kernel)
theorem k_1_38 : Cond.instantiable "PageScribe$Stack" 4 ∈ gw := gw_of (tb_1 (List.mem_of_getElem? (i := 38) (by decide +kernel))) (by decide +kernel)
theorem k_1_3 : Cond.initialized "PageScribe$Stack" ∈ gw := gw_of (tb_1 (List.mem_of_getElem? (i := 3) (by decide +kernel))) (by decide +kernel)
theorem d_Ps_init_8 : decode prog_1_method_1_code 8 = .ok (.dup, 1) := by decide +kernel
theorem d_Ps_init_9 : decode prog_1_method_1_code 9 = .ok (.invokespecial 11, 3) := by decide +kernel
theorem k_1_41 : Cond.code ⟨"PageScribe$Stack", "<init>", "()V"⟩ prog_9_method_1_code 1 none ∈ gw := gw_of (tb_1 (List.mem_of_getElem? (i := 41) (by decide +kernel))) (by decide +kernel)
theorem k_1_39 : Cond.methodLink "PageScribe" 11 ⟨"PageScribe$Stack", "<init>", "()V"⟩ ∈ gw := gw_of (tb_1 (List.mem_of_getElem? (i := 39) (by decide +kernel))) (by decide +kernel)
theorem k_1_40 : Cond.instanceMethod ⟨"PageScribe$Stack", "<init>", "()V"⟩ ∈ gw := gw_of (tb_1 (List.mem_of_getElem? (i := 40) (by decide +kernel))) (by decide +kernel)
theorem d_Ps_init_12 : decode prog_1_method_1_code 12 = .ok (.putfield 12, 3) := by decide +kernel
theorem k_2_58 : Cond.fieldLink "PageScribe" 12 "PageScribe" "stack" "LPageScribe$Stack;" ∈ gw := gw_of (tb_2 (List.mem_of_getElem? (i := 58) (by decide +kernel))) (by decide +kernel)
theorem d_Ps_init_15 : decode prog_1_method_1_code 15 = .ok (.aload_n 0, 1) := by decide +kernel
theorem d_Ps_init_16 : decode prog_1_method_1_code 16 = .ok (.new 16, 3) := by decide +kernel
theorem k_1_69 : Cond.classLink "PageScribe" 16 "PageScribe$Words" ∈ gw := gw_of (tb_1 (List.mem_of_getElem? (i := 69) (by decide +kernel))) (by decide +kernel)
theorem k_1_70 : Cond.instantiable "PageScribe$Words" 3 ∈ gw := gw_of (tb_1 (List.mem_of_getElem? (i := 70) (by decide +kernel))) (by decide +kernel)
theorem k_1_4 : Cond.initialized "PageScribe$Words" ∈ gw := gw_of (tb_1 (List.mem_of_getElem? (i := 4) (by decide +kernel))) (by decide +kernel)
theorem d_Ps_init_19 : decode prog_1_method_1_code 19 = .ok (.dup, 1) := by decide +kernel
theorem d_Ps_init_20 : decode prog_1_method_1_code 20 = .ok (.invokespecial 18, 3) := by decide +kernel
theorem k_1_73 : Cond.code ⟨"PageScribe$Words", "<init>", "()V"⟩ prog_13_method_1_code 1 none ∈ gw := gw_of (tb_1 (List.mem_of_getElem? (i := 73) (by decide +kernel))) (by decide +kernel)
theorem k_1_72 : Cond.instanceMethod ⟨"PageScribe$Words", "<init>", "()V"⟩ ∈ gw := gw_of (tb_1 (List.mem_of_getElem? (i := 72) (by decide +kernel))) (by decide +kernel)
theorem d_Ps_init_23 : decode prog_1_method_1_code 23 = .ok (.putfield 19, 3) := by decide +kernel
theorem k_2_59 : Cond.fieldLink "PageScribe" 19 "PageScribe" "words" "LPageScribe$Words;" ∈ gw := gw_of (tb_2 (List.mem_of_getElem? (i := 59) (by decide +kernel))) (by decide +kernel)
theorem d_Ps_init_26 : decode prog_1_method_1_code 26 = .ok (.aload_n 0, 1) := by decide +kernel
theorem d_Ps_init_27 : decode prog_1_method_1_code 27 = .ok (.new 23, 3) := by decide +kernel
theorem k_1_87 : Cond.classLink "PageScribe" 23 "PageScribe$Memory" ∈ gw := gw_of (tb_1 (List.mem_of_getElem? (i := 87) (by decide +kernel))) (by decide +kernel)
theorem k_1_88 : Cond.instantiable "PageScribe$Memory" 8 ∈ gw := gw_of (tb_1 (List.mem_of_getElem? (i := 88) (by decide +kernel))) (by decide +kernel)
theorem k_1_5 : Cond.initialized "PageScribe$Memory" ∈ gw := gw_of (tb_1 (List.mem_of_getElem? (i := 5) (by decide +kernel))) (by decide +kernel)
theorem d_Ps_init_30 : decode prog_1_method_1_code 30 = .ok (.dup, 1) := by decide +kernel
theorem d_Ps_init_31 : decode prog_1_method_1_code 31 = .ok (.aload_n 0, 1) := by decide +kernel
theorem d_Ps_init_32 : decode prog_1_method_1_code 32 = .ok (.getfield 12, 3) := by decide +kernel
theorem d_Ps_init_35 : decode prog_1_method_1_code 35 = .ok (.invokespecial 25, 3) := by decide +kernel
theorem k_1_91 : Cond.code ⟨"PageScribe$Memory", "<init>", "(LPageScribe$Stack;)V"⟩ prog_5_method_1_code 3 none ∈ gw := gw_of (tb_1 (List.mem_of_getElem? (i := 91) (by decide +kernel))) (by decide +kernel)
theorem k_1_89 : Cond.methodLink "PageScribe" 25 ⟨"PageScribe$Memory", "<init>", "(LPageScribe$Stack;)V"⟩ ∈ gw := gw_of (tb_1 (List.mem_of_getElem? (i := 89) (by decide +kernel))) (by decide +kernel)
theorem k_1_90 : Cond.instanceMethod ⟨"PageScribe$Memory", "<init>", "(LPageScribe$Stack;)V"⟩ ∈ gw := gw_of (tb_1 (List.mem_of_getElem? (i := 90) (by decide +kernel))) (by decide +kernel)
theorem d_Ps_init_38 : decode prog_1_method_1_code 38 = .ok (.putfield 28, 3) := by decide +kernel
theorem k_2_60 : Cond.fieldLink "PageScribe" 28 "PageScribe" "memory" "LPageScribe$Memory;" ∈ gw := gw_of (tb_2 (List.mem_of_getElem? (i := 60) (by decide +kernel))) (by decide +kernel)
theorem d_Ps_init_41 : decode prog_1_method_1_code 41 = .ok (.aload_n 0, 1) := by decide +kernel
theorem d_Ps_init_42 : decode prog_1_method_1_code 42 = .ok (.new 32, 3) := by decide +kernel
theorem k_1_158 : Cond.classLink "PageScribe" 32 "PageScribe$Reader" ∈ gw := gw_of (tb_1 (List.mem_of_getElem? (i := 158) (by decide +kernel))) (by decide +kernel)
theorem k_1_159 : Cond.instantiable "PageScribe$Reader" 10 ∈ gw := gw_of (tb_1 (List.mem_of_getElem? (i := 159) (by decide +kernel))) (by decide +kernel)
theorem k_1_7 : Cond.initialized "PageScribe$Reader" ∈ gw := gw_of (tb_1 (List.mem_of_getElem? (i := 7) (by decide +kernel))) (by decide +kernel)
theorem d_Ps_init_45 : decode prog_1_method_1_code 45 = .ok (.dup, 1) := by decide +kernel
theorem d_Ps_init_46 : decode prog_1_method_1_code 46 = .ok (.aload_n 0, 1) := by decide +kernel
theorem d_Ps_init_47 : decode prog_1_method_1_code 47 = .ok (.getfield 19, 3) := by decide +kernel
theorem d_Ps_init_50 : decode prog_1_method_1_code 50 = .ok (.aload_n 0, 1) := by decide +kernel
theorem d_Ps_init_51 : decode prog_1_method_1_code 51 = .ok (.getfield 28, 3) := by decide +kernel
theorem d_Ps_init_54 : decode prog_1_method_1_code 54 = .ok (.getfield 34, 3) := by decide +kernel
theorem k_1_131 : Cond.fieldLink "PageScribe" 34 "PageScribe$Memory" "store" "LPageScribe$Store;" ∈ gw := gw_of (tb_1 (List.mem_of_getElem? (i := 131) (by decide +kernel))) (by decide +kernel)
theorem d_Ps_init_57 : decode prog_1_method_1_code 57 = .ok (.invokespecial 38, 3) := by decide +kernel
theorem k_1_162 : Cond.code ⟨"PageScribe$Reader", "<init>", "(LPageScribe$Words;LPageScribe$Store;)V"⟩ prog_7_method_1_code 3 none ∈ gw := gw_of (tb_1 (List.mem_of_getElem? (i := 162) (by decide +kernel))) (by decide +kernel)
theorem k_1_160 : Cond.methodLink "PageScribe" 38 ⟨"PageScribe$Reader", "<init>", "(LPageScribe$Words;LPageScribe$Store;)V"⟩ ∈ gw := gw_of (tb_1 (List.mem_of_getElem? (i := 160) (by decide +kernel))) (by decide +kernel)
theorem k_1_161 : Cond.instanceMethod ⟨"PageScribe$Reader", "<init>", "(LPageScribe$Words;LPageScribe$Store;)V"⟩ ∈ gw := gw_of (tb_1 (List.mem_of_getElem? (i := 161) (by decide +kernel))) (by decide +kernel)
theorem d_Ps_init_60 : decode prog_1_method_1_code 60 = .ok (.putfield 41, 3) := by decide +kernel
theorem k_2_61 : Cond.fieldLink "PageScribe" 41 "PageScribe" "reader" "LPageScribe$Reader;" ∈ gw := gw_of (tb_2 (List.mem_of_getElem? (i := 61) (by decide +kernel))) (by decide +kernel)
theorem d_Ps_init_63 : decode prog_1_method_1_code 63 = .ok (.aload_n 0, 1) := by decide +kernel
theorem d_Ps_init_64 : decode prog_1_method_1_code 64 = .ok (.new 45, 3) := by decide +kernel
theorem k_1_201 : Cond.classLink "PageScribe" 45 "PageScribe$Canvas" ∈ gw := gw_of (tb_1 (List.mem_of_getElem? (i := 201) (by decide +kernel))) (by decide +kernel)
theorem k_1_202 : Cond.instantiable "PageScribe$Canvas" 9 ∈ gw := gw_of (tb_1 (List.mem_of_getElem? (i := 202) (by decide +kernel))) (by decide +kernel)
theorem k_1_8 : Cond.initialized "PageScribe$Canvas" ∈ gw := gw_of (tb_1 (List.mem_of_getElem? (i := 8) (by decide +kernel))) (by decide +kernel)
theorem d_Ps_init_67 : decode prog_1_method_1_code 67 = .ok (.dup, 1) := by decide +kernel
theorem d_Ps_init_68 : decode prog_1_method_1_code 68 = .ok (.aload_n 0, 1) := by decide +kernel
theorem d_Ps_init_69 : decode prog_1_method_1_code 69 = .ok (.getfield 12, 3) := by decide +kernel
theorem d_Ps_init_72 : decode prog_1_method_1_code 72 = .ok (.iload_n 1, 1) := by decide +kernel
theorem d_Ps_init_73 : decode prog_1_method_1_code 73 = .ok (.iload_n 2, 1) := by decide +kernel
theorem d_Ps_init_74 : decode prog_1_method_1_code 74 = .ok (.invokespecial 47, 3) := by decide +kernel
theorem k_1_205 : Cond.code ⟨"PageScribe$Canvas", "<init>", "(LPageScribe$Stack;II)V"⟩ prog_3_method_1_code 4 none ∈ gw := gw_of (tb_1 (List.mem_of_getElem? (i := 205) (by decide +kernel))) (by decide +kernel)
theorem k_1_203 : Cond.methodLink "PageScribe" 47 ⟨"PageScribe$Canvas", "<init>", "(LPageScribe$Stack;II)V"⟩ ∈ gw := gw_of (tb_1 (List.mem_of_getElem? (i := 203) (by decide +kernel))) (by decide +kernel)
theorem k_1_204 : Cond.instanceMethod ⟨"PageScribe$Canvas", "<init>", "(LPageScribe$Stack;II)V"⟩ ∈ gw := gw_of (tb_1 (List.mem_of_getElem? (i := 204) (by decide +kernel))) (by decide +kernel)
theorem d_Ps_init_77 : decode prog_1_method_1_code 77 = .ok (.putfield 50, 3) := by decide +kernel
theorem k_2_62 : Cond.fieldLink "PageScribe" 50 "PageScribe" "canvas" "LPageScribe$Canvas;" ∈ gw := gw_of (tb_2 (List.mem_of_getElem? (i := 62) (by decide +kernel))) (by decide +kernel)
theorem d_Ps_init_80 : decode prog_1_method_1_code 80 = .ok (.aload_n 0, 1) := by decide +kernel
theorem d_Ps_init_81 : decode prog_1_method_1_code 81 = .ok (.new 54, 3) := by decide +kernel
theorem k_1_236 : Cond.classLink "PageScribe" 54 "PageScribe$Engine" ∈ gw := gw_of (tb_1 (List.mem_of_getElem? (i := 236) (by decide +kernel))) (by decide +kernel)
theorem k_1_237 : Cond.instantiable "PageScribe$Engine" 11 ∈ gw := gw_of (tb_1 (List.mem_of_getElem? (i := 237) (by decide +kernel))) (by decide +kernel)
theorem k_1_9 : Cond.initialized "PageScribe$Engine" ∈ gw := gw_of (tb_1 (List.mem_of_getElem? (i := 9) (by decide +kernel))) (by decide +kernel)
theorem d_Ps_init_84 : decode prog_1_method_1_code 84 = .ok (.dup, 1) := by decide +kernel
theorem d_Ps_init_85 : decode prog_1_method_1_code 85 = .ok (.aload_n 0, 1) := by decide +kernel
theorem d_Ps_init_86 : decode prog_1_method_1_code 86 = .ok (.getfield 12, 3) := by decide +kernel
theorem d_Ps_init_89 : decode prog_1_method_1_code 89 = .ok (.aload_n 0, 1) := by decide +kernel
theorem d_Ps_init_90 : decode prog_1_method_1_code 90 = .ok (.getfield 28, 3) := by decide +kernel
theorem d_Ps_init_93 : decode prog_1_method_1_code 93 = .ok (.aload_n 0, 1) := by decide +kernel
theorem d_Ps_init_94 : decode prog_1_method_1_code 94 = .ok (.getfield 50, 3) := by decide +kernel
theorem d_Ps_init_97 : decode prog_1_method_1_code 97 = .ok (.invokespecial 56, 3) := by decide +kernel
theorem k_2_0 : Cond.code ⟨"PageScribe$Engine", "<init>", "(LPageScribe$Stack;LPageScribe$Memory;LPageScribe$Canvas;)V"⟩ prog_4_method_1_code 4 none ∈ gw := gw_of (tb_2 (List.mem_of_getElem? (i := 0) (by decide +kernel))) (by decide +kernel)
theorem k_1_238 : Cond.methodLink "PageScribe" 56 ⟨"PageScribe$Engine", "<init>", "(LPageScribe$Stack;LPageScribe$Memory;LPageScribe$Canvas;)V"⟩ ∈ gw := gw_of (tb_1 (List.mem_of_getElem? (i := 238) (by decide +kernel))) (by decide +kernel)
theorem k_1_239 : Cond.instanceMethod ⟨"PageScribe$Engine", "<init>", "(LPageScribe$Stack;LPageScribe$Memory;LPageScribe$Canvas;)V"⟩ ∈ gw := gw_of (tb_1 (List.mem_of_getElem? (i := 239) (by decide +kernel))) (by decide +kernel)
theorem d_Ps_init_100 : decode prog_1_method_1_code 100 = .ok (.putfield 59, 3) := by decide +kernel
theorem k_2_63 : Cond.fieldLink "PageScribe" 59 "PageScribe" "engine" "LPageScribe$Engine;" ∈ gw := gw_of (tb_2 (List.mem_of_getElem? (i := 63) (by decide +kernel))) (by decide +kernel)
theorem d_Ps_init_103 : decode prog_1_method_1_code 103 = .ok (.return_, 1) := by decide +kernel
set_option maxHeartbeats 4000000 in
set_option maxRecDepth 100000 in
theorem c_Ps_init (l : Launch) (D : va_G) (T : Nat → ClassId) (h0 : Nat) (p0 : Int32) (p1 : Int32) (sz : Nat) : Met l ⟨"PageScribe", "<init>", "(II)V"⟩ (wy ⟨"PageScribe", "<init>", "(II)V"⟩ prog_1_method_1_code 3 none) ({ frames := 5, cells := 74, slots := 4809, locals := 350 }) (va_Pc [.ref h0, .int p0, .int p1] (Pw D T [(h0, .inr (10, [.null, .null, .null, .null, .null, .null]))] sz (fun U => va_AO "PageScribe$Store" U ∧ va_Nw (Cond.methodLinkNest "PageScribe" 18 ⟨"PageScribe$Words", "<init>", "()V"⟩ "PageScribe") U))) (va_Qv (fun (u : Nat × Nat × Nat × Nat × Nat × Nat × Nat × Nat × Nat × Nat × Nat × Nat × Nat × Nat × Nat × Nat × Nat × Nat × Nat × Nat × Nat × Nat × Nat × Nat × Nat × Nat × Nat × Nat × Nat × Nat × Nat × Nat × Nat × Nat) => nI u.2.2.2.2.2.2.2.2.2.2.2.2.2.2.2.2.2.2.2.2.2.2.2.2.2.1 = colOf p0 ∧ nI u.2.2.2.2.2.2.2.2.2.2.2.2.2.2.2.2.2.2.2.2.2.2.2.2.2.2.1 = rowOf p1 ∧ u.2.2.2.2.2.2.2.2.2.2.2.2.2.2.2.2.2.2.2.2.2.2.2.2.2.1 ≤ 24 ∧ u.2.2.2.2.2.2.2.2.2.2.2.2.2.2.2.2.2.2.2.2.2.2.2.2.2.2.1 ≤ 16) (fun u t => Bw D T (va_A [(h0, .inr (10, [.null, .null, .null, .null, .null, .null]))] sz) [(h0, .inr (10, [.ref u.1, .ref u.2.2.2.2.1, .ref u.2.2.2.2.2.2.2.1, .ref u.2.2.2.2.2.2.2.2.2.2.2.2.2.2.2.2.2.2.2.2.1, .ref u.2.2.2.2.2.2.2.2.2.2.2.2.2.2.2.2.2.2.2.2.2.2.2.2.1, .ref u.2.2.2.2.2.2.2.2.2.2.2.2.2.2.2.2.2.2.2.2.2.2.2.2.2.2.2.2.2.2.2.1])), (u.1, .inr (0, [.ref u.2.1, .ref u.2.2.1, .ref u.2.2.2.1, .int 0])), (u.2.1, .inl (T 0, 40, .inl zI)), (u.2.2.1, .inl (T 0, 40, .inl zI)), (u.2.2.2.1, .inl (T 3, 40, .inr (.inr (.inr (.inl zD))))), (u.2.2.2.2.1, .inr (1, [.ref u.2.2.2.2.2.1, .ref u.2.2.2.2.2.2.1, .int 0])), (u.2.2.2.2.2.2.2.1, .inr (2, [.ref u.1, .ref u.2.2.2.2.2.2.2.2.1, .ref u.2.2.2.2.2.2.2.2.2.1, .int 1, .ref u.2.2.2.2.2.2.2.2.2.2.1, .ref u.2.2.2.2.2.2.2.2.2.2.2.1, .int 0, .int 0])), (u.2.2.2.2.2.2.2.2.1, .inr (3, [.ref u.2.2.2.2.2.2.2.2.2.2.2.2.1, .ref u.2.2.2.2.2.2.2.2.2.2.2.2.2.1, .ref u.2.2.2.2.2.2.2.2.2.2.2.2.2.2.1, .ref u.2.2.2.2.2.2.2.2.2.2.2.2.2.2.2.1, .ref u.2.2.2.2.2.2.2.2.2.2.2.2.2.2.2.2.1])), (u.2.2.2.2.2.2.2.2.2.2.2.2.1, .inr (4, [.ref u.2.2.2.2.2.2.2.2.2.2.2.2.2.2.2.2.2.1, .ref u.2.2.2.2.2.2.2.2.2.2.2.2.2.2.2.2.2.2.1, .ref u.2.2.2.2.2.2.2.2.2.2.2.2.2.2.2.2.2.2.2.1, .int 0])), (u.2.2.2.2.2.2.2.2.2.2.2.2.2.1, .inl (T 0, 7, .inl roomF)), (u.2.2.2.2.2.2.2.2.2.2.2.2.2.2.2.2.2.2.2.2.1, .inr (5, [.ref u.2.2.2.2.1, .ref u.2.2.2.2.2.2.2.2.1, .ref u.2.2.2.2.2.2.2.2.2.2.2.2.2.2.2.2.2.2.2.2.2.1, .int 0, .int 0, .int 0, .int 0, .double 0, .ref u.2.2.2.2.2.2.2.2.2.2.2.2.2.2.2.2.2.2.2.2.2.2.1, .ref u.2.2.2.2.2.2.2.2.2.2.2.2.2.2.2.2.2.2.2.2.2.2.2.1])), (u.2.2.2.2.2.2.2.2.2.2.2.2.2.2.2.2.2.2.2.2.2.1, .inl (T 2, 120, .inl zI)), (u.2.2.2.2.2.2.2.2.2.2.2.2.2.2.2.2.2.2.2.2.2.2.2.2.1, .inr (6, [.ref u.1, .int (nI u.2.2.2.2.2.2.2.2.2.2.2.2.2.2.2.2.2.2.2.2.2.2.2.2.2.1), .int (nI u.2.2.2.2.2.2.2.2.2.2.2.2.2.2.2.2.2.2.2.2.2.2.2.2.2.2.1), .ref u.2.2.2.2.2.2.2.2.2.2.2.2.2.2.2.2.2.2.2.2.2.2.2.2.2.2.2.1, .float 0x3f800000, .ref u.2.2.2.2.2.2.2.2.2.2.2.2.2.2.2.2.2.2.2.2.2.2.2.2.2.2.2.2.1, .ref u.2.2.2.2.2.2.2.2.2.2.2.2.2.2.2.2.2.2.2.2.2.2.2.2.2.2.2.2.2.1, .ref u.2.2.2.2.2.2.2.2.2.2.2.2.2.2.2.2.2.2.2.2.2.2.2.2.2.2.2.2.2.2.1, .int 0])), (u.2.2.2.2.2.2.2.2.2.2.2.2.2.2.2.2.2.2.2.2.2.2.2.2.2.2.2.1, .inl (T 0, (u.2.2.2.2.2.2.2.2.2.2.2.2.2.2.2.2.2.2.2.2.2.2.2.2.2.1 * u.2.2.2.2.2.2.2.2.2.2.2.2.2.2.2.2.2.2.2.2.2.2.2.2.2.2.1), .inl zI)), (u.2.2.2.2.2.2.2.2.2.2.2.2.2.2.2.2.2.2.2.2.2.2.2.2.2.2.2.2.2.2.2.1, .inr (7, [.ref u.1, .ref u.2.2.2.2.2.2.2.1, .ref u.2.2.2.2.2.2.2.2.2.2.2.2.2.2.2.2.2.2.2.2.2.2.2.2.1, .ref u.2.2.2.2.2.2.2.2.2.2.2.2.2.2.2.2.2.2.2.2.2.2.2.2.2.2.2.2.2.2.2.2.1, .ref u.2.2.2.2.2.2.2.2.2.2.2.2.2.2.2.2.2.2.2.2.2.2.2.2.2.2.2.2.2.2.2.2.2, .int 0, .int 0, .int 0, .int 0, .int 0, .int 0]))] t) (va_A [(h0, .inr (10, [.null, .null, .null, .null, .null, .null]))] sz)) 74 4809 (va_A [(h0, .inr (10, [.null, .null, .null, .null, .null, .null]))] sz) := by
  refine j_met (y := ⟨"PageScribe", "<init>", "(II)V"⟩) (b := prog_1_method_1_code) (n := 3) (ret := none) (av := [.ref h0, .int p0, .int p1]) (Qc := fun A => va_Qv (fun (u : Nat × Nat × Nat × Nat × Nat × Nat × Nat × Nat × Nat × Nat × Nat × Nat × Nat × Nat × Nat × Nat × Nat × Nat × Nat × Nat × Nat × Nat × Nat × Nat × Nat × Nat × Nat × Nat × Nat × Nat × Nat × Nat × Nat × Nat) => nI u.2.2.2.2.2.2.2.2.2.2.2.2.2.2.2.2.2.2.2.2.2.2.2.2.2.1 = colOf p0 ∧ nI u.2.2.2.2.2.2.2.2.2.2.2.2.2.2.2.2.2.2.2.2.2.2.2.2.2.2.1 = rowOf p1 ∧ u.2.2.2.2.2.2.2.2.2.2.2.2.2.2.2.2.2.2.2.2.2.2.2.2.2.1 ≤ 24 ∧ u.2.2.2.2.2.2.2.2.2.2.2.2.2.2.2.2.2.2.2.2.2.2.2.2.2.2.1 ≤ 16) (fun u t => Bw D T A [(h0, .inr (10, [.ref u.1, .ref u.2.2.2.2.1, .ref u.2.2.2.2.2.2.2.1, .ref u.2.2.2.2.2.2.2.2.2.2.2.2.2.2.2.2.2.2.2.2.1, .ref u.2.2.2.2.2.2.2.2.2.2.2.2.2.2.2.2.2.2.2.2.2.2.2.2.1, .ref u.2.2.2.2.2.2.2.2.2.2.2.2.2.2.2.2.2.2.2.2.2.2.2.2.2.2.2.2.2.2.2.1])), (u.1, .inr (0, [.ref u.2.1, .ref u.2.2.1, .ref u.2.2.2.1, .int 0])), (u.2.1, .inl (T 0, 40, .inl zI)), (u.2.2.1, .inl (T 0, 40, .inl zI)), (u.2.2.2.1, .inl (T 3, 40, .inr (.inr (.inr (.inl zD))))), (u.2.2.2.2.1, .inr (1, [.ref u.2.2.2.2.2.1, .ref u.2.2.2.2.2.2.1, .int 0])), (u.2.2.2.2.2.2.2.1, .inr (2, [.ref u.1, .ref u.2.2.2.2.2.2.2.2.1, .ref u.2.2.2.2.2.2.2.2.2.1, .int 1, .ref u.2.2.2.2.2.2.2.2.2.2.1, .ref u.2.2.2.2.2.2.2.2.2.2.2.1, .int 0, .int 0])), (u.2.2.2.2.2.2.2.2.1, .inr (3, [.ref u.2.2.2.2.2.2.2.2.2.2.2.2.1, .ref u.2.2.2.2.2.2.2.2.2.2.2.2.2.1, .ref u.2.2.2.2.2.2.2.2.2.2.2.2.2.2.1, .ref u.2.2.2.2.2.2.2.2.2.2.2.2.2.2.2.1, .ref u.2.2.2.2.2.2.2.2.2.2.2.2.2.2.2.2.1])), (u.2.2.2.2.2.2.2.2.2.2.2.2.1, .inr (4, [.ref u.2.2.2.2.2.2.2.2.2.2.2.2.2.2.2.2.2.1, .ref u.2.2.2.2.2.2.2.2.2.2.2.2.2.2.2.2.2.2.1, .ref u.2.2.2.2.2.2.2.2.2.2.2.2.2.2.2.2.2.2.2.1, .int 0])), (u.2.2.2.2.2.2.2.2.2.2.2.2.2.1, .inl (T 0, 7, .inl roomF)), (u.2.2.2.2.2.2.2.2.2.2.2.2.2.2.2.2.2.2.2.2.1, .inr (5, [.ref u.2.2.2.2.1, .ref u.2.2.2.2.2.2.2.2.1, .ref u.2.2.2.2.2.2.2.2.2.2.2.2.2.2.2.2.2.2.2.2.2.1, .int 0, .int 0, .int 0, .int 0, .double 0, .ref u.2.2.2.2.2.2.2.2.2.2.2.2.2.2.2.2.2.2.2.2.2.2.1, .ref u.2.2.2.2.2.2.2.2.2.2.2.2.2.2.2.2.2.2.2.2.2.2.2.1])), (u.2.2.2.2.2.2.2.2.2.2.2.2.2.2.2.2.2.2.2.2.2.1, .inl (T 2, 120, .inl zI)), (u.2.2.2.2.2.2.2.2.2.2.2.2.2.2.2.2.2.2.2.2.2.2.2.2.1, .inr (6, [.ref u.1, .int (nI u.2.2.2.2.2.2.2.2.2.2.2.2.2.2.2.2.2.2.2.2.2.2.2.2.2.1), .int (nI u.2.2.2.2.2.2.2.2.2.2.2.2.2.2.2.2.2.2.2.2.2.2.2.2.2.2.1), .ref u.2.2.2.2.2.2.2.2.2.2.2.2.2.2.2.2.2.2.2.2.2.2.2.2.2.2.2.1, .float 0x3f800000, .ref u.2.2.2.2.2.2.2.2.2.2.2.2.2.2.2.2.2.2.2.2.2.2.2.2.2.2.2.2.1, .ref u.2.2.2.2.2.2.2.2.2.2.2.2.2.2.2.2.2.2.2.2.2.2.2.2.2.2.2.2.2.1, .ref u.2.2.2.2.2.2.2.2.2.2.2.2.2.2.2.2.2.2.2.2.2.2.2.2.2.2.2.2.2.2.1, .int 0])), (u.2.2.2.2.2.2.2.2.2.2.2.2.2.2.2.2.2.2.2.2.2.2.2.2.2.2.2.1, .inl (T 0, (u.2.2.2.2.2.2.2.2.2.2.2.2.2.2.2.2.2.2.2.2.2.2.2.2.2.1 * u.2.2.2.2.2.2.2.2.2.2.2.2.2.2.2.2.2.2.2.2.2.2.2.2.2.2.1), .inl zI)), (u.2.2.2.2.2.2.2.2.2.2.2.2.2.2.2.2.2.2.2.2.2.2.2.2.2.2.2.2.2.2.2.1, .inr (7, [.ref u.1, .ref u.2.2.2.2.2.2.2.1, .ref u.2.2.2.2.2.2.2.2.2.2.2.2.2.2.2.2.2.2.2.2.2.2.2.2.1, .ref u.2.2.2.2.2.2.2.2.2.2.2.2.2.2.2.2.2.2.2.2.2.2.2.2.2.2.2.2.2.2.2.2.1, .ref u.2.2.2.2.2.2.2.2.2.2.2.2.2.2.2.2.2.2.2.2.2.2.2.2.2.2.2.2.2.2.2.2.2, .int 0, .int 0, .int 0, .int 0, .int 0, .int 0]))] t) A) (by decide +kernel) (Nat.le_of_ble_eq_true rfl) (fun p e s m args below meth c A ls F hr hlocks hnm hK hP hD hS hA hN hE hl => ?_)
  obtain ⟨hx, hb, hml, hown, hts⟩ := id F
  have hin := hnm
  have hl : lv_has ls 3 [(0, .ref h0), (1, .int p0), (2, .int p1)] := hl
  have hE1 := hE.1
  have hNest := hE.2
  refine lv_aload_n hx hb d_Ps_init_0 rfl (lv_at hl 0 rfl) ?_
  refine j_obj F hl.1 k_1_34 k_1_35 k_1_36 d_Ps_init_1 (Nat.le_of_ble_eq_true rfl) (Nat.le_of_ble_eq_true rfl) ?_
  refine lv_aload_n hx hb d_Ps_init_4 rfl (lv_at hl 0 rfl) ?_
  refine va_new (ci := 0) (fs := [.null, .null, .null, .int 0]) (C := "PageScribe$Stack") (T := F_Stack) (N := 4) hx hb hts i_Stack t_Stack t_Stack_ok hown (hts _ k_1_37) (hts _ k_1_38) (hts _ k_1_3) hK hP hD hS hA rfl z_Stack (Nat.le_of_ble_eq_true rfl) (Nat.le_of_ble_eq_true rfl) d_Ps_init_5 (fun q1 H hP hD hS => ?_)
  have hP : va_P D classes [(h0, .inr (10, [.null, .null, .null, .null, .null, .null])), (q1, .inr (0, [.null, .null, .null, .int 0]))] H := hP
  have hD : va_D A [(h0, .inr (10, [.null, .null, .null, .null, .null, .null])), (q1, .inr (0, [.null, .null, .null, .int 0]))] := hD
  refine lv_dup hx hb d_Ps_init_8 rfl ?_
  refine j_cv (wc := [(q1, .inr (0, [.null, .null, .null, .int 0]))]) (wr := [(h0, .inr (10, [.null, .null, .null, .null, .null, .null]))]) hK hP hD hS hA [1] [0] rfl rfl (by decide) (by decide) (va_runI (As := []) (rest := [.ref q1, .ref h0]) F (c_Stack_init l D T q1 H.size) (j_cI (k := 0) hts k_1_41 k_1_3 k_1_39 k_1_40 rfl (by decide +kernel) ⟨Nat.le_of_ble_eq_true rfl, Nat.le_of_ble_eq_true rfl⟩) (j_preS hK hP hD [1] rfl (by decide) (fun _ _ _ _ h => h) (fun _ _ _ => trivial)) rfl rfl hl.1 rfl (lv_room (Nat.le_of_ble_eq_true rfl)) d_Ps_init_9 ⟨Nat.le_of_ble_eq_true rfl, Nat.le_of_ble_eq_true rfl⟩) (fun u1 H locs hw hP hD hS => ?_)
  obtain ⟨a1_1, a2_1, a3_1⟩ := u1
  have hP : va_P D classes [(h0, .inr (10, [.null, .null, .null, .null, .null, .null])), (q1, .inr (0, [.ref a1_1, .ref a2_1, .ref a3_1, .int 0])), (a1_1, .inl (T 0, 40, .inl zI)), (a2_1, .inl (T 0, 40, .inl zI)), (a3_1, .inl (T 3, 40, .inr (.inr (.inr (.inl zD)))))] H := hP
  have hD : va_D A [(h0, .inr (10, [.null, .null, .null, .null, .null, .null])), (q1, .inr (0, [.ref a1_1, .ref a2_1, .ref a3_1, .int 0])), (a1_1, .inl (T 0, 40, .inl zI)), (a2_1, .inl (T 0, 40, .inl zI)), (a3_1, .inl (T 3, 40, .inr (.inr (.inr (.inl zD)))))] := hD
  refine va_putF (D := D) (ci := 10) (v := .ref q1) (ty := .object "PageScribe$Stack") (C := "PageScribe") (T := F_Ps) (N := 6) hx hb hts i_Ps t_Ps t_Ps_ok n_Ps hown hK hP hD hS 0 rfl rfl 0 (by decide) (hts _ k_2_58) (fun _ h9 => h9) rfl hin rfl (by decide +kernel) rfl rfl (Nat.le_of_ble_eq_true rfl) d_Ps_init_12 (fun H locs hP hD hS => ?_)
  have hP : va_P D classes [(h0, .inr (10, [.ref q1, .null, .null, .null, .null, .null])), (q1, .inr (0, [.ref a1_1, .ref a2_1, .ref a3_1, .int 0])), (a1_1, .inl (T 0, 40, .inl zI)), (a2_1, .inl (T 0, 40, .inl zI)), (a3_1, .inl (T 3, 40, .inr (.inr (.inr (.inl zD)))))] H := hP
  have hD : va_D A [(h0, .inr (10, [.ref q1, .null, .null, .null, .null, .null])), (q1, .inr (0, [.ref a1_1, .ref a2_1, .ref a3_1, .int 0])), (a1_1, .inl (T 0, 40, .inl zI)), (a2_1, .inl (T 0, 40, .inl zI)), (a3_1, .inl (T 3, 40, .inr (.inr (.inr (.inl zD)))))] := hD
  refine lv_aload_n hx hb d_Ps_init_15 rfl (lv_at hl 0 rfl) ?_
  refine va_new (ci := 1) (fs := [.null, .null, .int 0]) (C := "PageScribe$Words") (T := F_Words) (N := 3) hx hb hts i_Words t_Words t_Words_ok hown (hts _ k_1_69) (hts _ k_1_70) (hts _ k_1_4) hK hP hD hS hA rfl z_Words (Nat.le_of_ble_eq_true rfl) (Nat.le_of_ble_eq_true rfl) d_Ps_init_16 (fun q2 H hP hD hS => ?_)
  have hP : va_P D classes [(h0, .inr (10, [.ref q1, .null, .null, .null, .null, .null])), (q1, .inr (0, [.ref a1_1, .ref a2_1, .ref a3_1, .int 0])), (a1_1, .inl (T 0, 40, .inl zI)), (a2_1, .inl (T 0, 40, .inl zI)), (a3_1, .inl (T 3, 40, .inr (.inr (.inr (.inl zD))))), (q2, .inr (1, [.null, .null, .int 0]))] H := hP
  have hD : va_D A [(h0, .inr (10, [.ref q1, .null, .null, .null, .null, .null])), (q1, .inr (0, [.ref a1_1, .ref a2_1, .ref a3_1, .int 0])), (a1_1, .inl (T 0, 40, .inl zI)), (a2_1, .inl (T 0, 40, .inl zI)), (a3_1, .inl (T 3, 40, .inr (.inr (.inr (.inl zD))))), (q2, .inr (1, [.null, .null, .int 0]))] := hD
  refine lv_dup hx hb d_Ps_init_19 rfl ?_
  refine j_cv (wc := [(q2, .inr (1, [.null, .null, .int 0]))]) (wr := [(h0, .inr (10, [.ref q1, .null, .null, .null, .null, .null])), (q1, .inr (0, [.ref a1_1, .ref a2_1, .ref a3_1, .int 0])), (a1_1, .inl (T 0, 40, .inl zI)), (a2_1, .inl (T 0, 40, .inl zI)), (a3_1, .inl (T 3, 40, .inr (.inr (.inr (.inl zD)))))]) hK hP hD hS hA [5] [0, 1, 2, 3, 4] rfl rfl (by decide) (by decide) (va_runIN (As := []) (rest := [.ref q2, .ref h0]) F (c_Words_init l D T q2 H.size) (j_cIN (k := 0) hts k_1_73 k_1_4 hNest k_1_72 rfl (by decide +kernel) ⟨Nat.le_of_ble_eq_true rfl, Nat.le_of_ble_eq_true rfl⟩) (j_preS hK hP hD [5] rfl (by decide) (fun _ _ _ _ h => h) (fun _ _ _ => trivial)) rfl rfl hl.1 rfl (lv_room (Nat.le_of_ble_eq_true rfl)) d_Ps_init_20 ⟨Nat.le_of_ble_eq_true rfl, Nat.le_of_ble_eq_true rfl⟩) (fun u2 H locs hw hP hD hS => ?_)
  obtain ⟨a1_2, a2_2⟩ := u2
  have hP : va_P D classes [(h0, .inr (10, [.ref q1, .null, .null, .null, .null, .null])), (q1, .inr (0, [.ref a1_1, .ref a2_1, .ref a3_1, .int 0])), (a1_1, .inl (T 0, 40, .inl zI)), (a2_1, .inl (T 0, 40, .inl zI)), (a3_1, .inl (T 3, 40, .inr (.inr (.inr (.inl zD))))), (q2, .inr (1, [.ref a1_2, .ref a2_2, .int 0]))] H := hP
  have hD : va_D A [(h0, .inr (10, [.ref q1, .null, .null, .null, .null, .null])), (q1, .inr (0, [.ref a1_1, .ref a2_1, .ref a3_1, .int 0])), (a1_1, .inl (T 0, 40, .inl zI)), (a2_1, .inl (T 0, 40, .inl zI)), (a3_1, .inl (T 3, 40, .inr (.inr (.inr (.inl zD))))), (q2, .inr (1, [.ref a1_2, .ref a2_2, .int 0]))] := hD
  refine va_putF (D := D) (ci := 10) (v := .ref q2) (ty := .object "PageScribe$Words") (C := "PageScribe") (T := F_Ps) (N := 6) hx hb hts i_Ps t_Ps t_Ps_ok n_Ps hown hK hP hD hS 0 rfl rfl 1 (by decide) (hts _ k_2_59) (fun _ h9 => h9) rfl hin rfl (by decide +kernel) rfl rfl (Nat.le_of_ble_eq_true rfl) d_Ps_init_23 (fun H locs hP hD hS => ?_)
  have hP : va_P D classes [(h0, .inr (10, [.ref q1, .ref q2, .null, .null, .null, .null])), (q1, .inr (0, [.ref a1_1, .ref a2_1, .ref a3_1, .int 0])), (a1_1, .inl (T 0, 40, .inl zI)), (a2_1, .inl (T 0, 40, .inl zI)), (a3_1, .inl (T 3, 40, .inr (.inr (.inr (.inl zD))))), (q2, .inr (1, [.ref a1_2, .ref a2_2, .int 0]))] H := hP
  have hD : va_D A [(h0, .inr (10, [.ref q1, .ref q2, .null, .null, .null, .null])), (q1, .inr (0, [.ref a1_1, .ref a2_1, .ref a3_1, .int 0])), (a1_1, .inl (T 0, 40, .inl zI)), (a2_1, .inl (T 0, 40, .inl zI)), (a3_1, .inl (T 3, 40, .inr (.inr (.inr (.inl zD))))), (q2, .inr (1, [.ref a1_2, .ref a2_2, .int 0]))] := hD
  refine lv_aload_n hx hb d_Ps_init_26 rfl (lv_at hl 0 rfl) ?_
  refine va_new (ci := 2) (fs := [.null, .null, .null, .int 0, .null, .null, .int 0, .int 0]) (C := "PageScribe$Memory") (T := F_Memory) (N := 8) hx hb hts i_Memory t_Memory t_Memory_ok hown (hts _ k_1_87) (hts _ k_1_88) (hts _ k_1_5) hK hP hD hS hA rfl z_Memory (Nat.le_of_ble_eq_true rfl) (Nat.le_of_ble_eq_true rfl) d_Ps_init_27 (fun q3 H hP hD hS => ?_)
  have hP : va_P D classes [(h0, .inr (10, [.ref q1, .ref q2, .null, .null, .null, .null])), (q1, .inr (0, [.ref a1_1, .ref a2_1, .ref a3_1, .int 0])), (a1_1, .inl (T 0, 40, .inl zI)), (a2_1, .inl (T 0, 40, .inl zI)), (a3_1, .inl (T 3, 40, .inr (.inr (.inr (.inl zD))))), (q2, .inr (1, [.ref a1_2, .ref a2_2, .int 0])), (q3, .inr (2, [.null, .null, .null, .int 0, .null, .null, .int 0, .int 0]))] H := hP
  have hD : va_D A [(h0, .inr (10, [.ref q1, .ref q2, .null, .null, .null, .null])), (q1, .inr (0, [.ref a1_1, .ref a2_1, .ref a3_1, .int 0])), (a1_1, .inl (T 0, 40, .inl zI)), (a2_1, .inl (T 0, 40, .inl zI)), (a3_1, .inl (T 3, 40, .inr (.inr (.inr (.inl zD))))), (q2, .inr (1, [.ref a1_2, .ref a2_2, .int 0])), (q3, .inr (2, [.null, .null, .null, .int 0, .null, .null, .int 0, .int 0]))] := hD
  refine lv_dup hx hb d_Ps_init_30 rfl ?_
  refine lv_aload_n hx hb d_Ps_init_31 rfl (lv_at hl 0 rfl) ?_
  refine va_get (D := D) (ci := 10) (v := .ref q1) (C := "PageScribe") (T := F_Ps) (N := 6) hx hb hts i_Ps hown hK hP 0 rfl rfl 0 (by decide) (hts _ k_2_58) (fun _ h9 => h9) rfl d_Ps_init_32 ?_
  refine j_cv (wc := [(q3, .inr (2, [.null, .null, .null, .int 0, .null, .null, .int 0, .int 0]))]) (wr := [(h0, .inr (10, [.ref q1, .ref q2, .null, .null, .null, .null])), (q1, .inr (0, [.ref a1_1, .ref a2_1, .ref a3_1, .int 0])), (a1_1, .inl (T 0, 40, .inl zI)), (a2_1, .inl (T 0, 40, .inl zI)), (a3_1, .inl (T 3, 40, .inr (.inr (.inr (.inl zD))))), (q2, .inr (1, [.ref a1_2, .ref a2_2, .int 0]))]) hK hP hD hS hA [6] [0, 1, 2, 3, 4, 5] rfl rfl (by decide) (by decide) (va_runI (As := [.ref q1]) (rest := [.ref q3, .ref h0]) F (c_Memory_init l D T q3 q1 H.size) (j_cI (k := 1) hts k_1_91 k_1_5 k_1_89 k_1_90 rfl (by decide +kernel) ⟨Nat.le_of_ble_eq_true rfl, Nat.le_of_ble_eq_true rfl⟩) (j_preS hK hP hD [6] rfl (by decide) (fun _ _ _ _ h => h) (fun U _ hW => hE1.moved hW.alike)) rfl rfl hl.1 rfl (lv_room (Nat.le_of_ble_eq_true rfl)) d_Ps_init_35 ⟨Nat.le_of_ble_eq_true rfl, Nat.le_of_ble_eq_true rfl⟩) (fun u3 H locs hw hP hD hS => ?_)
  obtain ⟨st1, m1_1, m2_1, m3_1, b1_1, b2_1, b3_1, b4_1, b5_1, r1_1, r2_1, r3_1⟩ := u3
  have hP : va_P D classes [(h0, .inr (10, [.ref q1, .ref q2, .null, .null, .null, .null])), (q1, .inr (0, [.ref a1_1, .ref a2_1, .ref a3_1, .int 0])), (a1_1, .inl (T 0, 40, .inl zI)), (a2_1, .inl (T 0, 40, .inl zI)), (a3_1, .inl (T 3, 40, .inr (.inr (.inr (.inl zD))))), (q2, .inr (1, [.ref a1_2, .ref a2_2, .int 0])), (q3, .inr (2, [.ref q1, .ref st1, .ref m1_1, .int 1, .ref m2_1, .ref m3_1, .int 0, .int 0])), (st1, .inr (3, [.ref b1_1, .ref b2_1, .ref b3_1, .ref b4_1, .ref b5_1])), (b1_1, .inr (4, [.ref r1_1, .ref r2_1, .ref r3_1, .int 0])), (b2_1, .inl (T 0, 7, .inl roomF))] H := hP
  have hD : va_D A [(h0, .inr (10, [.ref q1, .ref q2, .null, .null, .null, .null])), (q1, .inr (0, [.ref a1_1, .ref a2_1, .ref a3_1, .int 0])), (a1_1, .inl (T 0, 40, .inl zI)), (a2_1, .inl (T 0, 40, .inl zI)), (a3_1, .inl (T 3, 40, .inr (.inr (.inr (.inl zD))))), (q2, .inr (1, [.ref a1_2, .ref a2_2, .int 0])), (q3, .inr (2, [.ref q1, .ref st1, .ref m1_1, .int 1, .ref m2_1, .ref m3_1, .int 0, .int 0])), (st1, .inr (3, [.ref b1_1, .ref b2_1, .ref b3_1, .ref b4_1, .ref b5_1])), (b1_1, .inr (4, [.ref r1_1, .ref r2_1, .ref r3_1, .int 0])), (b2_1, .inl (T 0, 7, .inl roomF))] := hD
  refine va_putF (D := D) (ci := 10) (v := .ref q3) (ty := .object "PageScribe$Memory") (C := "PageScribe") (T := F_Ps) (N := 6) hx hb hts i_Ps t_Ps t_Ps_ok n_Ps hown hK hP hD hS 0 rfl rfl 2 (by decide) (hts _ k_2_60) (fun _ h9 => h9) rfl hin rfl (by decide +kernel) rfl rfl (Nat.le_of_ble_eq_true rfl) d_Ps_init_38 (fun H locs hP hD hS => ?_)
  have hP : va_P D classes [(h0, .inr (10, [.ref q1, .ref q2, .ref q3, .null, .null, .null])), (q1, .inr (0, [.ref a1_1, .ref a2_1, .ref a3_1, .int 0])), (a1_1, .inl (T 0, 40, .inl zI)), (a2_1, .inl (T 0, 40, .inl zI)), (a3_1, .inl (T 3, 40, .inr (.inr (.inr (.inl zD))))), (q2, .inr (1, [.ref a1_2, .ref a2_2, .int 0])), (q3, .inr (2, [.ref q1, .ref st1, .ref m1_1, .int 1, .ref m2_1, .ref m3_1, .int 0, .int 0])), (st1, .inr (3, [.ref b1_1, .ref b2_1, .ref b3_1, .ref b4_1, .ref b5_1])), (b1_1, .inr (4, [.ref r1_1, .ref r2_1, .ref r3_1, .int 0])), (b2_1, .inl (T 0, 7, .inl roomF))] H := hP
  have hD : va_D A [(h0, .inr (10, [.ref q1, .ref q2, .ref q3, .null, .null, .null])), (q1, .inr (0, [.ref a1_1, .ref a2_1, .ref a3_1, .int 0])), (a1_1, .inl (T 0, 40, .inl zI)), (a2_1, .inl (T 0, 40, .inl zI)), (a3_1, .inl (T 3, 40, .inr (.inr (.inr (.inl zD))))), (q2, .inr (1, [.ref a1_2, .ref a2_2, .int 0])), (q3, .inr (2, [.ref q1, .ref st1, .ref m1_1, .int 1, .ref m2_1, .ref m3_1, .int 0, .int 0])), (st1, .inr (3, [.ref b1_1, .ref b2_1, .ref b3_1, .ref b4_1, .ref b5_1])), (b1_1, .inr (4, [.ref r1_1, .ref r2_1, .ref r3_1, .int 0])), (b2_1, .inl (T 0, 7, .inl roomF))] := hD
  refine lv_aload_n hx hb d_Ps_init_41 rfl (lv_at hl 0 rfl) ?_
  refine va_new (ci := 5) (fs := [.null, .null, .null, .int 0, .int 0, .int 0, .int 0, .double 0, .null, .null]) (C := "PageScribe$Reader") (T := F_Reader) (N := 10) hx hb hts i_Reader t_Reader t_Reader_ok hown (hts _ k_1_158) (hts _ k_1_159) (hts _ k_1_7) hK hP hD hS hA rfl z_Reader (Nat.le_of_ble_eq_true rfl) (Nat.le_of_ble_eq_true rfl) d_Ps_init_42 (fun q4 H hP hD hS => ?_)
  have hP : va_P D classes [(h0, .inr (10, [.ref q1, .ref q2, .ref q3, .null, .null, .null])), (q1, .inr (0, [.ref a1_1, .ref a2_1, .ref a3_1, .int 0])), (a1_1, .inl (T 0, 40, .inl zI)), (a2_1, .inl (T 0, 40, .inl zI)), (a3_1, .inl (T 3, 40, .inr (.inr (.inr (.inl zD))))), (q2, .inr (1, [.ref a1_2, .ref a2_2, .int 0])), (q3, .inr (2, [.ref q1, .ref st1, .ref m1_1, .int 1, .ref m2_1, .ref m3_1, .int 0, .int 0])), (st1, .inr (3, [.ref b1_1, .ref b2_1, .ref b3_1, .ref b4_1, .ref b5_1])), (b1_1, .inr (4, [.ref r1_1, .ref r2_1, .ref r3_1, .int 0])), (b2_1, .inl (T 0, 7, .inl roomF)), (q4, .inr (5, [.null, .null, .null, .int 0, .int 0, .int 0, .int 0, .double 0, .null, .null]))] H := hP
  have hD : va_D A [(h0, .inr (10, [.ref q1, .ref q2, .ref q3, .null, .null, .null])), (q1, .inr (0, [.ref a1_1, .ref a2_1, .ref a3_1, .int 0])), (a1_1, .inl (T 0, 40, .inl zI)), (a2_1, .inl (T 0, 40, .inl zI)), (a3_1, .inl (T 3, 40, .inr (.inr (.inr (.inl zD))))), (q2, .inr (1, [.ref a1_2, .ref a2_2, .int 0])), (q3, .inr (2, [.ref q1, .ref st1, .ref m1_1, .int 1, .ref m2_1, .ref m3_1, .int 0, .int 0])), (st1, .inr (3, [.ref b1_1, .ref b2_1, .ref b3_1, .ref b4_1, .ref b5_1])), (b1_1, .inr (4, [.ref r1_1, .ref r2_1, .ref r3_1, .int 0])), (b2_1, .inl (T 0, 7, .inl roomF)), (q4, .inr (5, [.null, .null, .null, .int 0, .int 0, .int 0, .int 0, .double 0, .null, .null]))] := hD
  refine lv_dup hx hb d_Ps_init_45 rfl ?_
  refine lv_aload_n hx hb d_Ps_init_46 rfl (lv_at hl 0 rfl) ?_
  refine va_get (D := D) (ci := 10) (v := .ref q2) (C := "PageScribe") (T := F_Ps) (N := 6) hx hb hts i_Ps hown hK hP 0 rfl rfl 1 (by decide) (hts _ k_2_59) (fun _ h9 => h9) rfl d_Ps_init_47 ?_
  refine lv_aload_n hx hb d_Ps_init_50 rfl (lv_at hl 0 rfl) ?_
  refine va_get (D := D) (ci := 10) (v := .ref q3) (C := "PageScribe") (T := F_Ps) (N := 6) hx hb hts i_Ps hown hK hP 0 rfl rfl 2 (by decide) (hts _ k_2_60) (fun _ h9 => h9) rfl d_Ps_init_51 ?_
  refine va_get (D := D) (ci := 2) (v := .ref st1) (C := "PageScribe$Memory") (T := F_Memory) (N := 8) hx hb hts i_Memory hown hK hP 6 rfl rfl 1 (by decide) (hts _ k_1_131) (fun _ h9 => h9) rfl d_Ps_init_54 ?_
  refine j_cv (wc := [(q4, .inr (5, [.null, .null, .null, .int 0, .int 0, .int 0, .int 0, .double 0, .null, .null]))]) (wr := [(h0, .inr (10, [.ref q1, .ref q2, .ref q3, .null, .null, .null])), (q1, .inr (0, [.ref a1_1, .ref a2_1, .ref a3_1, .int 0])), (a1_1, .inl (T 0, 40, .inl zI)), (a2_1, .inl (T 0, 40, .inl zI)), (a3_1, .inl (T 3, 40, .inr (.inr (.inr (.inl zD))))), (q2, .inr (1, [.ref a1_2, .ref a2_2, .int 0])), (q3, .inr (2, [.ref q1, .ref st1, .ref m1_1, .int 1, .ref m2_1, .ref m3_1, .int 0, .int 0])), (st1, .inr (3, [.ref b1_1, .ref b2_1, .ref b3_1, .ref b4_1, .ref b5_1])), (b1_1, .inr (4, [.ref r1_1, .ref r2_1, .ref r3_1, .int 0])), (b2_1, .inl (T 0, 7, .inl roomF))]) hK hP hD hS hA [10] [0, 1, 2, 3, 4, 5, 6, 7, 8, 9] rfl rfl (by decide) (by decide) (va_runI (As := [.ref q2, .ref st1]) (rest := [.ref q4, .ref h0]) F (c_Reader_init l D T q4 q2 st1 H.size) (j_cI (k := 2) hts k_1_162 k_1_7 k_1_160 k_1_161 rfl (by decide +kernel) ⟨Nat.le_of_ble_eq_true rfl, Nat.le_of_ble_eq_true rfl⟩) (j_preS hK hP hD [10] rfl (by decide) (fun _ _ _ _ h => h) (fun _ _ _ => trivial)) rfl rfl hl.1 rfl (lv_room (Nat.le_of_ble_eq_true rfl)) d_Ps_init_57 ⟨Nat.le_of_ble_eq_true rfl, Nat.le_of_ble_eq_true rfl⟩) (fun u4 H locs hw hP hD hS => ?_)
  obtain ⟨tx1, gt1, bg1⟩ := u4
  have hP : va_P D classes [(h0, .inr (10, [.ref q1, .ref q2, .ref q3, .null, .null, .null])), (q1, .inr (0, [.ref a1_1, .ref a2_1, .ref a3_1, .int 0])), (a1_1, .inl (T 0, 40, .inl zI)), (a2_1, .inl (T 0, 40, .inl zI)), (a3_1, .inl (T 3, 40, .inr (.inr (.inr (.inl zD))))), (q2, .inr (1, [.ref a1_2, .ref a2_2, .int 0])), (q3, .inr (2, [.ref q1, .ref st1, .ref m1_1, .int 1, .ref m2_1, .ref m3_1, .int 0, .int 0])), (st1, .inr (3, [.ref b1_1, .ref b2_1, .ref b3_1, .ref b4_1, .ref b5_1])), (b1_1, .inr (4, [.ref r1_1, .ref r2_1, .ref r3_1, .int 0])), (b2_1, .inl (T 0, 7, .inl roomF)), (q4, .inr (5, [.ref q2, .ref st1, .ref tx1, .int 0, .int 0, .int 0, .int 0, .double 0, .ref gt1, .ref bg1])), (tx1, .inl (T 2, 120, .inl zI))] H := hP
  have hD : va_D A [(h0, .inr (10, [.ref q1, .ref q2, .ref q3, .null, .null, .null])), (q1, .inr (0, [.ref a1_1, .ref a2_1, .ref a3_1, .int 0])), (a1_1, .inl (T 0, 40, .inl zI)), (a2_1, .inl (T 0, 40, .inl zI)), (a3_1, .inl (T 3, 40, .inr (.inr (.inr (.inl zD))))), (q2, .inr (1, [.ref a1_2, .ref a2_2, .int 0])), (q3, .inr (2, [.ref q1, .ref st1, .ref m1_1, .int 1, .ref m2_1, .ref m3_1, .int 0, .int 0])), (st1, .inr (3, [.ref b1_1, .ref b2_1, .ref b3_1, .ref b4_1, .ref b5_1])), (b1_1, .inr (4, [.ref r1_1, .ref r2_1, .ref r3_1, .int 0])), (b2_1, .inl (T 0, 7, .inl roomF)), (q4, .inr (5, [.ref q2, .ref st1, .ref tx1, .int 0, .int 0, .int 0, .int 0, .double 0, .ref gt1, .ref bg1])), (tx1, .inl (T 2, 120, .inl zI))] := hD
  refine va_putF (D := D) (ci := 10) (v := .ref q4) (ty := .object "PageScribe$Reader") (C := "PageScribe") (T := F_Ps) (N := 6) hx hb hts i_Ps t_Ps t_Ps_ok n_Ps hown hK hP hD hS 0 rfl rfl 3 (by decide) (hts _ k_2_61) (fun _ h9 => h9) rfl hin rfl (by decide +kernel) rfl rfl (Nat.le_of_ble_eq_true rfl) d_Ps_init_60 (fun H locs hP hD hS => ?_)
  have hP : va_P D classes [(h0, .inr (10, [.ref q1, .ref q2, .ref q3, .ref q4, .null, .null])), (q1, .inr (0, [.ref a1_1, .ref a2_1, .ref a3_1, .int 0])), (a1_1, .inl (T 0, 40, .inl zI)), (a2_1, .inl (T 0, 40, .inl zI)), (a3_1, .inl (T 3, 40, .inr (.inr (.inr (.inl zD))))), (q2, .inr (1, [.ref a1_2, .ref a2_2, .int 0])), (q3, .inr (2, [.ref q1, .ref st1, .ref m1_1, .int 1, .ref m2_1, .ref m3_1, .int 0, .int 0])), (st1, .inr (3, [.ref b1_1, .ref b2_1, .ref b3_1, .ref b4_1, .ref b5_1])), (b1_1, .inr (4, [.ref r1_1, .ref r2_1, .ref r3_1, .int 0])), (b2_1, .inl (T 0, 7, .inl roomF)), (q4, .inr (5, [.ref q2, .ref st1, .ref tx1, .int 0, .int 0, .int 0, .int 0, .double 0, .ref gt1, .ref bg1])), (tx1, .inl (T 2, 120, .inl zI))] H := hP
  have hD : va_D A [(h0, .inr (10, [.ref q1, .ref q2, .ref q3, .ref q4, .null, .null])), (q1, .inr (0, [.ref a1_1, .ref a2_1, .ref a3_1, .int 0])), (a1_1, .inl (T 0, 40, .inl zI)), (a2_1, .inl (T 0, 40, .inl zI)), (a3_1, .inl (T 3, 40, .inr (.inr (.inr (.inl zD))))), (q2, .inr (1, [.ref a1_2, .ref a2_2, .int 0])), (q3, .inr (2, [.ref q1, .ref st1, .ref m1_1, .int 1, .ref m2_1, .ref m3_1, .int 0, .int 0])), (st1, .inr (3, [.ref b1_1, .ref b2_1, .ref b3_1, .ref b4_1, .ref b5_1])), (b1_1, .inr (4, [.ref r1_1, .ref r2_1, .ref r3_1, .int 0])), (b2_1, .inl (T 0, 7, .inl roomF)), (q4, .inr (5, [.ref q2, .ref st1, .ref tx1, .int 0, .int 0, .int 0, .int 0, .double 0, .ref gt1, .ref bg1])), (tx1, .inl (T 2, 120, .inl zI))] := hD
  refine lv_aload_n hx hb d_Ps_init_63 rfl (lv_at hl 0 rfl) ?_
  refine va_new (ci := 6) (fs := [.null, .int 0, .int 0, .null, .float 0, .null, .null, .null, .int 0]) (C := "PageScribe$Canvas") (T := F_Canvas) (N := 9) hx hb hts i_Canvas t_Canvas t_Canvas_ok hown (hts _ k_1_201) (hts _ k_1_202) (hts _ k_1_8) hK hP hD hS hA rfl z_Canvas (Nat.le_of_ble_eq_true rfl) (Nat.le_of_ble_eq_true rfl) d_Ps_init_64 (fun q5 H hP hD hS => ?_)
  have hP : va_P D classes [(h0, .inr (10, [.ref q1, .ref q2, .ref q3, .ref q4, .null, .null])), (q1, .inr (0, [.ref a1_1, .ref a2_1, .ref a3_1, .int 0])), (a1_1, .inl (T 0, 40, .inl zI)), (a2_1, .inl (T 0, 40, .inl zI)), (a3_1, .inl (T 3, 40, .inr (.inr (.inr (.inl zD))))), (q2, .inr (1, [.ref a1_2, .ref a2_2, .int 0])), (q3, .inr (2, [.ref q1, .ref st1, .ref m1_1, .int 1, .ref m2_1, .ref m3_1, .int 0, .int 0])), (st1, .inr (3, [.ref b1_1, .ref b2_1, .ref b3_1, .ref b4_1, .ref b5_1])), (b1_1, .inr (4, [.ref r1_1, .ref r2_1, .ref r3_1, .int 0])), (b2_1, .inl (T 0, 7, .inl roomF)), (q4, .inr (5, [.ref q2, .ref st1, .ref tx1, .int 0, .int 0, .int 0, .int 0, .double 0, .ref gt1, .ref bg1])), (tx1, .inl (T 2, 120, .inl zI)), (q5, .inr (6, [.null, .int 0, .int 0, .null, .float 0, .null, .null, .null, .int 0]))] H := hP
  have hD : va_D A [(h0, .inr (10, [.ref q1, .ref q2, .ref q3, .ref q4, .null, .null])), (q1, .inr (0, [.ref a1_1, .ref a2_1, .ref a3_1, .int 0])), (a1_1, .inl (T 0, 40, .inl zI)), (a2_1, .inl (T 0, 40, .inl zI)), (a3_1, .inl (T 3, 40, .inr (.inr (.inr (.inl zD))))), (q2, .inr (1, [.ref a1_2, .ref a2_2, .int 0])), (q3, .inr (2, [.ref q1, .ref st1, .ref m1_1, .int 1, .ref m2_1, .ref m3_1, .int 0, .int 0])), (st1, .inr (3, [.ref b1_1, .ref b2_1, .ref b3_1, .ref b4_1, .ref b5_1])), (b1_1, .inr (4, [.ref r1_1, .ref r2_1, .ref r3_1, .int 0])), (b2_1, .inl (T 0, 7, .inl roomF)), (q4, .inr (5, [.ref q2, .ref st1, .ref tx1, .int 0, .int 0, .int 0, .int 0, .double 0, .ref gt1, .ref bg1])), (tx1, .inl (T 2, 120, .inl zI)), (q5, .inr (6, [.null, .int 0, .int 0, .null, .float 0, .null, .null, .null, .int 0]))] := hD
  refine lv_dup hx hb d_Ps_init_67 rfl ?_
  refine lv_aload_n hx hb d_Ps_init_68 rfl (lv_at hl 0 rfl) ?_
  refine va_get (D := D) (ci := 10) (v := .ref q1) (C := "PageScribe") (T := F_Ps) (N := 6) hx hb hts i_Ps hown hK hP 0 rfl rfl 0 (by decide) (hts _ k_2_58) (fun _ h9 => h9) rfl d_Ps_init_69 ?_
  refine lv_iload_n hx hb d_Ps_init_72 rfl (lv_at hl 1 rfl) ?_
  refine lv_iload_n hx hb d_Ps_init_73 rfl (lv_at hl 2 rfl) ?_
  refine j_cv (wc := [(q5, .inr (6, [.null, .int 0, .int 0, .null, .float 0, .null, .null, .null, .int 0]))]) (wr := [(h0, .inr (10, [.ref q1, .ref q2, .ref q3, .ref q4, .null, .null])), (q1, .inr (0, [.ref a1_1, .ref a2_1, .ref a3_1, .int 0])), (a1_1, .inl (T 0, 40, .inl zI)), (a2_1, .inl (T 0, 40, .inl zI)), (a3_1, .inl (T 3, 40, .inr (.inr (.inr (.inl zD))))), (q2, .inr (1, [.ref a1_2, .ref a2_2, .int 0])), (q3, .inr (2, [.ref q1, .ref st1, .ref m1_1, .int 1, .ref m2_1, .ref m3_1, .int 0, .int 0])), (st1, .inr (3, [.ref b1_1, .ref b2_1, .ref b3_1, .ref b4_1, .ref b5_1])), (b1_1, .inr (4, [.ref r1_1, .ref r2_1, .ref r3_1, .int 0])), (b2_1, .inl (T 0, 7, .inl roomF)), (q4, .inr (5, [.ref q2, .ref st1, .ref tx1, .int 0, .int 0, .int 0, .int 0, .double 0, .ref gt1, .ref bg1])), (tx1, .inl (T 2, 120, .inl zI))]) hK hP hD hS hA [12] [0, 1, 2, 3, 4, 5, 6, 7, 8, 9, 10, 11] rfl rfl (by decide) (by decide) (va_runI (As := [.ref q1, .int p0, .int p1]) (rest := [.ref q5, .ref h0]) F (c_Canvas_init l D T q5 q1 p0 p1 H.size) (j_cI (k := 3) hts k_1_205 k_1_8 k_1_203 k_1_204 rfl (by decide +kernel) ⟨Nat.le_of_ble_eq_true rfl, Nat.le_of_ble_eq_true rfl⟩) (j_preS hK hP hD [12] rfl (by decide) (fun _ _ _ _ h => h) (fun _ _ _ => trivial)) rfl rfl hl.1 rfl (lv_room (Nat.le_of_ble_eq_true rfl)) d_Ps_init_74 ⟨Nat.le_of_ble_eq_true rfl, Nat.le_of_ble_eq_true rfl⟩) (fun u5 H locs hw hP hD hS => ?_)
  obtain ⟨C1, Rr1, lv1, ac1, al1, be1⟩ := u5
  have hP : va_P D classes [(h0, .inr (10, [.ref q1, .ref q2, .ref q3, .ref q4, .null, .null])), (q1, .inr (0, [.ref a1_1, .ref a2_1, .ref a3_1, .int 0])), (a1_1, .inl (T 0, 40, .inl zI)), (a2_1, .inl (T 0, 40, .inl zI)), (a3_1, .inl (T 3, 40, .inr (.inr (.inr (.inl zD))))), (q2, .inr (1, [.ref a1_2, .ref a2_2, .int 0])), (q3, .inr (2, [.ref q1, .ref st1, .ref m1_1, .int 1, .ref m2_1, .ref m3_1, .int 0, .int 0])), (st1, .inr (3, [.ref b1_1, .ref b2_1, .ref b3_1, .ref b4_1, .ref b5_1])), (b1_1, .inr (4, [.ref r1_1, .ref r2_1, .ref r3_1, .int 0])), (b2_1, .inl (T 0, 7, .inl roomF)), (q4, .inr (5, [.ref q2, .ref st1, .ref tx1, .int 0, .int 0, .int 0, .int 0, .double 0, .ref gt1, .ref bg1])), (tx1, .inl (T 2, 120, .inl zI)), (q5, .inr (6, [.ref q1, .int (nI C1), .int (nI Rr1), .ref lv1, .float 0x3f800000, .ref ac1, .ref al1, .ref be1, .int 0])), (lv1, .inl (T 0, (C1 * Rr1), .inl zI))] H := hP
  have hD : va_D A [(h0, .inr (10, [.ref q1, .ref q2, .ref q3, .ref q4, .null, .null])), (q1, .inr (0, [.ref a1_1, .ref a2_1, .ref a3_1, .int 0])), (a1_1, .inl (T 0, 40, .inl zI)), (a2_1, .inl (T 0, 40, .inl zI)), (a3_1, .inl (T 3, 40, .inr (.inr (.inr (.inl zD))))), (q2, .inr (1, [.ref a1_2, .ref a2_2, .int 0])), (q3, .inr (2, [.ref q1, .ref st1, .ref m1_1, .int 1, .ref m2_1, .ref m3_1, .int 0, .int 0])), (st1, .inr (3, [.ref b1_1, .ref b2_1, .ref b3_1, .ref b4_1, .ref b5_1])), (b1_1, .inr (4, [.ref r1_1, .ref r2_1, .ref r3_1, .int 0])), (b2_1, .inl (T 0, 7, .inl roomF)), (q4, .inr (5, [.ref q2, .ref st1, .ref tx1, .int 0, .int 0, .int 0, .int 0, .double 0, .ref gt1, .ref bg1])), (tx1, .inl (T 2, 120, .inl zI)), (q5, .inr (6, [.ref q1, .int (nI C1), .int (nI Rr1), .ref lv1, .float 0x3f800000, .ref ac1, .ref al1, .ref be1, .int 0])), (lv1, .inl (T 0, (C1 * Rr1), .inl zI))] := hD
  have hw5 : nI C1 = colOf p0 ∧ nI Rr1 = rowOf p1 ∧ C1 ≤ 24 ∧ Rr1 ≤ 16 := hw
  refine va_putF (D := D) (ci := 10) (v := .ref q5) (ty := .object "PageScribe$Canvas") (C := "PageScribe") (T := F_Ps) (N := 6) hx hb hts i_Ps t_Ps t_Ps_ok n_Ps hown hK hP hD hS 0 rfl rfl 4 (by decide) (hts _ k_2_62) (fun _ h9 => h9) rfl hin rfl (by decide +kernel) rfl rfl (Nat.le_of_ble_eq_true rfl) d_Ps_init_77 (fun H locs hP hD hS => ?_)
  have hP : va_P D classes [(h0, .inr (10, [.ref q1, .ref q2, .ref q3, .ref q4, .ref q5, .null])), (q1, .inr (0, [.ref a1_1, .ref a2_1, .ref a3_1, .int 0])), (a1_1, .inl (T 0, 40, .inl zI)), (a2_1, .inl (T 0, 40, .inl zI)), (a3_1, .inl (T 3, 40, .inr (.inr (.inr (.inl zD))))), (q2, .inr (1, [.ref a1_2, .ref a2_2, .int 0])), (q3, .inr (2, [.ref q1, .ref st1, .ref m1_1, .int 1, .ref m2_1, .ref m3_1, .int 0, .int 0])), (st1, .inr (3, [.ref b1_1, .ref b2_1, .ref b3_1, .ref b4_1, .ref b5_1])), (b1_1, .inr (4, [.ref r1_1, .ref r2_1, .ref r3_1, .int 0])), (b2_1, .inl (T 0, 7, .inl roomF)), (q4, .inr (5, [.ref q2, .ref st1, .ref tx1, .int 0, .int 0, .int 0, .int 0, .double 0, .ref gt1, .ref bg1])), (tx1, .inl (T 2, 120, .inl zI)), (q5, .inr (6, [.ref q1, .int (nI C1), .int (nI Rr1), .ref lv1, .float 0x3f800000, .ref ac1, .ref al1, .ref be1, .int 0])), (lv1, .inl (T 0, (C1 * Rr1), .inl zI))] H := hP
  have hD : va_D A [(h0, .inr (10, [.ref q1, .ref q2, .ref q3, .ref q4, .ref q5, .null])), (q1, .inr (0, [.ref a1_1, .ref a2_1, .ref a3_1, .int 0])), (a1_1, .inl (T 0, 40, .inl zI)), (a2_1, .inl (T 0, 40, .inl zI)), (a3_1, .inl (T 3, 40, .inr (.inr (.inr (.inl zD))))), (q2, .inr (1, [.ref a1_2, .ref a2_2, .int 0])), (q3, .inr (2, [.ref q1, .ref st1, .ref m1_1, .int 1, .ref m2_1, .ref m3_1, .int 0, .int 0])), (st1, .inr (3, [.ref b1_1, .ref b2_1, .ref b3_1, .ref b4_1, .ref b5_1])), (b1_1, .inr (4, [.ref r1_1, .ref r2_1, .ref r3_1, .int 0])), (b2_1, .inl (T 0, 7, .inl roomF)), (q4, .inr (5, [.ref q2, .ref st1, .ref tx1, .int 0, .int 0, .int 0, .int 0, .double 0, .ref gt1, .ref bg1])), (tx1, .inl (T 2, 120, .inl zI)), (q5, .inr (6, [.ref q1, .int (nI C1), .int (nI Rr1), .ref lv1, .float 0x3f800000, .ref ac1, .ref al1, .ref be1, .int 0])), (lv1, .inl (T 0, (C1 * Rr1), .inl zI))] := hD
  refine lv_aload_n hx hb d_Ps_init_80 rfl (lv_at hl 0 rfl) ?_
  refine va_new (ci := 7) (fs := [.null, .null, .null, .null, .null, .int 0, .int 0, .int 0, .int 0, .int 0, .int 0]) (C := "PageScribe$Engine") (T := F_Engine) (N := 11) hx hb hts i_Engine t_Engine t_Engine_ok hown (hts _ k_1_236) (hts _ k_1_237) (hts _ k_1_9) hK hP hD hS hA rfl z_Engine (Nat.le_of_ble_eq_true rfl) (Nat.le_of_ble_eq_true rfl) d_Ps_init_81 (fun q6 H hP hD hS => ?_)
  have hP : va_P D classes [(h0, .inr (10, [.ref q1, .ref q2, .ref q3, .ref q4, .ref q5, .null])), (q1, .inr (0, [.ref a1_1, .ref a2_1, .ref a3_1, .int 0])), (a1_1, .inl (T 0, 40, .inl zI)), (a2_1, .inl (T 0, 40, .inl zI)), (a3_1, .inl (T 3, 40, .inr (.inr (.inr (.inl zD))))), (q2, .inr (1, [.ref a1_2, .ref a2_2, .int 0])), (q3, .inr (2, [.ref q1, .ref st1, .ref m1_1, .int 1, .ref m2_1, .ref m3_1, .int 0, .int 0])), (st1, .inr (3, [.ref b1_1, .ref b2_1, .ref b3_1, .ref b4_1, .ref b5_1])), (b1_1, .inr (4, [.ref r1_1, .ref r2_1, .ref r3_1, .int 0])), (b2_1, .inl (T 0, 7, .inl roomF)), (q4, .inr (5, [.ref q2, .ref st1, .ref tx1, .int 0, .int 0, .int 0, .int 0, .double 0, .ref gt1, .ref bg1])), (tx1, .inl (T 2, 120, .inl zI)), (q5, .inr (6, [.ref q1, .int (nI C1), .int (nI Rr1), .ref lv1, .float 0x3f800000, .ref ac1, .ref al1, .ref be1, .int 0])), (lv1, .inl (T 0, (C1 * Rr1), .inl zI)), (q6, .inr (7, [.null, .null, .null, .null, .null, .int 0, .int 0, .int 0, .int 0, .int 0, .int 0]))] H := hP
  have hD : va_D A [(h0, .inr (10, [.ref q1, .ref q2, .ref q3, .ref q4, .ref q5, .null])), (q1, .inr (0, [.ref a1_1, .ref a2_1, .ref a3_1, .int 0])), (a1_1, .inl (T 0, 40, .inl zI)), (a2_1, .inl (T 0, 40, .inl zI)), (a3_1, .inl (T 3, 40, .inr (.inr (.inr (.inl zD))))), (q2, .inr (1, [.ref a1_2, .ref a2_2, .int 0])), (q3, .inr (2, [.ref q1, .ref st1, .ref m1_1, .int 1, .ref m2_1, .ref m3_1, .int 0, .int 0])), (st1, .inr (3, [.ref b1_1, .ref b2_1, .ref b3_1, .ref b4_1, .ref b5_1])), (b1_1, .inr (4, [.ref r1_1, .ref r2_1, .ref r3_1, .int 0])), (b2_1, .inl (T 0, 7, .inl roomF)), (q4, .inr (5, [.ref q2, .ref st1, .ref tx1, .int 0, .int 0, .int 0, .int 0, .double 0, .ref gt1, .ref bg1])), (tx1, .inl (T 2, 120, .inl zI)), (q5, .inr (6, [.ref q1, .int (nI C1), .int (nI Rr1), .ref lv1, .float 0x3f800000, .ref ac1, .ref al1, .ref be1, .int 0])), (lv1, .inl (T 0, (C1 * Rr1), .inl zI)), (q6, .inr (7, [.null, .null, .null, .null, .null, .int 0, .int 0, .int 0, .int 0, .int 0, .int 0]))] := hD
  refine lv_dup hx hb d_Ps_init_84 rfl ?_
  refine lv_aload_n hx hb d_Ps_init_85 rfl (lv_at hl 0 rfl) ?_
  refine va_get (D := D) (ci := 10) (v := .ref q1) (C := "PageScribe") (T := F_Ps) (N := 6) hx hb hts i_Ps hown hK hP 0 rfl rfl 0 (by decide) (hts _ k_2_58) (fun _ h9 => h9) rfl d_Ps_init_86 ?_
  refine lv_aload_n hx hb d_Ps_init_89 rfl (lv_at hl 0 rfl) ?_
  refine va_get (D := D) (ci := 10) (v := .ref q3) (C := "PageScribe") (T := F_Ps) (N := 6) hx hb hts i_Ps hown hK hP 0 rfl rfl 2 (by decide) (hts _ k_2_60) (fun _ h9 => h9) rfl d_Ps_init_90 ?_
  refine lv_aload_n hx hb d_Ps_init_93 rfl (lv_at hl 0 rfl) ?_
  refine va_get (D := D) (ci := 10) (v := .ref q5) (C := "PageScribe") (T := F_Ps) (N := 6) hx hb hts i_Ps hown hK hP 0 rfl rfl 4 (by decide) (hts _ k_2_62) (fun _ h9 => h9) rfl d_Ps_init_94 ?_
  refine j_cv (wc := [(q6, .inr (7, [.null, .null, .null, .null, .null, .int 0, .int 0, .int 0, .int 0, .int 0, .int 0]))]) (wr := [(h0, .inr (10, [.ref q1, .ref q2, .ref q3, .ref q4, .ref q5, .null])), (q1, .inr (0, [.ref a1_1, .ref a2_1, .ref a3_1, .int 0])), (a1_1, .inl (T 0, 40, .inl zI)), (a2_1, .inl (T 0, 40, .inl zI)), (a3_1, .inl (T 3, 40, .inr (.inr (.inr (.inl zD))))), (q2, .inr (1, [.ref a1_2, .ref a2_2, .int 0])), (q3, .inr (2, [.ref q1, .ref st1, .ref m1_1, .int 1, .ref m2_1, .ref m3_1, .int 0, .int 0])), (st1, .inr (3, [.ref b1_1, .ref b2_1, .ref b3_1, .ref b4_1, .ref b5_1])), (b1_1, .inr (4, [.ref r1_1, .ref r2_1, .ref r3_1, .int 0])), (b2_1, .inl (T 0, 7, .inl roomF)), (q4, .inr (5, [.ref q2, .ref st1, .ref tx1, .int 0, .int 0, .int 0, .int 0, .double 0, .ref gt1, .ref bg1])), (tx1, .inl (T 2, 120, .inl zI)), (q5, .inr (6, [.ref q1, .int (nI C1), .int (nI Rr1), .ref lv1, .float 0x3f800000, .ref ac1, .ref al1, .ref be1, .int 0])), (lv1, .inl (T 0, (C1 * Rr1), .inl zI))]) hK hP hD hS hA [14] [0, 1, 2, 3, 4, 5, 6, 7, 8, 9, 10, 11, 12, 13] rfl rfl (by decide) (by decide) (va_runI (As := [.ref q1, .ref q3, .ref q5]) (rest := [.ref q6, .ref h0]) F (c_Engine_init l D T q6 q1 q3 q5 H.size) (j_cI (k := 3) hts k_2_0 k_1_9 k_1_238 k_1_239 rfl (by decide +kernel) ⟨Nat.le_of_ble_eq_true rfl, Nat.le_of_ble_eq_true rfl⟩) (j_preS hK hP hD [14] rfl (by decide) (fun _ _ _ _ h => h) (fun _ _ _ => trivial)) rfl rfl hl.1 rfl (lv_room (Nat.le_of_ble_eq_true rfl)) d_Ps_init_97 ⟨Nat.le_of_ble_eq_true rfl, Nat.le_of_ble_eq_true rfl⟩) (fun u6 H locs hw hP hD hS => ?_)
  obtain ⟨su1, tr1⟩ := u6
  have hP : va_P D classes [(h0, .inr (10, [.ref q1, .ref q2, .ref q3, .ref q4, .ref q5, .null])), (q1, .inr (0, [.ref a1_1, .ref a2_1, .ref a3_1, .int 0])), (a1_1, .inl (T 0, 40, .inl zI)), (a2_1, .inl (T 0, 40, .inl zI)), (a3_1, .inl (T 3, 40, .inr (.inr (.inr (.inl zD))))), (q2, .inr (1, [.ref a1_2, .ref a2_2, .int 0])), (q3, .inr (2, [.ref q1, .ref st1, .ref m1_1, .int 1, .ref m2_1, .ref m3_1, .int 0, .int 0])), (st1, .inr (3, [.ref b1_1, .ref b2_1, .ref b3_1, .ref b4_1, .ref b5_1])), (b1_1, .inr (4, [.ref r1_1, .ref r2_1, .ref r3_1, .int 0])), (b2_1, .inl (T 0, 7, .inl roomF)), (q4, .inr (5, [.ref q2, .ref st1, .ref tx1, .int 0, .int 0, .int 0, .int 0, .double 0, .ref gt1, .ref bg1])), (tx1, .inl (T 2, 120, .inl zI)), (q5, .inr (6, [.ref q1, .int (nI C1), .int (nI Rr1), .ref lv1, .float 0x3f800000, .ref ac1, .ref al1, .ref be1, .int 0])), (lv1, .inl (T 0, (C1 * Rr1), .inl zI)), (q6, .inr (7, [.ref q1, .ref q3, .ref q5, .ref su1, .ref tr1, .int 0, .int 0, .int 0, .int 0, .int 0, .int 0]))] H := hP
  have hD : va_D A [(h0, .inr (10, [.ref q1, .ref q2, .ref q3, .ref q4, .ref q5, .null])), (q1, .inr (0, [.ref a1_1, .ref a2_1, .ref a3_1, .int 0])), (a1_1, .inl (T 0, 40, .inl zI)), (a2_1, .inl (T 0, 40, .inl zI)), (a3_1, .inl (T 3, 40, .inr (.inr (.inr (.inl zD))))), (q2, .inr (1, [.ref a1_2, .ref a2_2, .int 0])), (q3, .inr (2, [.ref q1, .ref st1, .ref m1_1, .int 1, .ref m2_1, .ref m3_1, .int 0, .int 0])), (st1, .inr (3, [.ref b1_1, .ref b2_1, .ref b3_1, .ref b4_1, .ref b5_1])), (b1_1, .inr (4, [.ref r1_1, .ref r2_1, .ref r3_1, .int 0])), (b2_1, .inl (T 0, 7, .inl roomF)), (q4, .inr (5, [.ref q2, .ref st1, .ref tx1, .int 0, .int 0, .int 0, .int 0, .double 0, .ref gt1, .ref bg1])), (tx1, .inl (T 2, 120, .inl zI)), (q5, .inr (6, [.ref q1, .int (nI C1), .int (nI Rr1), .ref lv1, .float 0x3f800000, .ref ac1, .ref al1, .ref be1, .int 0])), (lv1, .inl (T 0, (C1 * Rr1), .inl zI)), (q6, .inr (7, [.ref q1, .ref q3, .ref q5, .ref su1, .ref tr1, .int 0, .int 0, .int 0, .int 0, .int 0, .int 0]))] := hD
  refine va_putF (D := D) (ci := 10) (v := .ref q6) (ty := .object "PageScribe$Engine") (C := "PageScribe") (T := F_Ps) (N := 6) hx hb hts i_Ps t_Ps t_Ps_ok n_Ps hown hK hP hD hS 0 rfl rfl 5 (by decide) (hts _ k_2_63) (fun _ h9 => h9) rfl hin rfl (by decide +kernel) rfl rfl (Nat.le_of_ble_eq_true rfl) d_Ps_init_100 (fun H locs hP hD hS => ?_)
  have hP : va_P D classes [(h0, .inr (10, [.ref q1, .ref q2, .ref q3, .ref q4, .ref q5, .ref q6])), (q1, .inr (0, [.ref a1_1, .ref a2_1, .ref a3_1, .int 0])), (a1_1, .inl (T 0, 40, .inl zI)), (a2_1, .inl (T 0, 40, .inl zI)), (a3_1, .inl (T 3, 40, .inr (.inr (.inr (.inl zD))))), (q2, .inr (1, [.ref a1_2, .ref a2_2, .int 0])), (q3, .inr (2, [.ref q1, .ref st1, .ref m1_1, .int 1, .ref m2_1, .ref m3_1, .int 0, .int 0])), (st1, .inr (3, [.ref b1_1, .ref b2_1, .ref b3_1, .ref b4_1, .ref b5_1])), (b1_1, .inr (4, [.ref r1_1, .ref r2_1, .ref r3_1, .int 0])), (b2_1, .inl (T 0, 7, .inl roomF)), (q4, .inr (5, [.ref q2, .ref st1, .ref tx1, .int 0, .int 0, .int 0, .int 0, .double 0, .ref gt1, .ref bg1])), (tx1, .inl (T 2, 120, .inl zI)), (q5, .inr (6, [.ref q1, .int (nI C1), .int (nI Rr1), .ref lv1, .float 0x3f800000, .ref ac1, .ref al1, .ref be1, .int 0])), (lv1, .inl (T 0, (C1 * Rr1), .inl zI)), (q6, .inr (7, [.ref q1, .ref q3, .ref q5, .ref su1, .ref tr1, .int 0, .int 0, .int 0, .int 0, .int 0, .int 0]))] H := hP
  have hD : va_D A [(h0, .inr (10, [.ref q1, .ref q2, .ref q3, .ref q4, .ref q5, .ref q6])), (q1, .inr (0, [.ref a1_1, .ref a2_1, .ref a3_1, .int 0])), (a1_1, .inl (T 0, 40, .inl zI)), (a2_1, .inl (T 0, 40, .inl zI)), (a3_1, .inl (T 3, 40, .inr (.inr (.inr (.inl zD))))), (q2, .inr (1, [.ref a1_2, .ref a2_2, .int 0])), (q3, .inr (2, [.ref q1, .ref st1, .ref m1_1, .int 1, .ref m2_1, .ref m3_1, .int 0, .int 0])), (st1, .inr (3, [.ref b1_1, .ref b2_1, .ref b3_1, .ref b4_1, .ref b5_1])), (b1_1, .inr (4, [.ref r1_1, .ref r2_1, .ref r3_1, .int 0])), (b2_1, .inl (T 0, 7, .inl roomF)), (q4, .inr (5, [.ref q2, .ref st1, .ref tx1, .int 0, .int 0, .int 0, .int 0, .double 0, .ref gt1, .ref bg1])), (tx1, .inl (T 2, 120, .inl zI)), (q5, .inr (6, [.ref q1, .int (nI C1), .int (nI Rr1), .ref lv1, .float 0x3f800000, .ref ac1, .ref al1, .ref be1, .int 0])), (lv1, .inl (T 0, (C1 * Rr1), .inl zI)), (q6, .inr (7, [.ref q1, .ref q3, .ref q5, .ref su1, .ref tr1, .int 0, .int 0, .int 0, .int 0, .int 0, .int 0]))] := hD
  have hP9 := hP.sub (ws' := [(h0, .inr (10, [.ref q1, .ref q2, .ref q3, .ref q4, .ref q5, .ref q6])), (q1, .inr (0, [.ref a1_1, .ref a2_1, .ref a3_1, .int 0])), (a1_1, .inl (T 0, 40, .inl zI)), (a2_1, .inl (T 0, 40, .inl zI)), (a3_1, .inl (T 3, 40, .inr (.inr (.inr (.inl zD))))), (q2, .inr (1, [.ref a1_2, .ref a2_2, .int 0])), (q3, .inr (2, [.ref q1, .ref st1, .ref m1_1, .int 1, .ref m2_1, .ref m3_1, .int 0, .int 0])), (st1, .inr (3, [.ref b1_1, .ref b2_1, .ref b3_1, .ref b4_1, .ref b5_1])), (b1_1, .inr (4, [.ref r1_1, .ref r2_1, .ref r3_1, .int 0])), (b2_1, .inl (T 0, 7, .inl roomF)), (q4, .inr (5, [.ref q2, .ref st1, .ref tx1, .int 0, .int 0, .int 0, .int 0, .double 0, .ref gt1, .ref bg1])), (tx1, .inl (T 2, 120, .inl zI)), (q5, .inr (6, [.ref q1, .int (nI C1), .int (nI Rr1), .ref lv1, .float 0x3f800000, .ref ac1, .ref al1, .ref be1, .int 0])), (lv1, .inl (T 0, (C1 * Rr1), .inl zI)), (q6, .inr (7, [.ref q1, .ref q3, .ref q5, .ref su1, .ref tr1, .int 0, .int 0, .int 0, .int 0, .int 0, .int 0]))]) [0, 1, 2, 3, 4, 5, 6, 7, 8, 9, 10, 11, 12, 13, 14] rfl
  have hD9 := hD.sub (ws' := [(h0, .inr (10, [.ref q1, .ref q2, .ref q3, .ref q4, .ref q5, .ref q6])), (q1, .inr (0, [.ref a1_1, .ref a2_1, .ref a3_1, .int 0])), (a1_1, .inl (T 0, 40, .inl zI)), (a2_1, .inl (T 0, 40, .inl zI)), (a3_1, .inl (T 3, 40, .inr (.inr (.inr (.inl zD))))), (q2, .inr (1, [.ref a1_2, .ref a2_2, .int 0])), (q3, .inr (2, [.ref q1, .ref st1, .ref m1_1, .int 1, .ref m2_1, .ref m3_1, .int 0, .int 0])), (st1, .inr (3, [.ref b1_1, .ref b2_1, .ref b3_1, .ref b4_1, .ref b5_1])), (b1_1, .inr (4, [.ref r1_1, .ref r2_1, .ref r3_1, .int 0])), (b2_1, .inl (T 0, 7, .inl roomF)), (q4, .inr (5, [.ref q2, .ref st1, .ref tx1, .int 0, .int 0, .int 0, .int 0, .double 0, .ref gt1, .ref bg1])), (tx1, .inl (T 2, 120, .inl zI)), (q5, .inr (6, [.ref q1, .int (nI C1), .int (nI Rr1), .ref lv1, .float 0x3f800000, .ref ac1, .ref al1, .ref be1, .int 0])), (lv1, .inl (T 0, (C1 * Rr1), .inl zI)), (q6, .inr (7, [.ref q1, .ref q3, .ref q5, .ref su1, .ref tr1, .int 0, .int 0, .int 0, .int 0, .int 0, .int 0]))]) [0, 1, 2, 3, 4, 5, 6, 7, 8, 9, 10, 11, 12, 13, 14] (by decide) rfl
  refine W.widen (k := 74) (n := 4809) (Nat.le_of_ble_eq_true rfl) (Nat.le_of_ble_eq_true rfl) ?_
  exact j_vret F hr hlocks hK hS (q1, a1_1, a2_1, a3_1, q2, a1_2, a2_2, q3, st1, m1_1, m2_1, m3_1, b1_1, b2_1, b3_1, b4_1, b5_1, r1_1, r2_1, r3_1, q4, tx1, gt1, bg1, q5, C1, Rr1, lv1, ac1, al1, be1, q6, su1, tr1) hw5 hP9 hD9 d_Ps_init_103
theorem d_Ps_steps_0 : decode prog_1_method_4_code 0 = .ok (.aload_n 0, 1) := by decide +kernel
theorem d_Ps_steps_1 : decode prog_1_method_4_code 1 = .ok (.getfield 59, 3) := by decide +kernel
theorem d_Ps_steps_4 : decode prog_1_method_4_code 4 = .ok (.getfield 107, 3) := by decide +kernel
theorem k_2_29 : Cond.fieldLink "PageScribe" 107 "PageScribe$Engine" "stepsDone" "I" ∈ gw := gw_of (tb_2 (List.mem_of_getElem? (i := 29) (by decide +kernel))) (by decide +kernel)
theorem d_Ps_steps_7 : decode prog_1_method_4_code 7 = .ok (.ireturn, 1) := by decide +kernel
set_option maxHeartbeats 4000000 in
set_option maxRecDepth 100000 in
theorem c_Ps_steps (l : Launch) (D : va_G) (T : Nat → ClassId) (h0 : Nat) (oS : Nat) (oW : Nat) (oM : Nat) (oR : Nat) (oC : Nat) (oE : Nat) (su : Nat) (tr : Nat) (sz : Nat) : Met l ⟨"PageScribe", "steps", "()I"⟩ (wy ⟨"PageScribe", "steps", "()I"⟩ prog_1_method_4_code 1 (some .int)) ({ frames := 0, cells := 0, slots := 0, locals := 0 }) (va_Pc [.ref h0] (Pw D T [(h0, .inr (10, [.ref oS, .ref oW, .ref oM, .ref oR, .ref oC, .ref oE])), (oE, .inr (7, [.ref oS, .ref oM, .ref oC, .ref su, .ref tr, .int 0, .int 0, .int 0, .int 0, .int 0, .int 0]))] sz E0)) (va_Qi (fun (r : Int32) (u : Unit) => r = 0) (fun u t => Bw D T (va_A [(h0, .inr (10, [.ref oS, .ref oW, .ref oM, .ref oR, .ref oC, .ref oE])), (oE, .inr (7, [.ref oS, .ref oM, .ref oC, .ref su, .ref tr, .int 0, .int 0, .int 0, .int 0, .int 0, .int 0]))] sz) [(h0, .inr (10, [.ref oS, .ref oW, .ref oM, .ref oR, .ref oC, .ref oE])), (oE, .inr (7, [.ref oS, .ref oM, .ref oC, .ref su, .ref tr, .int 0, .int 0, .int 0, .int 0, .int 0, .int 0]))] t) (va_A [(h0, .inr (10, [.ref oS, .ref oW, .ref oM, .ref oR, .ref oC, .ref oE])), (oE, .inr (7, [.ref oS, .ref oM, .ref oC, .ref su, .ref tr, .int 0, .int 0, .int 0, .int 0, .int 0, .int 0]))] sz)) 0 0 (va_A [(h0, .inr (10, [.ref oS, .ref oW, .ref oM, .ref oR, .ref oC, .ref oE])), (oE, .inr (7, [.ref oS, .ref oM, .ref oC, .ref su, .ref tr, .int 0, .int 0, .int 0, .int 0, .int 0, .int 0]))] sz) := by
  refine j_met (y := ⟨"PageScribe", "steps", "()I"⟩) (b := prog_1_method_4_code) (n := 1) (ret := (some .int)) (av := [.ref h0]) (Qc := fun A => va_Qi (fun (r : Int32) (u : Unit) => r = 0) (fun u t => Bw D T A [(h0, .inr (10, [.ref oS, .ref oW, .ref oM, .ref oR, .ref oC, .ref oE])), (oE, .inr (7, [.ref oS, .ref oM, .ref oC, .ref su, .ref tr, .int 0, .int 0, .int 0, .int 0, .int 0, .int 0]))] t) A) (by decide +kernel) (Nat.le_of_ble_eq_true rfl) (fun p e s m args below meth c A ls F hr hlocks hnm hK hP hD hS hA hN hE hl => ?_)
  obtain ⟨hx, hb, hml, hown, hts⟩ := id F
  have hin := hnm
  have hl : lv_has ls 1 [(0, .ref h0)] := hl
  refine lv_aload_n hx hb d_Ps_steps_0 rfl (lv_at hl 0 rfl) ?_
  refine va_get (D := D) (ci := 10) (v := .ref oE) (C := "PageScribe") (T := F_Ps) (N := 6) hx hb hts i_Ps hown hK hP 0 rfl rfl 5 (by decide) (hts _ k_2_63) (fun _ h9 => h9) rfl d_Ps_steps_1 ?_
  refine va_get (D := D) (ci := 7) (v := .int 0) (C := "PageScribe$Engine") (T := F_Engine) (N := 11) hx hb hts i_Engine hown hK hP 1 rfl rfl 6 (by decide) (hts _ k_2_29) (fun _ h9 => h9) rfl d_Ps_steps_4 ?_
  have hP9 := hP.sub (ws' := [(h0, .inr (10, [.ref oS, .ref oW, .ref oM, .ref oR, .ref oC, .ref oE])), (oE, .inr (7, [.ref oS, .ref oM, .ref oC, .ref su, .ref tr, .int 0, .int 0, .int 0, .int 0, .int 0, .int 0]))]) [0, 1] rfl
  have hD9 := hD.sub (ws' := [(h0, .inr (10, [.ref oS, .ref oW, .ref oM, .ref oR, .ref oC, .ref oE])), (oE, .inr (7, [.ref oS, .ref oM, .ref oC, .ref su, .ref tr, .int 0, .int 0, .int 0, .int 0, .int 0, .int 0]))]) [0, 1] (by decide) rfl
  refine W.widen (k := 0) (n := 0) (Nat.le_of_ble_eq_true rfl) (Nat.le_of_ble_eq_true rfl) ?_
  exact j_iret F hr hlocks hK hS () rfl hP9 hD9 d_Ps_steps_7
theorem d_Ps_fault_0 : decode prog_1_method_5_code 0 = .ok (.aload_n 0, 1) := by decide +kernel
theorem d_Ps_fault_1 : decode prog_1_method_5_code 1 = .ok (.getfield 59, 3) := by decide +kernel
theorem d_Ps_fault_4 : decode prog_1_method_5_code 4 = .ok (.getfield 110, 3) := by decide +kernel
theorem k_2_31 : Cond.fieldLink "PageScribe" 110 "PageScribe$Engine" "latestFault" "I" ∈ gw := gw_of (tb_2 (List.mem_of_getElem? (i := 31) (by decide +kernel))) (by decide +kernel)
theorem d_Ps_fault_7 : decode prog_1_method_5_code 7 = .ok (.ireturn, 1) := by decide +kernel
set_option maxHeartbeats 4000000 in
set_option maxRecDepth 100000 in
theorem c_Ps_fault (l : Launch) (D : va_G) (T : Nat → ClassId) (h0 : Nat) (oS : Nat) (oW : Nat) (oM : Nat) (oR : Nat) (oC : Nat) (oE : Nat) (su : Nat) (tr : Nat) (sz : Nat) : Met l ⟨"PageScribe", "fault", "()I"⟩ (wy ⟨"PageScribe", "fault", "()I"⟩ prog_1_method_5_code 1 (some .int)) ({ frames := 0, cells := 0, slots := 0, locals := 0 }) (va_Pc [.ref h0] (Pw D T [(h0, .inr (10, [.ref oS, .ref oW, .ref oM, .ref oR, .ref oC, .ref oE])), (oE, .inr (7, [.ref oS, .ref oM, .ref oC, .ref su, .ref tr, .int 0, .int 0, .int 0, .int 0, .int 0, .int 0]))] sz E0)) (va_Qi (fun (r : Int32) (u : Unit) => r = 0) (fun u t => Bw D T (va_A [(h0, .inr (10, [.ref oS, .ref oW, .ref oM, .ref oR, .ref oC, .ref oE])), (oE, .inr (7, [.ref oS, .ref oM, .ref oC, .ref su, .ref tr, .int 0, .int 0, .int 0, .int 0, .int 0, .int 0]))] sz) [(h0, .inr (10, [.ref oS, .ref oW, .ref oM, .ref oR, .ref oC, .ref oE])), (oE, .inr (7, [.ref oS, .ref oM, .ref oC, .ref su, .ref tr, .int 0, .int 0, .int 0, .int 0, .int 0, .int 0]))] t) (va_A [(h0, .inr (10, [.ref oS, .ref oW, .ref oM, .ref oR, .ref oC, .ref oE])), (oE, .inr (7, [.ref oS, .ref oM, .ref oC, .ref su, .ref tr, .int 0, .int 0, .int 0, .int 0, .int 0, .int 0]))] sz)) 0 0 (va_A [(h0, .inr (10, [.ref oS, .ref oW, .ref oM, .ref oR, .ref oC, .ref oE])), (oE, .inr (7, [.ref oS, .ref oM, .ref oC, .ref su, .ref tr, .int 0, .int 0, .int 0, .int 0, .int 0, .int 0]))] sz) := by
  refine j_met (y := ⟨"PageScribe", "fault", "()I"⟩) (b := prog_1_method_5_code) (n := 1) (ret := (some .int)) (av := [.ref h0]) (Qc := fun A => va_Qi (fun (r : Int32) (u : Unit) => r = 0) (fun u t => Bw D T A [(h0, .inr (10, [.ref oS, .ref oW, .ref oM, .ref oR, .ref oC, .ref oE])), (oE, .inr (7, [.ref oS, .ref oM, .ref oC, .ref su, .ref tr, .int 0, .int 0, .int 0, .int 0, .int 0, .int 0]))] t) A) (by decide +kernel) (Nat.le_of_ble_eq_true rfl) (fun p e s m args below meth c A ls F hr hlocks hnm hK hP hD hS hA hN hE hl => ?_)
  obtain ⟨hx, hb, hml, hown, hts⟩ := id F
  have hin := hnm
  have hl : lv_has ls 1 [(0, .ref h0)] := hl
  refine lv_aload_n hx hb d_Ps_fault_0 rfl (lv_at hl 0 rfl) ?_
  refine va_get (D := D) (ci := 10) (v := .ref oE) (C := "PageScribe") (T := F_Ps) (N := 6) hx hb hts i_Ps hown hK hP 0 rfl rfl 5 (by decide) (hts _ k_2_63) (fun _ h9 => h9) rfl d_Ps_fault_1 ?_
  refine va_get (D := D) (ci := 7) (v := .int 0) (C := "PageScribe$Engine") (T := F_Engine) (N := 11) hx hb hts i_Engine hown hK hP 1 rfl rfl 7 (by decide) (hts _ k_2_31) (fun _ h9 => h9) rfl d_Ps_fault_4 ?_
  have hP9 := hP.sub (ws' := [(h0, .inr (10, [.ref oS, .ref oW, .ref oM, .ref oR, .ref oC, .ref oE])), (oE, .inr (7, [.ref oS, .ref oM, .ref oC, .ref su, .ref tr, .int 0, .int 0, .int 0, .int 0, .int 0, .int 0]))]) [0, 1] rfl
  have hD9 := hD.sub (ws' := [(h0, .inr (10, [.ref oS, .ref oW, .ref oM, .ref oR, .ref oC, .ref oE])), (oE, .inr (7, [.ref oS, .ref oM, .ref oC, .ref su, .ref tr, .int 0, .int 0, .int 0, .int 0, .int 0, .int 0]))]) [0, 1] (by decide) rfl
  refine W.widen (k := 0) (n := 0) (Nat.le_of_ble_eq_true rfl) (Nat.le_of_ble_eq_true rfl) ?_
  exact j_iret F hr hlocks hK hS () rfl hP9 hD9 d_Ps_fault_7
theorem d_Ps_depth_0 : decode prog_1_method_7_code 0 = .ok (.aload_n 0, 1) := by decide +kernel
theorem d_Ps_depth_1 : decode prog_1_method_7_code 1 = .ok (.getfield 12, 3) := by decide +kernel
theorem d_Ps_depth_4 : decode prog_1_method_7_code 4 = .ok (.getfield 120, 3) := by decide +kernel
theorem k_1_51 : Cond.sameField "PageScribe$Stack" "PageScribe$Row" "size" "I" ∈ gw := gw_of (tb_1 (List.mem_of_getElem? (i := 51) (by decide +kernel))) (by decide +kernel)
theorem k_1_55 : Cond.fieldLink "PageScribe" 120 "PageScribe$Stack" "size" "I" ∈ gw := gw_of (tb_1 (List.mem_of_getElem? (i := 55) (by decide +kernel))) (by decide +kernel)
theorem d_Ps_depth_7 : decode prog_1_method_7_code 7 = .ok (.ireturn, 1) := by decide +kernel
set_option maxHeartbeats 4000000 in
set_option maxRecDepth 100000 in
theorem c_Ps_depth (l : Launch) (D : va_G) (T : Nat → ClassId) (h0 : Nat) (oS : Nat) (oW : Nat) (oM : Nat) (oR : Nat) (oC : Nat) (oE : Nat) (k1 : Nat) (k2 : Nat) (k3 : Nat) (sz : Nat) : Met l ⟨"PageScribe", "depth", "()I"⟩ (wy ⟨"PageScribe", "depth", "()I"⟩ prog_1_method_7_code 1 (some .int)) ({ frames := 0, cells := 0, slots := 0, locals := 0 }) (va_Pc [.ref h0] (Pw D T [(h0, .inr (10, [.ref oS, .ref oW, .ref oM, .ref oR, .ref oC, .ref oE])), (oS, .inr (0, [.ref k1, .ref k2, .ref k3, .int 0]))] sz E0)) (va_Qi (fun (r : Int32) (u : Unit) => r = 0) (fun u t => Bw D T (va_A [(h0, .inr (10, [.ref oS, .ref oW, .ref oM, .ref oR, .ref oC, .ref oE])), (oS, .inr (0, [.ref k1, .ref k2, .ref k3, .int 0]))] sz) [(h0, .inr (10, [.ref oS, .ref oW, .ref oM, .ref oR, .ref oC, .ref oE])), (oS, .inr (0, [.ref k1, .ref k2, .ref k3, .int 0]))] t) (va_A [(h0, .inr (10, [.ref oS, .ref oW, .ref oM, .ref oR, .ref oC, .ref oE])), (oS, .inr (0, [.ref k1, .ref k2, .ref k3, .int 0]))] sz)) 0 0 (va_A [(h0, .inr (10, [.ref oS, .ref oW, .ref oM, .ref oR, .ref oC, .ref oE])), (oS, .inr (0, [.ref k1, .ref k2, .ref k3, .int 0]))] sz) := by
  refine j_met (y := ⟨"PageScribe", "depth", "()I"⟩) (b := prog_1_method_7_code) (n := 1) (ret := (some .int)) (av := [.ref h0]) (Qc := fun A => va_Qi (fun (r : Int32) (u : Unit) => r = 0) (fun u t => Bw D T A [(h0, .inr (10, [.ref oS, .ref oW, .ref oM, .ref oR, .ref oC, .ref oE])), (oS, .inr (0, [.ref k1, .ref k2, .ref k3, .int 0]))] t) A) (by decide +kernel) (Nat.le_of_ble_eq_true rfl) (fun p e s m args below meth c A ls F hr hlocks hnm hK hP hD hS hA hN hE hl => ?_)
  obtain ⟨hx, hb, hml, hown, hts⟩ := id F
  have hin := hnm
  have hl : lv_has ls 1 [(0, .ref h0)] := hl
  refine lv_aload_n hx hb d_Ps_depth_0 rfl (lv_at hl 0 rfl) ?_
  refine va_get (D := D) (ci := 10) (v := .ref oS) (C := "PageScribe") (T := F_Ps) (N := 6) hx hb hts i_Ps hown hK hP 0 rfl rfl 0 (by decide) (hts _ k_2_58) (fun _ h9 => h9) rfl d_Ps_depth_1 ?_
  refine va_get (D := D) (ci := 0) (v := .int 0) (C := "PageScribe$Stack") (T := F_Stack) (N := 4) hx hb hts i_Stack hown hK hP 1 rfl rfl 3 (by decide) (hts _ k_1_55) (fun x9 h9 => u_same (hts _ k_1_51) x9 h9) rfl d_Ps_depth_4 ?_
  have hP9 := hP.sub (ws' := [(h0, .inr (10, [.ref oS, .ref oW, .ref oM, .ref oR, .ref oC, .ref oE])), (oS, .inr (0, [.ref k1, .ref k2, .ref k3, .int 0]))]) [0, 1] rfl
  have hD9 := hD.sub (ws' := [(h0, .inr (10, [.ref oS, .ref oW, .ref oM, .ref oR, .ref oC, .ref oE])), (oS, .inr (0, [.ref k1, .ref k2, .ref k3, .int 0]))]) [0, 1] (by decide) rfl
  refine W.widen (k := 0) (n := 0) (Nat.le_of_ble_eq_true rfl) (Nat.le_of_ble_eq_true rfl) ?_
  exact j_iret F hr hlocks hK hS () rfl hP9 hD9 d_Ps_depth_7
theorem d_Stack_hasDown_0 : decode prog_9_method_2_code 0 = .ok (.iload_n 1, 1) := by decide +kernel
theorem d_Stack_hasDown_1 : decode prog_9_method_2_code 1 = .ok (.ifCond .lt 15, 3) := by decide +kernel
theorem d_Stack_hasDown_16 : decode prog_9_method_2_code 16 = .ok (.iconst 0, 1) := by decide +kernel
theorem d_Stack_hasDown_17 : decode prog_9_method_2_code 17 = .ok (.ireturn, 1) := by decide +kernel
theorem d_Stack_hasDown_4 : decode prog_9_method_2_code 4 = .ok (.iload_n 1, 1) := by decide +kernel
theorem d_Stack_hasDown_5 : decode prog_9_method_2_code 5 = .ok (.aload_n 0, 1) := by decide +kernel
theorem d_Stack_hasDown_6 : decode prog_9_method_2_code 6 = .ok (.getfield 9, 3) := by decide +kernel
theorem k_1_50 : Cond.fieldLink "PageScribe$Stack" 9 "PageScribe$Stack" "size" "I" ∈ gw := gw_of (tb_1 (List.mem_of_getElem? (i := 50) (by decide +kernel))) (by decide +kernel)
theorem d_Stack_hasDown_9 : decode prog_9_method_2_code 9 = .ok (.if_icmp .ge 7, 3) := by decide +kernel
set_option maxHeartbeats 4000000 in
set_option maxRecDepth 100000 in
theorem c_Stack_hasDown (l : Launch) (D : va_G) (T : Nat → ClassId) (oS : Nat) (k1 : Nat) (k2 : Nat) (k3 : Nat) (p0 : Int32) (sz : Nat) : Met l ⟨"PageScribe$Stack", "hasDown", "(I)Z"⟩ (wy ⟨"PageScribe$Stack", "hasDown", "(I)Z"⟩ prog_9_method_2_code 2 (some .boolean)) ({ frames := 0, cells := 0, slots := 0, locals := 0 }) (va_Pc [.ref oS, .int p0] (Pw D T [(oS, .inr (0, [.ref k1, .ref k2, .ref k3, .int 0]))] sz E0)) (va_Qi (fun (r : Int32) (u : Unit) => r = 0) (fun u t => Bw D T (va_A [(oS, .inr (0, [.ref k1, .ref k2, .ref k3, .int 0]))] sz) [(oS, .inr (0, [.ref k1, .ref k2, .ref k3, .int 0]))] t) (va_A [(oS, .inr (0, [.ref k1, .ref k2, .ref k3, .int 0]))] sz)) 0 0 (va_A [(oS, .inr (0, [.ref k1, .ref k2, .ref k3, .int 0]))] sz) := by
  refine j_met (y := ⟨"PageScribe$Stack", "hasDown", "(I)Z"⟩) (b := prog_9_method_2_code) (n := 2) (ret := (some .boolean)) (av := [.ref oS, .int p0]) (Qc := fun A => va_Qi (fun (r : Int32) (u : Unit) => r = 0) (fun u t => Bw D T A [(oS, .inr (0, [.ref k1, .ref k2, .ref k3, .int 0]))] t) A) (by decide +kernel) (Nat.le_of_ble_eq_true rfl) (fun p e s m args below meth c A ls F hr hlocks hnm hK hP hD hS hA hN hE hl => ?_)
  obtain ⟨hx, hb, hml, hown, hts⟩ := id F
  have hin := hnm
  have hl : lv_has ls 2 [(0, .ref oS), (1, .int p0)] := hl
  refine lv_iload_n hx hb d_Stack_hasDown_0 rfl (lv_at hl 1 rfl) ?_
  refine lv_if_lt (tgt := 16) hx hb d_Stack_hasDown_1 (by decide) (fun c_1 => ?_) (fun c_1 => ?_)
  · refine lv_iconst (v := 0) hx hb d_Stack_hasDown_16 (by decide) ?_
    have hP9 := hP.sub (ws' := [(oS, .inr (0, [.ref k1, .ref k2, .ref k3, .int 0]))]) [0] rfl
    have hD9 := hD.sub (ws' := [(oS, .inr (0, [.ref k1, .ref k2, .ref k3, .int 0]))]) [0] (by decide) rfl
    refine W.widen (k := 0) (n := 0) (Nat.le_of_ble_eq_true rfl) (Nat.le_of_ble_eq_true rfl) ?_
    exact j_zret F hr rfl hlocks hK hS () rfl hP9 hD9 d_Stack_hasDown_17
  · refine lv_iload_n hx hb d_Stack_hasDown_4 rfl (lv_at hl 1 rfl) ?_
    refine lv_aload_n hx hb d_Stack_hasDown_5 rfl (lv_at hl 0 rfl) ?_
    refine va_get (D := D) (ci := 0) (v := .int 0) (C := "PageScribe$Stack") (T := F_Stack) (N := 4) hx hb hts i_Stack hown hK hP 0 rfl rfl 3 (by decide) (hts _ k_1_50) (fun x9 h9 => u_same (hts _ k_1_51) x9 h9) rfl d_Stack_hasDown_6 ?_
    refine lv_icmp_ge (tgt := 16) hx hb d_Stack_hasDown_9 (by decide) (fun c_9 => ?_) (fun c_9 => absurd c_9 (fun q => q (Int32.not_lt.mp c_1)))
    refine lv_iconst (v := 0) hx hb d_Stack_hasDown_16 (by decide) ?_
    have hP9 := hP.sub (ws' := [(oS, .inr (0, [.ref k1, .ref k2, .ref k3, .int 0]))]) [0] rfl
    have hD9 := hD.sub (ws' := [(oS, .inr (0, [.ref k1, .ref k2, .ref k3, .int 0]))]) [0] (by decide) rfl
    refine W.widen (k := 0) (n := 0) (Nat.le_of_ble_eq_true rfl) (Nat.le_of_ble_eq_true rfl) ?_
    exact j_zret F hr rfl hlocks hK hS () rfl hP9 hD9 d_Stack_hasDown_17
theorem d_Ps_letter_0 : decode prog_1_method_11_code 0 = .ok (.aload_n 0, 1) := by decide +kernel
theorem d_Ps_letter_1 : decode prog_1_method_11_code 1 = .ok (.getfield 12, 3) := by decide +kernel
theorem d_Ps_letter_4 : decode prog_1_method_11_code 4 = .ok (.iload_n 1, 1) := by decide +kernel
theorem d_Ps_letter_5 : decode prog_1_method_11_code 5 = .ok (.invokevirtual 123, 3) := by decide +kernel
theorem k_2_116 : Cond.code ⟨"PageScribe$Stack", "hasDown", "(I)Z"⟩ prog_9_method_2_code 2 (some .boolean) ∈ gw := gw_of (tb_2 (List.mem_of_getElem? (i := 116) (by decide +kernel))) (by decide +kernel)
theorem k_2_113 : Cond.methodLink "PageScribe" 123 ⟨"PageScribe$Stack", "hasDown", "(I)Z"⟩ ∈ gw := gw_of (tb_2 (List.mem_of_getElem? (i := 113) (by decide +kernel))) (by decide +kernel)
theorem k_2_114 : Cond.instanceMethod ⟨"PageScribe$Stack", "hasDown", "(I)Z"⟩ ∈ gw := gw_of (tb_2 (List.mem_of_getElem? (i := 114) (by decide +kernel))) (by decide +kernel)
theorem k_2_115 : Cond.selects "PageScribe$Stack" ⟨"PageScribe$Stack", "hasDown", "(I)Z"⟩ ⟨"PageScribe$Stack", "hasDown", "(I)Z"⟩ ∈ gw := gw_of (tb_2 (List.mem_of_getElem? (i := 115) (by decide +kernel))) (by decide +kernel)
theorem d_Ps_letter_8 : decode prog_1_method_11_code 8 = .ok (.ifCond .eq 18, 3) := by decide +kernel
theorem d_Ps_letter_26 : decode prog_1_method_11_code 26 = .ok (.iconst (-1), 1) := by decide +kernel
theorem d_Ps_letter_27 : decode prog_1_method_11_code 27 = .ok (.ireturn, 1) := by decide +kernel
set_option maxHeartbeats 4000000 in
set_option maxRecDepth 100000 in
theorem c_Ps_letter (l : Launch) (D : va_G) (T : Nat → ClassId) (h0 : Nat) (oS : Nat) (oW : Nat) (oM : Nat) (oR : Nat) (oC : Nat) (oE : Nat) (k1 : Nat) (k2 : Nat) (k3 : Nat) (p0 : Int32) (p1 : Int32) (sz : Nat) : Met l ⟨"PageScribe", "letter", "(II)I"⟩ (wy ⟨"PageScribe", "letter", "(II)I"⟩ prog_1_method_11_code 3 (some .int)) ({ frames := 1, cells := 0, slots := 0, locals := 70 }) (va_Pc [.ref h0, .int p0, .int p1] (Pw D T [(h0, .inr (10, [.ref oS, .ref oW, .ref oM, .ref oR, .ref oC, .ref oE])), (oS, .inr (0, [.ref k1, .ref k2, .ref k3, .int 0]))] sz E0)) (va_Qi (fun (r : Int32) (u : Unit) => r = -1) (fun u t => Bw D T (va_A [(h0, .inr (10, [.ref oS, .ref oW, .ref oM, .ref oR, .ref oC, .ref oE])), (oS, .inr (0, [.ref k1, .ref k2, .ref k3, .int 0]))] sz) [(h0, .inr (10, [.ref oS, .ref oW, .ref oM, .ref oR, .ref oC, .ref oE])), (oS, .inr (0, [.ref k1, .ref k2, .ref k3, .int 0]))] t) (va_A [(h0, .inr (10, [.ref oS, .ref oW, .ref oM, .ref oR, .ref oC, .ref oE])), (oS, .inr (0, [.ref k1, .ref k2, .ref k3, .int 0]))] sz)) 0 0 (va_A [(h0, .inr (10, [.ref oS, .ref oW, .ref oM, .ref oR, .ref oC, .ref oE])), (oS, .inr (0, [.ref k1, .ref k2, .ref k3, .int 0]))] sz) := by
  refine j_met (y := ⟨"PageScribe", "letter", "(II)I"⟩) (b := prog_1_method_11_code) (n := 3) (ret := (some .int)) (av := [.ref h0, .int p0, .int p1]) (Qc := fun A => va_Qi (fun (r : Int32) (u : Unit) => r = -1) (fun u t => Bw D T A [(h0, .inr (10, [.ref oS, .ref oW, .ref oM, .ref oR, .ref oC, .ref oE])), (oS, .inr (0, [.ref k1, .ref k2, .ref k3, .int 0]))] t) A) (by decide +kernel) (Nat.le_of_ble_eq_true rfl) (fun p e s m args below meth c A ls F hr hlocks hnm hK hP hD hS hA hN hE hl => ?_)
  obtain ⟨hx, hb, hml, hown, hts⟩ := id F
  have hin := hnm
  have hl : lv_has ls 3 [(0, .ref h0), (1, .int p0), (2, .int p1)] := hl
  refine lv_aload_n hx hb d_Ps_letter_0 rfl (lv_at hl 0 rfl) ?_
  refine va_get (D := D) (ci := 10) (v := .ref oS) (C := "PageScribe") (T := F_Ps) (N := 6) hx hb hts i_Ps hown hK hP 0 rfl rfl 0 (by decide) (hts _ k_2_58) (fun _ h9 => h9) rfl d_Ps_letter_1 ?_
  refine lv_iload_n hx hb d_Ps_letter_4 rfl (lv_at hl 1 rfl) ?_
  refine j_ci (wc := [(oS, .inr (0, [.ref k1, .ref k2, .ref k3, .int 0]))]) (wr := [(h0, .inr (10, [.ref oS, .ref oW, .ref oM, .ref oR, .ref oC, .ref oE]))]) hK hP hD hS hA [1] [0] rfl rfl (by decide) (by decide) (va_runV (As := [.int p0]) (rest := []) F (c_Stack_hasDown l D T oS k1 k2 k3 p0 s.heap.size) (j_cV (k := 1) (C := "PageScribe$Stack") hts k_2_116 k_1_3 k_2_113 k_2_114 k_2_115 (by decide +kernel) ⟨Nat.le_of_ble_eq_true rfl, Nat.le_of_ble_eq_true rfl⟩) (j_preV (q0 := 1) (ci := 0) hK hP hD [1] rfl (by decide) rfl rfl (fun _ _ _ _ h => h) (fun _ _ _ => trivial)) rfl rfl hl.1 rfl (lv_room (Nat.le_of_ble_eq_true rfl)) d_Ps_letter_5 ⟨Nat.le_of_ble_eq_true rfl, Nat.le_of_ble_eq_true rfl⟩) (fun rv1 u1 H locs hw hP hD hS => ?_)
  have hP : va_P D classes [(h0, .inr (10, [.ref oS, .ref oW, .ref oM, .ref oR, .ref oC, .ref oE])), (oS, .inr (0, [.ref k1, .ref k2, .ref k3, .int 0]))] H := hP
  have hD : va_D A [(h0, .inr (10, [.ref oS, .ref oW, .ref oM, .ref oR, .ref oC, .ref oE])), (oS, .inr (0, [.ref k1, .ref k2, .ref k3, .int 0]))] := hD
  have hw1 : rv1 = 0 := hw
  refine j_eqi (y := 0) hw1 ?_
  refine lv_if_eq (tgt := 26) hx hb d_Ps_letter_8 (by decide) (fun _ => ?_) (fun c9 => absurd c9 (by decide +kernel))
  refine lv_iconst (v := (-1)) hx hb d_Ps_letter_26 (by decide) ?_
  have hP9 := hP.sub (ws' := [(h0, .inr (10, [.ref oS, .ref oW, .ref oM, .ref oR, .ref oC, .ref oE])), (oS, .inr (0, [.ref k1, .ref k2, .ref k3, .int 0]))]) [0, 1] rfl
  have hD9 := hD.sub (ws' := [(h0, .inr (10, [.ref oS, .ref oW, .ref oM, .ref oR, .ref oC, .ref oE])), (oS, .inr (0, [.ref k1, .ref k2, .ref k3, .int 0]))]) [0, 1] (by decide) rfl
  refine W.widen (k := 0) (n := 0) (Nat.le_of_ble_eq_true rfl) (Nat.le_of_ble_eq_true rfl) ?_
  exact j_iret F hr hlocks hK hS () rfl hP9 hD9 d_Ps_letter_27
theorem d_Store_dictsMade_0 : decode prog_10_method_5_code 0 = .ok (.iconst 0, 1) := by decide +kernel
theorem d_Store_dictsMade_1 : decode prog_10_method_5_code 1 = .ok (.istore_n 1, 1) := by decide +kernel
theorem d_Store_dictsMade_2 : decode prog_10_method_5_code 2 = .ok (.iconst 1, 1) := by decide +kernel
theorem d_Store_dictsMade_3 : decode prog_10_method_5_code 3 = .ok (.istore_n 2, 1) := by decide +kernel
theorem d_Store_dictsMade_4 : decode prog_10_method_5_code 4 = .ok (.iload_n 2, 1) := by decide +kernel
theorem d_Store_dictsMade_5 : decode prog_10_method_5_code 5 = .ok (.bipush 7, 2) := by decide +kernel
theorem d_Store_dictsMade_7 : decode prog_10_method_5_code 7 = .ok (.if_icmp .ge 26, 3) := by decide +kernel
theorem d_Store_dictsMade_10 : decode prog_10_method_5_code 10 = .ok (.iload_n 1, 1) := by decide +kernel
theorem d_Store_dictsMade_11 : decode prog_10_method_5_code 11 = .ok (.aload_n 0, 1) := by decide +kernel
theorem d_Store_dictsMade_12 : decode prog_10_method_5_code 12 = .ok (.getfield 20, 3) := by decide +kernel
theorem d_Store_dictsMade_15 : decode prog_10_method_5_code 15 = .ok (.iload_n 2, 1) := by decide +kernel
theorem d_Store_dictsMade_16 : decode prog_10_method_5_code 16 = .ok (.iaload, 1) := by decide +kernel
theorem d_Store_dictsMade_17 : decode prog_10_method_5_code 17 = .ok (.ifCond .le 7, 3) := by decide +kernel
theorem d_Store_dictsMade_24 : decode prog_10_method_5_code 24 = .ok (.iconst 0, 1) := by decide +kernel
theorem d_Store_dictsMade_25 : decode prog_10_method_5_code 25 = .ok (.iadd, 1) := by decide +kernel
theorem d_Store_dictsMade_26 : decode prog_10_method_5_code 26 = .ok (.istore_n 1, 1) := by decide +kernel
theorem d_Store_dictsMade_27 : decode prog_10_method_5_code 27 = .ok (.iinc 2 1, 3) := by decide +kernel
theorem d_Store_dictsMade_30 : decode prog_10_method_5_code 30 = .ok (.goto (-26), 3) := by decide +kernel
theorem d_Store_dictsMade_33 : decode prog_10_method_5_code 33 = .ok (.iload_n 1, 1) := by decide +kernel
theorem d_Store_dictsMade_34 : decode prog_10_method_5_code 34 = .ok (.ireturn, 1) := by decide +kernel
set_option maxHeartbeats 4000000 in
set_option maxRecDepth 100000 in
theorem c_Store_dictsMade (l : Launch) (D : va_G) (T : Nat → ClassId) (st : Nat) (b1 : Nat) (b2 : Nat) (b3 : Nat) (b4 : Nat) (b5 : Nat) (sz : Nat) : Met l ⟨"PageScribe$Store", "dictsMade", "()I"⟩ (wy ⟨"PageScribe$Store", "dictsMade", "()I"⟩ prog_10_method_5_code 3 (some .int)) ({ frames := 0, cells := 0, slots := 0, locals := 0 }) (va_Pc [.ref st] (Pw D T [(st, .inr (3, [.ref b1, .ref b2, .ref b3, .ref b4, .ref b5])), (b2, .inl (T 0, 7, .inl roomF))] sz E0)) (va_Qi (fun (r : Int32) (u : Unit) => r = 0) (fun u t => Bw D T (va_A [(st, .inr (3, [.ref b1, .ref b2, .ref b3, .ref b4, .ref b5])), (b2, .inl (T 0, 7, .inl roomF))] sz) [(st, .inr (3, [.ref b1, .ref b2, .ref b3, .ref b4, .ref b5])), (b2, .inl (T 0, 7, .inl roomF))] t) (va_A [(st, .inr (3, [.ref b1, .ref b2, .ref b3, .ref b4, .ref b5])), (b2, .inl (T 0, 7, .inl roomF))] sz)) 0 0 (va_A [(st, .inr (3, [.ref b1, .ref b2, .ref b3, .ref b4, .ref b5])), (b2, .inl (T 0, 7, .inl roomF))] sz) := by
  refine j_met (y := ⟨"PageScribe$Store", "dictsMade", "()I"⟩) (b := prog_10_method_5_code) (n := 3) (ret := (some .int)) (av := [.ref st]) (Qc := fun A => va_Qi (fun (r : Int32) (u : Unit) => r = 0) (fun u t => Bw D T A [(st, .inr (3, [.ref b1, .ref b2, .ref b3, .ref b4, .ref b5])), (b2, .inl (T 0, 7, .inl roomF))] t) A) (by decide +kernel) (Nat.le_of_ble_eq_true rfl) (fun p e s m args below meth c A ls F hr hlocks hnm hK hP hD hS hA hN hE hl => ?_)
  obtain ⟨hx, hb, hml, hown, hts⟩ := id F
  have hin := hnm
  have hl : lv_has ls 3 [(0, .ref st)] := hl
  refine lv_iconst (v := 0) hx hb d_Store_dictsMade_0 (by decide) ?_
  refine lv_istore_n (lv' := [(1, .int 0), (0, .ref st)]) hx hb d_Store_dictsMade_1 rfl hl (by decide) rfl (fun ls hl => ?_)
  refine lv_iconst (v := 1) hx hb d_Store_dictsMade_2 (by decide) ?_
  refine lv_istore_n (lv' := [(2, .int 1), (1, .int 0), (0, .ref st)]) hx hb d_Store_dictsMade_3 rfl hl (by decide) rfl (fun ls hl => ?_)
  refine lv_iload_n hx hb d_Store_dictsMade_4 rfl (lv_at hl 0 rfl) ?_
  refine lv_bipush (v := 7) hx hb d_Store_dictsMade_5 (by decide) ?_
  refine lv_icmp_ge (tgt := 33) hx hb d_Store_dictsMade_7 (by decide) (fun c9 => absurd c9 (by decide +kernel)) (fun _ => ?_)
  refine lv_iload_n hx hb d_Store_dictsMade_10 rfl (lv_at hl 1 rfl) ?_
  refine lv_aload_n hx hb d_Store_dictsMade_11 rfl (lv_at hl 2 rfl) ?_
  refine va_get (D := D) (ci := 3) (v := .ref b2) (C := "PageScribe$Store") (T := F_Store) (N := 5) hx hb hts i_Store hown hK hP 0 rfl rfl 1 (by decide) (hts _ k_1_111) (fun _ h9 => h9) rfl d_Store_dictsMade_12 ?_
  refine lv_iload_n hx hb d_Store_dictsMade_15 rfl (lv_at hl 0 rfl) ?_
  refine va_iald hx hb hK hP 1 0 rfl rfl (by unfold vp_in; decide +kernel) d_Store_dictsMade_16 ?_
  refine j_eqi (y := 0) (by decide +kernel) ?_
  refine lv_if_le (tgt := 24) hx hb d_Store_dictsMade_17 (by decide) (fun _ => ?_) (fun c9 => absurd c9 (by decide +kernel))
  refine lv_iconst (v := 0) hx hb d_Store_dictsMade_24 (by decide) ?_
  refine lv_iadd hx hb d_Store_dictsMade_25 ?_
  refine j_eqi (y := 0) (by decide +kernel) ?_
  refine lv_istore_n (lv' := [(1, .int 0), (2, .int 1), (0, .ref st)]) hx hb d_Store_dictsMade_26 rfl hl (by decide) rfl (fun ls hl => ?_)
  refine lv_iinc (v := 2) (lv' := [(2, .int 2), (1, .int 0), (0, .ref st)]) hx hb d_Store_dictsMade_27 hl (k := 1) rfl (by decide +kernel) (by decide) rfl (fun ls hl => ?_)
  refine lv_goto (tgt := 4) hx hb d_Store_dictsMade_30 (by decide) ?_
  refine lv_iload_n hx hb d_Store_dictsMade_4 rfl (lv_at hl 0 rfl) ?_
  refine lv_bipush (v := 7) hx hb d_Store_dictsMade_5 (by decide) ?_
  refine lv_icmp_ge (tgt := 33) hx hb d_Store_dictsMade_7 (by decide) (fun c9 => absurd c9 (by decide +kernel)) (fun _ => ?_)
  refine lv_iload_n hx hb d_Store_dictsMade_10 rfl (lv_at hl 1 rfl) ?_
  refine lv_aload_n hx hb d_Store_dictsMade_11 rfl (lv_at hl 2 rfl) ?_
  refine va_get (D := D) (ci := 3) (v := .ref b2) (C := "PageScribe$Store") (T := F_Store) (N := 5) hx hb hts i_Store hown hK hP 0 rfl rfl 1 (by decide) (hts _ k_1_111) (fun _ h9 => h9) rfl d_Store_dictsMade_12 ?_
  refine lv_iload_n hx hb d_Store_dictsMade_15 rfl (lv_at hl 0 rfl) ?_
  refine va_iald hx hb hK hP 1 0 rfl rfl (by unfold vp_in; decide +kernel) d_Store_dictsMade_16 ?_
  refine j_eqi (y := 0) (by decide +kernel) ?_
  refine lv_if_le (tgt := 24) hx hb d_Store_dictsMade_17 (by decide) (fun _ => ?_) (fun c9 => absurd c9 (by decide +kernel))
  refine lv_iconst (v := 0) hx hb d_Store_dictsMade_24 (by decide) ?_
  refine lv_iadd hx hb d_Store_dictsMade_25 ?_
  refine j_eqi (y := 0) (by decide +kernel) ?_
  refine lv_istore_n (lv' := [(1, .int 0), (2, .int 2), (0, .ref st)]) hx hb d_Store_dictsMade_26 rfl hl (by decide) rfl (fun ls hl => ?_)
  refine lv_iinc (v := 3) (lv' := [(2, .int 3), (1, .int 0), (0, .ref st)]) hx hb d_Store_dictsMade_27 hl (k := 1) rfl (by decide +kernel) (by decide) rfl (fun ls hl => ?_)
  refine lv_goto (tgt := 4) hx hb d_Store_dictsMade_30 (by decide) ?_
  refine lv_iload_n hx hb d_Store_dictsMade_4 rfl (lv_at hl 0 rfl) ?_
  refine lv_bipush (v := 7) hx hb d_Store_dictsMade_5 (by decide) ?_
  refine lv_icmp_ge (tgt := 33) hx hb d_Store_dictsMade_7 (by decide) (fun c9 => absurd c9 (by decide +kernel)) (fun _ => ?_)
  refine lv_iload_n hx hb d_Store_dictsMade_10 rfl (lv_at hl 1 rfl) ?_
  refine lv_aload_n hx hb d_Store_dictsMade_11 rfl (lv_at hl 2 rfl) ?_
  refine va_get (D := D) (ci := 3) (v := .ref b2) (C := "PageScribe$Store") (T := F_Store) (N := 5) hx hb hts i_Store hown hK hP 0 rfl rfl 1 (by decide) (hts _ k_1_111) (fun _ h9 => h9) rfl d_Store_dictsMade_12 ?_
  refine lv_iload_n hx hb d_Store_dictsMade_15 rfl (lv_at hl 0 rfl) ?_
  refine va_iald hx hb hK hP 1 0 rfl rfl (by unfold vp_in; decide +kernel) d_Store_dictsMade_16 ?_
  refine j_eqi (y := 0) (by decide +kernel) ?_
  refine lv_if_le (tgt := 24) hx hb d_Store_dictsMade_17 (by decide) (fun _ => ?_) (fun c9 => absurd c9 (by decide +kernel))
  refine lv_iconst (v := 0) hx hb d_Store_dictsMade_24 (by decide) ?_
  refine lv_iadd hx hb d_Store_dictsMade_25 ?_
  refine j_eqi (y := 0) (by decide +kernel) ?_
  refine lv_istore_n (lv' := [(1, .int 0), (2, .int 3), (0, .ref st)]) hx hb d_Store_dictsMade_26 rfl hl (by decide) rfl (fun ls hl => ?_)
  refine lv_iinc (v := 4) (lv' := [(2, .int 4), (1, .int 0), (0, .ref st)]) hx hb d_Store_dictsMade_27 hl (k := 1) rfl (by decide +kernel) (by decide) rfl (fun ls hl => ?_)
  refine lv_goto (tgt := 4) hx hb d_Store_dictsMade_30 (by decide) ?_
  refine lv_iload_n hx hb d_Store_dictsMade_4 rfl (lv_at hl 0 rfl) ?_
  refine lv_bipush (v := 7) hx hb d_Store_dictsMade_5 (by decide) ?_
  refine lv_icmp_ge (tgt := 33) hx hb d_Store_dictsMade_7 (by decide) (fun c9 => absurd c9 (by decide +kernel)) (fun _ => ?_)
  refine lv_iload_n hx hb d_Store_dictsMade_10 rfl (lv_at hl 1 rfl) ?_
  refine lv_aload_n hx hb d_Store_dictsMade_11 rfl (lv_at hl 2 rfl) ?_
  refine va_get (D := D) (ci := 3) (v := .ref b2) (C := "PageScribe$Store") (T := F_Store) (N := 5) hx hb hts i_Store hown hK hP 0 rfl rfl 1 (by decide) (hts _ k_1_111) (fun _ h9 => h9) rfl d_Store_dictsMade_12 ?_
  refine lv_iload_n hx hb d_Store_dictsMade_15 rfl (lv_at hl 0 rfl) ?_
  refine va_iald hx hb hK hP 1 0 rfl rfl (by unfold vp_in; decide +kernel) d_Store_dictsMade_16 ?_
  refine j_eqi (y := 0) (by decide +kernel) ?_
  refine lv_if_le (tgt := 24) hx hb d_Store_dictsMade_17 (by decide) (fun _ => ?_) (fun c9 => absurd c9 (by decide +kernel))
  refine lv_iconst (v := 0) hx hb d_Store_dictsMade_24 (by decide) ?_
  refine lv_iadd hx hb d_Store_dictsMade_25 ?_
  refine j_eqi (y := 0) (by decide +kernel) ?_
  refine lv_istore_n (lv' := [(1, .int 0), (2, .int 4), (0, .ref st)]) hx hb d_Store_dictsMade_26 rfl hl (by decide) rfl (fun ls hl => ?_)
  refine lv_iinc (v := 5) (lv' := [(2, .int 5), (1, .int 0), (0, .ref st)]) hx hb d_Store_dictsMade_27 hl (k := 1) rfl (by decide +kernel) (by decide) rfl (fun ls hl => ?_)
  refine lv_goto (tgt := 4) hx hb d_Store_dictsMade_30 (by decide) ?_
  refine lv_iload_n hx hb d_Store_dictsMade_4 rfl (lv_at hl 0 rfl) ?_
  refine lv_bipush (v := 7) hx hb d_Store_dictsMade_5 (by decide) ?_
  refine lv_icmp_ge (tgt := 33) hx hb d_Store_dictsMade_7 (by decide) (fun c9 => absurd c9 (by decide +kernel)) (fun _ => ?_)
  refine lv_iload_n hx hb d_Store_dictsMade_10 rfl (lv_at hl 1 rfl) ?_
  refine lv_aload_n hx hb d_Store_dictsMade_11 rfl (lv_at hl 2 rfl) ?_
  refine va_get (D := D) (ci := 3) (v := .ref b2) (C := "PageScribe$Store") (T := F_Store) (N := 5) hx hb hts i_Store hown hK hP 0 rfl rfl 1 (by decide) (hts _ k_1_111) (fun _ h9 => h9) rfl d_Store_dictsMade_12 ?_
  refine lv_iload_n hx hb d_Store_dictsMade_15 rfl (lv_at hl 0 rfl) ?_
  refine va_iald hx hb hK hP 1 0 rfl rfl (by unfold vp_in; decide +kernel) d_Store_dictsMade_16 ?_
  refine j_eqi (y := 0) (by decide +kernel) ?_
  refine lv_if_le (tgt := 24) hx hb d_Store_dictsMade_17 (by decide) (fun _ => ?_) (fun c9 => absurd c9 (by decide +kernel))
  refine lv_iconst (v := 0) hx hb d_Store_dictsMade_24 (by decide) ?_
  refine lv_iadd hx hb d_Store_dictsMade_25 ?_
  refine j_eqi (y := 0) (by decide +kernel) ?_
  refine lv_istore_n (lv' := [(1, .int 0), (2, .int 5), (0, .ref st)]) hx hb d_Store_dictsMade_26 rfl hl (by decide) rfl (fun ls hl => ?_)
  refine lv_iinc (v := 6) (lv' := [(2, .int 6), (1, .int 0), (0, .ref st)]) hx hb d_Store_dictsMade_27 hl (k := 1) rfl (by decide +kernel) (by decide) rfl (fun ls hl => ?_)
  refine lv_goto (tgt := 4) hx hb d_Store_dictsMade_30 (by decide) ?_
  refine lv_iload_n hx hb d_Store_dictsMade_4 rfl (lv_at hl 0 rfl) ?_
  refine lv_bipush (v := 7) hx hb d_Store_dictsMade_5 (by decide) ?_
  refine lv_icmp_ge (tgt := 33) hx hb d_Store_dictsMade_7 (by decide) (fun c9 => absurd c9 (by decide +kernel)) (fun _ => ?_)
  refine lv_iload_n hx hb d_Store_dictsMade_10 rfl (lv_at hl 1 rfl) ?_
  refine lv_aload_n hx hb d_Store_dictsMade_11 rfl (lv_at hl 2 rfl) ?_
  refine va_get (D := D) (ci := 3) (v := .ref b2) (C := "PageScribe$Store") (T := F_Store) (N := 5) hx hb hts i_Store hown hK hP 0 rfl rfl 1 (by decide) (hts _ k_1_111) (fun _ h9 => h9) rfl d_Store_dictsMade_12 ?_
  refine lv_iload_n hx hb d_Store_dictsMade_15 rfl (lv_at hl 0 rfl) ?_
  refine va_iald hx hb hK hP 1 0 rfl rfl (by unfold vp_in; decide +kernel) d_Store_dictsMade_16 ?_
  refine j_eqi (y := 0) (by decide +kernel) ?_
  refine lv_if_le (tgt := 24) hx hb d_Store_dictsMade_17 (by decide) (fun _ => ?_) (fun c9 => absurd c9 (by decide +kernel))
  refine lv_iconst (v := 0) hx hb d_Store_dictsMade_24 (by decide) ?_
  refine lv_iadd hx hb d_Store_dictsMade_25 ?_
  refine j_eqi (y := 0) (by decide +kernel) ?_
  refine lv_istore_n (lv' := [(1, .int 0), (2, .int 6), (0, .ref st)]) hx hb d_Store_dictsMade_26 rfl hl (by decide) rfl (fun ls hl => ?_)
  refine lv_iinc (v := 7) (lv' := [(2, .int 7), (1, .int 0), (0, .ref st)]) hx hb d_Store_dictsMade_27 hl (k := 1) rfl (by decide +kernel) (by decide) rfl (fun ls hl => ?_)
  refine lv_goto (tgt := 4) hx hb d_Store_dictsMade_30 (by decide) ?_
  refine lv_iload_n hx hb d_Store_dictsMade_4 rfl (lv_at hl 0 rfl) ?_
  refine lv_bipush (v := 7) hx hb d_Store_dictsMade_5 (by decide) ?_
  refine lv_icmp_ge (tgt := 33) hx hb d_Store_dictsMade_7 (by decide) (fun _ => ?_) (fun c9 => absurd c9 (by decide +kernel))
  refine lv_iload_n hx hb d_Store_dictsMade_33 rfl (lv_at hl 1 rfl) ?_
  have hP9 := hP.sub (ws' := [(st, .inr (3, [.ref b1, .ref b2, .ref b3, .ref b4, .ref b5])), (b2, .inl (T 0, 7, .inl roomF))]) [0, 1] rfl
  have hD9 := hD.sub (ws' := [(st, .inr (3, [.ref b1, .ref b2, .ref b3, .ref b4, .ref b5])), (b2, .inl (T 0, 7, .inl roomF))]) [0, 1] (by decide) rfl
  refine W.widen (k := 0) (n := 0) (Nat.le_of_ble_eq_true rfl) (Nat.le_of_ble_eq_true rfl) ?_
  exact j_iret F hr hlocks hK hS () rfl hP9 hD9 d_Store_dictsMade_34
/-- how many of what there are, of a new object -/
def usedOf (w : Int32) : Int32 := if w = 2 then 1 else if w < 0 ∨ 6 < w then -1 else 0
theorem usedOf_out {w : Int32} (h : w < 0 ∨ 6 < w) : usedOf w = -1 := by
  unfold usedOf
  have h2 : ¬ w = 2 := by
    rintro rfl
    exact absurd h (by decide +kernel)
  rw [if_neg h2, if_pos h]
theorem d_Ps_used_0 : decode prog_1_method_12_code 0 = .ok (.iload_n 1, 1) := by decide +kernel
theorem d_Ps_used_1 : decode prog_1_method_12_code 1 = .ok (.tableswitch 108 0 6 #[43, 57, 68, 76, 84, 92, 100], 43) := by decide +kernel
theorem d_Ps_used_109 : decode prog_1_method_12_code 109 = .ok (.iconst (-1), 1) := by decide +kernel
theorem d_Ps_used_110 : decode prog_1_method_12_code 110 = .ok (.ireturn, 1) := by decide +kernel
theorem d_Ps_used_44 : decode prog_1_method_12_code 44 = .ok (.aload_n 0, 1) := by decide +kernel
theorem d_Ps_used_45 : decode prog_1_method_12_code 45 = .ok (.getfield 28, 3) := by decide +kernel
theorem d_Ps_used_48 : decode prog_1_method_12_code 48 = .ok (.getfield 34, 3) := by decide +kernel
theorem d_Ps_used_51 : decode prog_1_method_12_code 51 = .ok (.getfield 158, 3) := by decide +kernel
theorem k_1_110 : Cond.fieldLink "PageScribe" 158 "PageScribe$Store" "cells" "LPageScribe$Row;" ∈ gw := gw_of (tb_1 (List.mem_of_getElem? (i := 110) (by decide +kernel))) (by decide +kernel)
theorem d_Ps_used_54 : decode prog_1_method_12_code 54 = .ok (.getfield 164, 3) := by decide +kernel
theorem k_1_57 : Cond.fieldLink "PageScribe" 164 "PageScribe$Row" "size" "I" ∈ gw := gw_of (tb_1 (List.mem_of_getElem? (i := 57) (by decide +kernel))) (by decide +kernel)
theorem d_Ps_used_57 : decode prog_1_method_12_code 57 = .ok (.ireturn, 1) := by decide +kernel
theorem d_Ps_used_58 : decode prog_1_method_12_code 58 = .ok (.aload_n 0, 1) := by decide +kernel
theorem d_Ps_used_59 : decode prog_1_method_12_code 59 = .ok (.getfield 28, 3) := by decide +kernel
theorem d_Ps_used_62 : decode prog_1_method_12_code 62 = .ok (.getfield 34, 3) := by decide +kernel
theorem d_Ps_used_65 : decode prog_1_method_12_code 65 = .ok (.invokevirtual 167, 3) := by decide +kernel
theorem k_2_202 : Cond.code ⟨"PageScribe$Store", "dictsMade", "()I"⟩ prog_10_method_5_code 3 (some .int) ∈ gw := gw_of (tb_2 (List.mem_of_getElem? (i := 202) (by decide +kernel))) (by decide +kernel)
theorem k_2_199 : Cond.methodLink "PageScribe" 167 ⟨"PageScribe$Store", "dictsMade", "()I"⟩ ∈ gw := gw_of (tb_2 (List.mem_of_getElem? (i := 199) (by decide +kernel))) (by decide +kernel)
theorem k_2_200 : Cond.instanceMethod ⟨"PageScribe$Store", "dictsMade", "()I"⟩ ∈ gw := gw_of (tb_2 (List.mem_of_getElem? (i := 200) (by decide +kernel))) (by decide +kernel)
theorem k_2_201 : Cond.selects "PageScribe$Store" ⟨"PageScribe$Store", "dictsMade", "()I"⟩ ⟨"PageScribe$Store", "dictsMade", "()I"⟩ ∈ gw := gw_of (tb_2 (List.mem_of_getElem? (i := 201) (by decide +kernel))) (by decide +kernel)
theorem d_Ps_used_68 : decode prog_1_method_12_code 68 = .ok (.ireturn, 1) := by decide +kernel
theorem d_Ps_used_69 : decode prog_1_method_12_code 69 = .ok (.aload_n 0, 1) := by decide +kernel
theorem d_Ps_used_70 : decode prog_1_method_12_code 70 = .ok (.getfield 28, 3) := by decide +kernel
theorem d_Ps_used_73 : decode prog_1_method_12_code 73 = .ok (.getfield 170, 3) := by decide +kernel
theorem k_1_135 : Cond.fieldLink "PageScribe" 170 "PageScribe$Memory" "scopeCount" "I" ∈ gw := gw_of (tb_1 (List.mem_of_getElem? (i := 135) (by decide +kernel))) (by decide +kernel)
theorem d_Ps_used_76 : decode prog_1_method_12_code 76 = .ok (.ireturn, 1) := by decide +kernel
theorem d_Ps_used_77 : decode prog_1_method_12_code 77 = .ok (.aload_n 0, 1) := by decide +kernel
theorem d_Ps_used_78 : decode prog_1_method_12_code 78 = .ok (.getfield 28, 3) := by decide +kernel
theorem d_Ps_used_81 : decode prog_1_method_12_code 81 = .ok (.getfield 173, 3) := by decide +kernel
theorem k_1_139 : Cond.fieldLink "PageScribe" 173 "PageScribe$Memory" "openSaves" "I" ∈ gw := gw_of (tb_1 (List.mem_of_getElem? (i := 139) (by decide +kernel))) (by decide +kernel)
theorem d_Ps_used_84 : decode prog_1_method_12_code 84 = .ok (.ireturn, 1) := by decide +kernel
theorem d_Ps_used_85 : decode prog_1_method_12_code 85 = .ok (.aload_n 0, 1) := by decide +kernel
theorem d_Ps_used_86 : decode prog_1_method_12_code 86 = .ok (.getfield 50, 3) := by decide +kernel
theorem d_Ps_used_89 : decode prog_1_method_12_code 89 = .ok (.getfield 176, 3) := by decide +kernel
theorem k_1_216 : Cond.fieldLink "PageScribe" 176 "PageScribe$Canvas" "points" "I" ∈ gw := gw_of (tb_1 (List.mem_of_getElem? (i := 216) (by decide +kernel))) (by decide +kernel)
theorem d_Ps_used_92 : decode prog_1_method_12_code 92 = .ok (.ireturn, 1) := by decide +kernel
theorem d_Ps_used_93 : decode prog_1_method_12_code 93 = .ok (.aload_n 0, 1) := by decide +kernel
theorem d_Ps_used_94 : decode prog_1_method_12_code 94 = .ok (.getfield 19, 3) := by decide +kernel
theorem d_Ps_used_97 : decode prog_1_method_12_code 97 = .ok (.getfield 179, 3) := by decide +kernel
theorem k_1_78 : Cond.fieldLink "PageScribe" 179 "PageScribe$Words" "count" "I" ∈ gw := gw_of (tb_1 (List.mem_of_getElem? (i := 78) (by decide +kernel))) (by decide +kernel)
theorem d_Ps_used_100 : decode prog_1_method_12_code 100 = .ok (.ireturn, 1) := by decide +kernel
theorem d_Ps_used_101 : decode prog_1_method_12_code 101 = .ok (.aload_n 0, 1) := by decide +kernel
theorem d_Ps_used_102 : decode prog_1_method_12_code 102 = .ok (.getfield 41, 3) := by decide +kernel
theorem d_Ps_used_105 : decode prog_1_method_12_code 105 = .ok (.getfield 182, 3) := by decide +kernel
theorem k_1_170 : Cond.fieldLink "PageScribe" 182 "PageScribe$Reader" "length" "I" ∈ gw := gw_of (tb_1 (List.mem_of_getElem? (i := 170) (by decide +kernel))) (by decide +kernel)
theorem d_Ps_used_108 : decode prog_1_method_12_code 108 = .ok (.ireturn, 1) := by decide +kernel
set_option maxHeartbeats 4000000 in
set_option maxRecDepth 100000 in
theorem c_Ps_used (l : Launch) (D : va_G) (T : Nat → ClassId) (h0 : Nat) (oS : Nat) (oW : Nat) (oM : Nat) (oR : Nat) (oC : Nat) (oE : Nat) (st : Nat) (m1 : Nat) (m2 : Nat) (m3 : Nat) (b1 : Nat) (b2 : Nat) (b3 : Nat) (b4 : Nat) (b5 : Nat) (r1 : Nat) (r2 : Nat) (r3 : Nat) (C : Nat) (Rr : Nat) (lv : Nat) (ac : Nat) (al : Nat) (be : Nat) (w1 : Nat) (w2 : Nat) (tx : Nat) (gt : Nat) (bg : Nat) (p0 : Int32) (sz : Nat) : Met l ⟨"PageScribe", "used", "(I)I"⟩ (wy ⟨"PageScribe", "used", "(I)I"⟩ prog_1_method_12_code 2 (some .int)) ({ frames := 1, cells := 0, slots := 0, locals := 70 }) (va_Pc [.ref h0, .int p0] (Pw D T [(h0, .inr (10, [.ref oS, .ref oW, .ref oM, .ref oR, .ref oC, .ref oE])), (oM, .inr (2, [.ref oS, .ref st, .ref m1, .int 1, .ref m2, .ref m3, .int 0, .int 0])), (st, .inr (3, [.ref b1, .ref b2, .ref b3, .ref b4, .ref b5])), (b1, .inr (4, [.ref r1, .ref r2, .ref r3, .int 0])), (b2, .inl (T 0, 7, .inl roomF)), (oC, .inr (6, [.ref oS, .int (nI C), .int (nI Rr), .ref lv, .float 0x3f800000, .ref ac, .ref al, .ref be, .int 0])), (oW, .inr (1, [.ref w1, .ref w2, .int 0])), (oR, .inr (5, [.ref oW, .ref st, .ref tx, .int 0, .int 0, .int 0, .int 0, .double 0, .ref gt, .ref bg]))] sz E0)) (va_Qi (fun (r : Int32) (u : Unit) => r = usedOf p0) (fun u t => Bw D T (va_A [(h0, .inr (10, [.ref oS, .ref oW, .ref oM, .ref oR, .ref oC, .ref oE])), (oM, .inr (2, [.ref oS, .ref st, .ref m1, .int 1, .ref m2, .ref m3, .int 0, .int 0])), (st, .inr (3, [.ref b1, .ref b2, .ref b3, .ref b4, .ref b5])), (b1, .inr (4, [.ref r1, .ref r2, .ref r3, .int 0])), (b2, .inl (T 0, 7, .inl roomF)), (oC, .inr (6, [.ref oS, .int (nI C), .int (nI Rr), .ref lv, .float 0x3f800000, .ref ac, .ref al, .ref be, .int 0])), (oW, .inr (1, [.ref w1, .ref w2, .int 0])), (oR, .inr (5, [.ref oW, .ref st, .ref tx, .int 0, .int 0, .int 0, .int 0, .double 0, .ref gt, .ref bg]))] sz) [(h0, .inr (10, [.ref oS, .ref oW, .ref oM, .ref oR, .ref oC, .ref oE])), (oM, .inr (2, [.ref oS, .ref st, .ref m1, .int 1, .ref m2, .ref m3, .int 0, .int 0])), (st, .inr (3, [.ref b1, .ref b2, .ref b3, .ref b4, .ref b5])), (b1, .inr (4, [.ref r1, .ref r2, .ref r3, .int 0])), (b2, .inl (T 0, 7, .inl roomF)), (oC, .inr (6, [.ref oS, .int (nI C), .int (nI Rr), .ref lv, .float 0x3f800000, .ref ac, .ref al, .ref be, .int 0])), (oW, .inr (1, [.ref w1, .ref w2, .int 0])), (oR, .inr (5, [.ref oW, .ref st, .ref tx, .int 0, .int 0, .int 0, .int 0, .double 0, .ref gt, .ref bg]))] t) (va_A [(h0, .inr (10, [.ref oS, .ref oW, .ref oM, .ref oR, .ref oC, .ref oE])), (oM, .inr (2, [.ref oS, .ref st, .ref m1, .int 1, .ref m2, .ref m3, .int 0, .int 0])), (st, .inr (3, [.ref b1, .ref b2, .ref b3, .ref b4, .ref b5])), (b1, .inr (4, [.ref r1, .ref r2, .ref r3, .int 0])), (b2, .inl (T 0, 7, .inl roomF)), (oC, .inr (6, [.ref oS, .int (nI C), .int (nI Rr), .ref lv, .float 0x3f800000, .ref ac, .ref al, .ref be, .int 0])), (oW, .inr (1, [.ref w1, .ref w2, .int 0])), (oR, .inr (5, [.ref oW, .ref st, .ref tx, .int 0, .int 0, .int 0, .int 0, .double 0, .ref gt, .ref bg]))] sz)) 0 0 (va_A [(h0, .inr (10, [.ref oS, .ref oW, .ref oM, .ref oR, .ref oC, .ref oE])), (oM, .inr (2, [.ref oS, .ref st, .ref m1, .int 1, .ref m2, .ref m3, .int 0, .int 0])), (st, .inr (3, [.ref b1, .ref b2, .ref b3, .ref b4, .ref b5])), (b1, .inr (4, [.ref r1, .ref r2, .ref r3, .int 0])), (b2, .inl (T 0, 7, .inl roomF)), (oC, .inr (6, [.ref oS, .int (nI C), .int (nI Rr), .ref lv, .float 0x3f800000, .ref ac, .ref al, .ref be, .int 0])), (oW, .inr (1, [.ref w1, .ref w2, .int 0])), (oR, .inr (5, [.ref oW, .ref st, .ref tx, .int 0, .int 0, .int 0, .int 0, .double 0, .ref gt, .ref bg]))] sz) := by
  refine j_met (y := ⟨"PageScribe", "used", "(I)I"⟩) (b := prog_1_method_12_code) (n := 2) (ret := (some .int)) (av := [.ref h0, .int p0]) (Qc := fun A => va_Qi (fun (r : Int32) (u : Unit) => r = usedOf p0) (fun u t => Bw D T A [(h0, .inr (10, [.ref oS, .ref oW, .ref oM, .ref oR, .ref oC, .ref oE])), (oM, .inr (2, [.ref oS, .ref st, .ref m1, .int 1, .ref m2, .ref m3, .int 0, .int 0])), (st, .inr (3, [.ref b1, .ref b2, .ref b3, .ref b4, .ref b5])), (b1, .inr (4, [.ref r1, .ref r2, .ref r3, .int 0])), (b2, .inl (T 0, 7, .inl roomF)), (oC, .inr (6, [.ref oS, .int (nI C), .int (nI Rr), .ref lv, .float 0x3f800000, .ref ac, .ref al, .ref be, .int 0])), (oW, .inr (1, [.ref w1, .ref w2, .int 0])), (oR, .inr (5, [.ref oW, .ref st, .ref tx, .int 0, .int 0, .int 0, .int 0, .double 0, .ref gt, .ref bg]))] t) A) (by decide +kernel) (Nat.le_of_ble_eq_true rfl) (fun p e s m args below meth c A ls F hr hlocks hnm hK hP hD hS hA hN hE hl => ?_)
  obtain ⟨hx, hb, hml, hown, hts⟩ := id F
  have hin := hnm
  have hl : lv_has ls 2 [(0, .ref h0), (1, .int p0)] := hl
  refine lv_iload_n hx hb d_Ps_used_0 rfl (lv_at hl 1 rfl) ?_
  by_cases hlo : p0 < 0
  · refine lv_tableOut (tgt := 109) hx hb d_Ps_used_1 (Or.inl (by have := Int32.lt_iff_toInt_lt.mp hlo; simpa using this)) (by decide) ?_
    refine lv_iconst (v := (-1)) hx hb d_Ps_used_109 (by decide) ?_
    have hP9 := hP.sub (ws' := [(h0, .inr (10, [.ref oS, .ref oW, .ref oM, .ref oR, .ref oC, .ref oE])), (oM, .inr (2, [.ref oS, .ref st, .ref m1, .int 1, .ref m2, .ref m3, .int 0, .int 0])), (st, .inr (3, [.ref b1, .ref b2, .ref b3, .ref b4, .ref b5])), (b1, .inr (4, [.ref r1, .ref r2, .ref r3, .int 0])), (b2, .inl (T 0, 7, .inl roomF)), (oC, .inr (6, [.ref oS, .int (nI C), .int (nI Rr), .ref lv, .float 0x3f800000, .ref ac, .ref al, .ref be, .int 0])), (oW, .inr (1, [.ref w1, .ref w2, .int 0])), (oR, .inr (5, [.ref oW, .ref st, .ref tx, .int 0, .int 0, .int 0, .int 0, .double 0, .ref gt, .ref bg]))]) [0, 1, 2, 3, 4, 5, 6, 7] rfl
    have hD9 := hD.sub (ws' := [(h0, .inr (10, [.ref oS, .ref oW, .ref oM, .ref oR, .ref oC, .ref oE])), (oM, .inr (2, [.ref oS, .ref st, .ref m1, .int 1, .ref m2, .ref m3, .int 0, .int 0])), (st, .inr (3, [.ref b1, .ref b2, .ref b3, .ref b4, .ref b5])), (b1, .inr (4, [.ref r1, .ref r2, .ref r3, .int 0])), (b2, .inl (T 0, 7, .inl roomF)), (oC, .inr (6, [.ref oS, .int (nI C), .int (nI Rr), .ref lv, .float 0x3f800000, .ref ac, .ref al, .ref be, .int 0])), (oW, .inr (1, [.ref w1, .ref w2, .int 0])), (oR, .inr (5, [.ref oW, .ref st, .ref tx, .int 0, .int 0, .int 0, .int 0, .double 0, .ref gt, .ref bg]))]) [0, 1, 2, 3, 4, 5, 6, 7] (by decide) rfl
    refine W.widen (k := 0) (n := 0) (Nat.le_of_ble_eq_true rfl) (Nat.le_of_ble_eq_true rfl) ?_
    exact j_iret F hr hlocks hK hS () (usedOf_out (Or.inl hlo)).symm hP9 hD9 d_Ps_used_110
  by_cases hhi : (6 : Int32) < p0
  · refine lv_tableOut (tgt := 109) hx hb d_Ps_used_1 (Or.inr (by have := Int32.lt_iff_toInt_lt.mp hhi; simpa using this)) (by decide) ?_
    refine lv_iconst (v := (-1)) hx hb d_Ps_used_109 (by decide) ?_
    have hP9 := hP.sub (ws' := [(h0, .inr (10, [.ref oS, .ref oW, .ref oM, .ref oR, .ref oC, .ref oE])), (oM, .inr (2, [.ref oS, .ref st, .ref m1, .int 1, .ref m2, .ref m3, .int 0, .int 0])), (st, .inr (3, [.ref b1, .ref b2, .ref b3, .ref b4, .ref b5])), (b1, .inr (4, [.ref r1, .ref r2, .ref r3, .int 0])), (b2, .inl (T 0, 7, .inl roomF)), (oC, .inr (6, [.ref oS, .int (nI C), .int (nI Rr), .ref lv, .float 0x3f800000, .ref ac, .ref al, .ref be, .int 0])), (oW, .inr (1, [.ref w1, .ref w2, .int 0])), (oR, .inr (5, [.ref oW, .ref st, .ref tx, .int 0, .int 0, .int 0, .int 0, .double 0, .ref gt, .ref bg]))]) [0, 1, 2, 3, 4, 5, 6, 7] rfl
    have hD9 := hD.sub (ws' := [(h0, .inr (10, [.ref oS, .ref oW, .ref oM, .ref oR, .ref oC, .ref oE])), (oM, .inr (2, [.ref oS, .ref st, .ref m1, .int 1, .ref m2, .ref m3, .int 0, .int 0])), (st, .inr (3, [.ref b1, .ref b2, .ref b3, .ref b4, .ref b5])), (b1, .inr (4, [.ref r1, .ref r2, .ref r3, .int 0])), (b2, .inl (T 0, 7, .inl roomF)), (oC, .inr (6, [.ref oS, .int (nI C), .int (nI Rr), .ref lv, .float 0x3f800000, .ref ac, .ref al, .ref be, .int 0])), (oW, .inr (1, [.ref w1, .ref w2, .int 0])), (oR, .inr (5, [.ref oW, .ref st, .ref tx, .int 0, .int 0, .int 0, .int 0, .double 0, .ref gt, .ref bg]))]) [0, 1, 2, 3, 4, 5, 6, 7] (by decide) rfl
    refine W.widen (k := 0) (n := 0) (Nat.le_of_ble_eq_true rfl) (Nat.le_of_ble_eq_true rfl) ?_
    exact j_iret F hr hlocks hK hS () (usedOf_out (Or.inr hhi)).symm hP9 hD9 d_Ps_used_110
  obtain ⟨j, hj, rfl⟩ : ∃ j : Nat, j ≤ 6 ∧ p0 = nI j := nI_of2 (M := 6) (n := 6) (by decide +kernel) hlo (Int32.not_lt.mp hhi)
  rcases (show j = 0 ∨ 0 < j by omega) with rfl | hj0
  · refine lv_tableIn (off := 43) (tgt := 44) hx hb d_Ps_used_1 (by decide +kernel) (by decide +kernel) (by decide +kernel) (by decide) ?_
    refine lv_aload_n hx hb d_Ps_used_44 rfl (lv_at hl 0 rfl) ?_
    refine va_get (D := D) (ci := 10) (v := .ref oM) (C := "PageScribe") (T := F_Ps) (N := 6) hx hb hts i_Ps hown hK hP 0 rfl rfl 2 (by decide) (hts _ k_2_60) (fun _ h9 => h9) rfl d_Ps_used_45 ?_
    refine va_get (D := D) (ci := 2) (v := .ref st) (C := "PageScribe$Memory") (T := F_Memory) (N := 8) hx hb hts i_Memory hown hK hP 1 rfl rfl 1 (by decide) (hts _ k_1_131) (fun _ h9 => h9) rfl d_Ps_used_48 ?_
    refine va_get (D := D) (ci := 3) (v := .ref b1) (C := "PageScribe$Store") (T := F_Store) (N := 5) hx hb hts i_Store hown hK hP 2 rfl rfl 0 (by decide) (hts _ k_1_110) (fun _ h9 => h9) rfl d_Ps_used_51 ?_
    refine va_get (D := D) (ci := 4) (v := .int 0) (C := "PageScribe$Row") (T := F_Row) (N := 4) hx hb hts i_Row hown hK hP 3 rfl rfl 3 (by decide) (hts _ k_1_57) (fun _ h9 => h9) rfl d_Ps_used_54 ?_
    have hP9 := hP.sub (ws' := [(h0, .inr (10, [.ref oS, .ref oW, .ref oM, .ref oR, .ref oC, .ref oE])), (oM, .inr (2, [.ref oS, .ref st, .ref m1, .int 1, .ref m2, .ref m3, .int 0, .int 0])), (st, .inr (3, [.ref b1, .ref b2, .ref b3, .ref b4, .ref b5])), (b1, .inr (4, [.ref r1, .ref r2, .ref r3, .int 0])), (b2, .inl (T 0, 7, .inl roomF)), (oC, .inr (6, [.ref oS, .int (nI C), .int (nI Rr), .ref lv, .float 0x3f800000, .ref ac, .ref al, .ref be, .int 0])), (oW, .inr (1, [.ref w1, .ref w2, .int 0])), (oR, .inr (5, [.ref oW, .ref st, .ref tx, .int 0, .int 0, .int 0, .int 0, .double 0, .ref gt, .ref bg]))]) [0, 1, 2, 3, 4, 5, 6, 7] rfl
    have hD9 := hD.sub (ws' := [(h0, .inr (10, [.ref oS, .ref oW, .ref oM, .ref oR, .ref oC, .ref oE])), (oM, .inr (2, [.ref oS, .ref st, .ref m1, .int 1, .ref m2, .ref m3, .int 0, .int 0])), (st, .inr (3, [.ref b1, .ref b2, .ref b3, .ref b4, .ref b5])), (b1, .inr (4, [.ref r1, .ref r2, .ref r3, .int 0])), (b2, .inl (T 0, 7, .inl roomF)), (oC, .inr (6, [.ref oS, .int (nI C), .int (nI Rr), .ref lv, .float 0x3f800000, .ref ac, .ref al, .ref be, .int 0])), (oW, .inr (1, [.ref w1, .ref w2, .int 0])), (oR, .inr (5, [.ref oW, .ref st, .ref tx, .int 0, .int 0, .int 0, .int 0, .double 0, .ref gt, .ref bg]))]) [0, 1, 2, 3, 4, 5, 6, 7] (by decide) rfl
    refine W.widen (k := 0) (n := 0) (Nat.le_of_ble_eq_true rfl) (Nat.le_of_ble_eq_true rfl) ?_
    exact j_iret F hr hlocks hK hS () (by decide +kernel) hP9 hD9 d_Ps_used_57
  rcases (show j = 1 ∨ 1 < j by omega) with rfl | hj1
  · refine lv_tableIn (off := 57) (tgt := 58) hx hb d_Ps_used_1 (by decide +kernel) (by decide +kernel) (by decide +kernel) (by decide) ?_
    refine lv_aload_n hx hb d_Ps_used_58 rfl (lv_at hl 0 rfl) ?_
    refine va_get (D := D) (ci := 10) (v := .ref oM) (C := "PageScribe") (T := F_Ps) (N := 6) hx hb hts i_Ps hown hK hP 0 rfl rfl 2 (by decide) (hts _ k_2_60) (fun _ h9 => h9) rfl d_Ps_used_59 ?_
    refine va_get (D := D) (ci := 2) (v := .ref st) (C := "PageScribe$Memory") (T := F_Memory) (N := 8) hx hb hts i_Memory hown hK hP 1 rfl rfl 1 (by decide) (hts _ k_1_131) (fun _ h9 => h9) rfl d_Ps_used_62 ?_
    refine j_ci (wc := [(st, .inr (3, [.ref b1, .ref b2, .ref b3, .ref b4, .ref b5])), (b2, .inl (T 0, 7, .inl roomF))]) (wr := [(h0, .inr (10, [.ref oS, .ref oW, .ref oM, .ref oR, .ref oC, .ref oE])), (oM, .inr (2, [.ref oS, .ref st, .ref m1, .int 1, .ref m2, .ref m3, .int 0, .int 0])), (b1, .inr (4, [.ref r1, .ref r2, .ref r3, .int 0])), (oC, .inr (6, [.ref oS, .int (nI C), .int (nI Rr), .ref lv, .float 0x3f800000, .ref ac, .ref al, .ref be, .int 0])), (oW, .inr (1, [.ref w1, .ref w2, .int 0])), (oR, .inr (5, [.ref oW, .ref st, .ref tx, .int 0, .int 0, .int 0, .int 0, .double 0, .ref gt, .ref bg]))]) hK hP hD hS hA [2, 4] [0, 1, 3, 5, 6, 7] rfl rfl (by decide) (by decide) (va_runV (As := []) (rest := []) F (c_Store_dictsMade l D T st b1 b2 b3 b4 b5 s.heap.size) (j_cV (k := 0) (C := "PageScribe$Store") hts k_2_202 k_1_6 k_2_199 k_2_200 k_2_201 (by decide +kernel) ⟨Nat.le_of_ble_eq_true rfl, Nat.le_of_ble_eq_true rfl⟩) (j_preV (q0 := 2) (ci := 3) hK hP hD [2, 4] rfl (by decide) rfl rfl (fun _ _ _ _ h => h) (fun _ _ _ => trivial)) rfl rfl hl.1 rfl (lv_room (Nat.le_of_ble_eq_true rfl)) d_Ps_used_65 ⟨Nat.le_of_ble_eq_true rfl, Nat.le_of_ble_eq_true rfl⟩) (fun rv1 u1 H locs hw hP hD hS => ?_)
    have hP : va_P D classes [(h0, .inr (10, [.ref oS, .ref oW, .ref oM, .ref oR, .ref oC, .ref oE])), (oM, .inr (2, [.ref oS, .ref st, .ref m1, .int 1, .ref m2, .ref m3, .int 0, .int 0])), (b1, .inr (4, [.ref r1, .ref r2, .ref r3, .int 0])), (oC, .inr (6, [.ref oS, .int (nI C), .int (nI Rr), .ref lv, .float 0x3f800000, .ref ac, .ref al, .ref be, .int 0])), (oW, .inr (1, [.ref w1, .ref w2, .int 0])), (oR, .inr (5, [.ref oW, .ref st, .ref tx, .int 0, .int 0, .int 0, .int 0, .double 0, .ref gt, .ref bg])), (st, .inr (3, [.ref b1, .ref b2, .ref b3, .ref b4, .ref b5])), (b2, .inl (T 0, 7, .inl roomF))] H := hP
    have hD : va_D A [(h0, .inr (10, [.ref oS, .ref oW, .ref oM, .ref oR, .ref oC, .ref oE])), (oM, .inr (2, [.ref oS, .ref st, .ref m1, .int 1, .ref m2, .ref m3, .int 0, .int 0])), (b1, .inr (4, [.ref r1, .ref r2, .ref r3, .int 0])), (oC, .inr (6, [.ref oS, .int (nI C), .int (nI Rr), .ref lv, .float 0x3f800000, .ref ac, .ref al, .ref be, .int 0])), (oW, .inr (1, [.ref w1, .ref w2, .int 0])), (oR, .inr (5, [.ref oW, .ref st, .ref tx, .int 0, .int 0, .int 0, .int 0, .double 0, .ref gt, .ref bg])), (st, .inr (3, [.ref b1, .ref b2, .ref b3, .ref b4, .ref b5])), (b2, .inl (T 0, 7, .inl roomF))] := hD
    have hw1 : rv1 = 0 := hw
    refine j_eqi (y := 0) hw1 ?_
    have hP9 := hP.sub (ws' := [(h0, .inr (10, [.ref oS, .ref oW, .ref oM, .ref oR, .ref oC, .ref oE])), (oM, .inr (2, [.ref oS, .ref st, .ref m1, .int 1, .ref m2, .ref m3, .int 0, .int 0])), (st, .inr (3, [.ref b1, .ref b2, .ref b3, .ref b4, .ref b5])), (b1, .inr (4, [.ref r1, .ref r2, .ref r3, .int 0])), (b2, .inl (T 0, 7, .inl roomF)), (oC, .inr (6, [.ref oS, .int (nI C), .int (nI Rr), .ref lv, .float 0x3f800000, .ref ac, .ref al, .ref be, .int 0])), (oW, .inr (1, [.ref w1, .ref w2, .int 0])), (oR, .inr (5, [.ref oW, .ref st, .ref tx, .int 0, .int 0, .int 0, .int 0, .double 0, .ref gt, .ref bg]))]) [0, 1, 6, 2, 7, 3, 4, 5] rfl
    have hD9 := hD.sub (ws' := [(h0, .inr (10, [.ref oS, .ref oW, .ref oM, .ref oR, .ref oC, .ref oE])), (oM, .inr (2, [.ref oS, .ref st, .ref m1, .int 1, .ref m2, .ref m3, .int 0, .int 0])), (st, .inr (3, [.ref b1, .ref b2, .ref b3, .ref b4, .ref b5])), (b1, .inr (4, [.ref r1, .ref r2, .ref r3, .int 0])), (b2, .inl (T 0, 7, .inl roomF)), (oC, .inr (6, [.ref oS, .int (nI C), .int (nI Rr), .ref lv, .float 0x3f800000, .ref ac, .ref al, .ref be, .int 0])), (oW, .inr (1, [.ref w1, .ref w2, .int 0])), (oR, .inr (5, [.ref oW, .ref st, .ref tx, .int 0, .int 0, .int 0, .int 0, .double 0, .ref gt, .ref bg]))]) [0, 1, 6, 2, 7, 3, 4, 5] (by decide) rfl
    refine W.widen (k := 0) (n := 0) (Nat.le_of_ble_eq_true rfl) (Nat.le_of_ble_eq_true rfl) ?_
    exact j_iret F hr hlocks hK hS () (by decide +kernel) hP9 hD9 d_Ps_used_68
  rcases (show j = 2 ∨ 2 < j by omega) with rfl | hj2
  · refine lv_tableIn (off := 68) (tgt := 69) hx hb d_Ps_used_1 (by decide +kernel) (by decide +kernel) (by decide +kernel) (by decide) ?_
    refine lv_aload_n hx hb d_Ps_used_69 rfl (lv_at hl 0 rfl) ?_
    refine va_get (D := D) (ci := 10) (v := .ref oM) (C := "PageScribe") (T := F_Ps) (N := 6) hx hb hts i_Ps hown hK hP 0 rfl rfl 2 (by decide) (hts _ k_2_60) (fun _ h9 => h9) rfl d_Ps_used_70 ?_
    refine va_get (D := D) (ci := 2) (v := .int 1) (C := "PageScribe$Memory") (T := F_Memory) (N := 8) hx hb hts i_Memory hown hK hP 1 rfl rfl 3 (by decide) (hts _ k_1_135) (fun _ h9 => h9) rfl d_Ps_used_73 ?_
    have hP9 := hP.sub (ws' := [(h0, .inr (10, [.ref oS, .ref oW, .ref oM, .ref oR, .ref oC, .ref oE])), (oM, .inr (2, [.ref oS, .ref st, .ref m1, .int 1, .ref m2, .ref m3, .int 0, .int 0])), (st, .inr (3, [.ref b1, .ref b2, .ref b3, .ref b4, .ref b5])), (b1, .inr (4, [.ref r1, .ref r2, .ref r3, .int 0])), (b2, .inl (T 0, 7, .inl roomF)), (oC, .inr (6, [.ref oS, .int (nI C), .int (nI Rr), .ref lv, .float 0x3f800000, .ref ac, .ref al, .ref be, .int 0])), (oW, .inr (1, [.ref w1, .ref w2, .int 0])), (oR, .inr (5, [.ref oW, .ref st, .ref tx, .int 0, .int 0, .int 0, .int 0, .double 0, .ref gt, .ref bg]))]) [0, 1, 2, 3, 4, 5, 6, 7] rfl
    have hD9 := hD.sub (ws' := [(h0, .inr (10, [.ref oS, .ref oW, .ref oM, .ref oR, .ref oC, .ref oE])), (oM, .inr (2, [.ref oS, .ref st, .ref m1, .int 1, .ref m2, .ref m3, .int 0, .int 0])), (st, .inr (3, [.ref b1, .ref b2, .ref b3, .ref b4, .ref b5])), (b1, .inr (4, [.ref r1, .ref r2, .ref r3, .int 0])), (b2, .inl (T 0, 7, .inl roomF)), (oC, .inr (6, [.ref oS, .int (nI C), .int (nI Rr), .ref lv, .float 0x3f800000, .ref ac, .ref al, .ref be, .int 0])), (oW, .inr (1, [.ref w1, .ref w2, .int 0])), (oR, .inr (5, [.ref oW, .ref st, .ref tx, .int 0, .int 0, .int 0, .int 0, .double 0, .ref gt, .ref bg]))]) [0, 1, 2, 3, 4, 5, 6, 7] (by decide) rfl
    refine W.widen (k := 0) (n := 0) (Nat.le_of_ble_eq_true rfl) (Nat.le_of_ble_eq_true rfl) ?_
    exact j_iret F hr hlocks hK hS () (by decide +kernel) hP9 hD9 d_Ps_used_76
  rcases (show j = 3 ∨ 3 < j by omega) with rfl | hj3
  · refine lv_tableIn (off := 76) (tgt := 77) hx hb d_Ps_used_1 (by decide +kernel) (by decide +kernel) (by decide +kernel) (by decide) ?_
    refine lv_aload_n hx hb d_Ps_used_77 rfl (lv_at hl 0 rfl) ?_
    refine va_get (D := D) (ci := 10) (v := .ref oM) (C := "PageScribe") (T := F_Ps) (N := 6) hx hb hts i_Ps hown hK hP 0 rfl rfl 2 (by decide) (hts _ k_2_60) (fun _ h9 => h9) rfl d_Ps_used_78 ?_
    refine va_get (D := D) (ci := 2) (v := .int 0) (C := "PageScribe$Memory") (T := F_Memory) (N := 8) hx hb hts i_Memory hown hK hP 1 rfl rfl 6 (by decide) (hts _ k_1_139) (fun _ h9 => h9) rfl d_Ps_used_81 ?_
    have hP9 := hP.sub (ws' := [(h0, .inr (10, [.ref oS, .ref oW, .ref oM, .ref oR, .ref oC, .ref oE])), (oM, .inr (2, [.ref oS, .ref st, .ref m1, .int 1, .ref m2, .ref m3, .int 0, .int 0])), (st, .inr (3, [.ref b1, .ref b2, .ref b3, .ref b4, .ref b5])), (b1, .inr (4, [.ref r1, .ref r2, .ref r3, .int 0])), (b2, .inl (T 0, 7, .inl roomF)), (oC, .inr (6, [.ref oS, .int (nI C), .int (nI Rr), .ref lv, .float 0x3f800000, .ref ac, .ref al, .ref be, .int 0])), (oW, .inr (1, [.ref w1, .ref w2, .int 0])), (oR, .inr (5, [.ref oW, .ref st, .ref tx, .int 0, .int 0, .int 0, .int 0, .double 0, .ref gt, .ref bg]))]) [0, 1, 2, 3, 4, 5, 6, 7] rfl
    have hD9 := hD.sub (ws' := [(h0, .inr (10, [.ref oS, .ref oW, .ref oM, .ref oR, .ref oC, .ref oE])), (oM, .inr (2, [.ref oS, .ref st, .ref m1, .int 1, .ref m2, .ref m3, .int 0, .int 0])), (st, .inr (3, [.ref b1, .ref b2, .ref b3, .ref b4, .ref b5])), (b1, .inr (4, [.ref r1, .ref r2, .ref r3, .int 0])), (b2, .inl (T 0, 7, .inl roomF)), (oC, .inr (6, [.ref oS, .int (nI C), .int (nI Rr), .ref lv, .float 0x3f800000, .ref ac, .ref al, .ref be, .int 0])), (oW, .inr (1, [.ref w1, .ref w2, .int 0])), (oR, .inr (5, [.ref oW, .ref st, .ref tx, .int 0, .int 0, .int 0, .int 0, .double 0, .ref gt, .ref bg]))]) [0, 1, 2, 3, 4, 5, 6, 7] (by decide) rfl
    refine W.widen (k := 0) (n := 0) (Nat.le_of_ble_eq_true rfl) (Nat.le_of_ble_eq_true rfl) ?_
    exact j_iret F hr hlocks hK hS () (by decide +kernel) hP9 hD9 d_Ps_used_84
  rcases (show j = 4 ∨ 4 < j by omega) with rfl | hj4
  · refine lv_tableIn (off := 84) (tgt := 85) hx hb d_Ps_used_1 (by decide +kernel) (by decide +kernel) (by decide +kernel) (by decide) ?_
    refine lv_aload_n hx hb d_Ps_used_85 rfl (lv_at hl 0 rfl) ?_
    refine va_get (D := D) (ci := 10) (v := .ref oC) (C := "PageScribe") (T := F_Ps) (N := 6) hx hb hts i_Ps hown hK hP 0 rfl rfl 4 (by decide) (hts _ k_2_62) (fun _ h9 => h9) rfl d_Ps_used_86 ?_
    refine va_get (D := D) (ci := 6) (v := .int 0) (C := "PageScribe$Canvas") (T := F_Canvas) (N := 9) hx hb hts i_Canvas hown hK hP 5 rfl rfl 8 (by decide) (hts _ k_1_216) (fun _ h9 => h9) rfl d_Ps_used_89 ?_
    have hP9 := hP.sub (ws' := [(h0, .inr (10, [.ref oS, .ref oW, .ref oM, .ref oR, .ref oC, .ref oE])), (oM, .inr (2, [.ref oS, .ref st, .ref m1, .int 1, .ref m2, .ref m3, .int 0, .int 0])), (st, .inr (3, [.ref b1, .ref b2, .ref b3, .ref b4, .ref b5])), (b1, .inr (4, [.ref r1, .ref r2, .ref r3, .int 0])), (b2, .inl (T 0, 7, .inl roomF)), (oC, .inr (6, [.ref oS, .int (nI C), .int (nI Rr), .ref lv, .float 0x3f800000, .ref ac, .ref al, .ref be, .int 0])), (oW, .inr (1, [.ref w1, .ref w2, .int 0])), (oR, .inr (5, [.ref oW, .ref st, .ref tx, .int 0, .int 0, .int 0, .int 0, .double 0, .ref gt, .ref bg]))]) [0, 1, 2, 3, 4, 5, 6, 7] rfl
    have hD9 := hD.sub (ws' := [(h0, .inr (10, [.ref oS, .ref oW, .ref oM, .ref oR, .ref oC, .ref oE])), (oM, .inr (2, [.ref oS, .ref st, .ref m1, .int 1, .ref m2, .ref m3, .int 0, .int 0])), (st, .inr (3, [.ref b1, .ref b2, .ref b3, .ref b4, .ref b5])), (b1, .inr (4, [.ref r1, .ref r2, .ref r3, .int 0])), (b2, .inl (T 0, 7, .inl roomF)), (oC, .inr (6, [.ref oS, .int (nI C), .int (nI Rr), .ref lv, .float 0x3f800000, .ref ac, .ref al, .ref be, .int 0])), (oW, .inr (1, [.ref w1, .ref w2, .int 0])), (oR, .inr (5, [.ref oW, .ref st, .ref tx, .int 0, .int 0, .int 0, .int 0, .double 0, .ref gt, .ref bg]))]) [0, 1, 2, 3, 4, 5, 6, 7] (by decide) rfl
    refine W.widen (k := 0) (n := 0) (Nat.le_of_ble_eq_true rfl) (Nat.le_of_ble_eq_true rfl) ?_
    exact j_iret F hr hlocks hK hS () (by decide +kernel) hP9 hD9 d_Ps_used_92
  rcases (show j = 5 ∨ 5 < j by omega) with rfl | hj5
  · refine lv_tableIn (off := 92) (tgt := 93) hx hb d_Ps_used_1 (by decide +kernel) (by decide +kernel) (by decide +kernel) (by decide) ?_
    refine lv_aload_n hx hb d_Ps_used_93 rfl (lv_at hl 0 rfl) ?_
    refine va_get (D := D) (ci := 10) (v := .ref oW) (C := "PageScribe") (T := F_Ps) (N := 6) hx hb hts i_Ps hown hK hP 0 rfl rfl 1 (by decide) (hts _ k_2_59) (fun _ h9 => h9) rfl d_Ps_used_94 ?_
    refine va_get (D := D) (ci := 1) (v := .int 0) (C := "PageScribe$Words") (T := F_Words) (N := 3) hx hb hts i_Words hown hK hP 6 rfl rfl 2 (by decide) (hts _ k_1_78) (fun _ h9 => h9) rfl d_Ps_used_97 ?_
    have hP9 := hP.sub (ws' := [(h0, .inr (10, [.ref oS, .ref oW, .ref oM, .ref oR, .ref oC, .ref oE])), (oM, .inr (2, [.ref oS, .ref st, .ref m1, .int 1, .ref m2, .ref m3, .int 0, .int 0])), (st, .inr (3, [.ref b1, .ref b2, .ref b3, .ref b4, .ref b5])), (b1, .inr (4, [.ref r1, .ref r2, .ref r3, .int 0])), (b2, .inl (T 0, 7, .inl roomF)), (oC, .inr (6, [.ref oS, .int (nI C), .int (nI Rr), .ref lv, .float 0x3f800000, .ref ac, .ref al, .ref be, .int 0])), (oW, .inr (1, [.ref w1, .ref w2, .int 0])), (oR, .inr (5, [.ref oW, .ref st, .ref tx, .int 0, .int 0, .int 0, .int 0, .double 0, .ref gt, .ref bg]))]) [0, 1, 2, 3, 4, 5, 6, 7] rfl
    have hD9 := hD.sub (ws' := [(h0, .inr (10, [.ref oS, .ref oW, .ref oM, .ref oR, .ref oC, .ref oE])), (oM, .inr (2, [.ref oS, .ref st, .ref m1, .int 1, .ref m2, .ref m3, .int 0, .int 0])), (st, .inr (3, [.ref b1, .ref b2, .ref b3, .ref b4, .ref b5])), (b1, .inr (4, [.ref r1, .ref r2, .ref r3, .int 0])), (b2, .inl (T 0, 7, .inl roomF)), (oC, .inr (6, [.ref oS, .int (nI C), .int (nI Rr), .ref lv, .float 0x3f800000, .ref ac, .ref al, .ref be, .int 0])), (oW, .inr (1, [.ref w1, .ref w2, .int 0])), (oR, .inr (5, [.ref oW, .ref st, .ref tx, .int 0, .int 0, .int 0, .int 0, .double 0, .ref gt, .ref bg]))]) [0, 1, 2, 3, 4, 5, 6, 7] (by decide) rfl
    refine W.widen (k := 0) (n := 0) (Nat.le_of_ble_eq_true rfl) (Nat.le_of_ble_eq_true rfl) ?_
    exact j_iret F hr hlocks hK hS () (by decide +kernel) hP9 hD9 d_Ps_used_100
  obtain rfl : j = 6 := by omega
  refine lv_tableIn (off := 100) (tgt := 101) hx hb d_Ps_used_1 (by decide +kernel) (by decide +kernel) (by decide +kernel) (by decide) ?_
  refine lv_aload_n hx hb d_Ps_used_101 rfl (lv_at hl 0 rfl) ?_
  refine va_get (D := D) (ci := 10) (v := .ref oR) (C := "PageScribe") (T := F_Ps) (N := 6) hx hb hts i_Ps hown hK hP 0 rfl rfl 3 (by decide) (hts _ k_2_61) (fun _ h9 => h9) rfl d_Ps_used_102 ?_
  refine va_get (D := D) (ci := 5) (v := .int 0) (C := "PageScribe$Reader") (T := F_Reader) (N := 10) hx hb hts i_Reader hown hK hP 7 rfl rfl 3 (by decide) (hts _ k_1_170) (fun _ h9 => h9) rfl d_Ps_used_105 ?_
  have hP9 := hP.sub (ws' := [(h0, .inr (10, [.ref oS, .ref oW, .ref oM, .ref oR, .ref oC, .ref oE])), (oM, .inr (2, [.ref oS, .ref st, .ref m1, .int 1, .ref m2, .ref m3, .int 0, .int 0])), (st, .inr (3, [.ref b1, .ref b2, .ref b3, .ref b4, .ref b5])), (b1, .inr (4, [.ref r1, .ref r2, .ref r3, .int 0])), (b2, .inl (T 0, 7, .inl roomF)), (oC, .inr (6, [.ref oS, .int (nI C), .int (nI Rr), .ref lv, .float 0x3f800000, .ref ac, .ref al, .ref be, .int 0])), (oW, .inr (1, [.ref w1, .ref w2, .int 0])), (oR, .inr (5, [.ref oW, .ref st, .ref tx, .int 0, .int 0, .int 0, .int 0, .double 0, .ref gt, .ref bg]))]) [0, 1, 2, 3, 4, 5, 6, 7] rfl
  have hD9 := hD.sub (ws' := [(h0, .inr (10, [.ref oS, .ref oW, .ref oM, .ref oR, .ref oC, .ref oE])), (oM, .inr (2, [.ref oS, .ref st, .ref m1, .int 1, .ref m2, .ref m3, .int 0, .int 0])), (st, .inr (3, [.ref b1, .ref b2, .ref b3, .ref b4, .ref b5])), (b1, .inr (4, [.ref r1, .ref r2, .ref r3, .int 0])), (b2, .inl (T 0, 7, .inl roomF)), (oC, .inr (6, [.ref oS, .int (nI C), .int (nI Rr), .ref lv, .float 0x3f800000, .ref ac, .ref al, .ref be, .int 0])), (oW, .inr (1, [.ref w1, .ref w2, .int 0])), (oR, .inr (5, [.ref oW, .ref st, .ref tx, .int 0, .int 0, .int 0, .int 0, .double 0, .ref gt, .ref bg]))]) [0, 1, 2, 3, 4, 5, 6, 7] (by decide) rfl
  refine W.widen (k := 0) (n := 0) (Nat.le_of_ble_eq_true rfl) (Nat.le_of_ble_eq_true rfl) ?_
  exact j_iret F hr hlocks hK hS () (by decide +kernel) hP9 hD9 d_Ps_used_108
/-- a pixel of a new page -/
def pixOf (cc rr col row : Int32) : Int32 := if col < 0 ∨ cc ≤ col ∨ row < 0 ∨ rr ≤ row then -1 else 0
theorem pixOf_out {cc rr col row : Int32} (h : col < 0 ∨ cc ≤ col ∨ row < 0 ∨ rr ≤ row) : pixOf cc rr col row = -1 := if_pos h
theorem pixOf_in {cc rr col row : Int32} (h1 : ¬ col < 0) (h2 : ¬ cc ≤ col) (h3 : ¬ row < 0) (h4 : ¬ rr ≤ row) : pixOf cc rr col row = 0 := if_neg (fun h => h.elim h1 (fun h => h.elim h2 (fun h => h.elim h3 h4)))
theorem d_Canvas_levelAt_0 : decode prog_3_method_2_code 0 = .ok (.iload_n 1, 1) := by decide +kernel
theorem d_Canvas_levelAt_1 : decode prog_3_method_2_code 1 = .ok (.ifCond .lt 23, 3) := by decide +kernel
theorem d_Canvas_levelAt_24 : decode prog_3_method_2_code 24 = .ok (.iconst (-1), 1) := by decide +kernel
theorem d_Canvas_levelAt_25 : decode prog_3_method_2_code 25 = .ok (.ireturn, 1) := by decide +kernel
theorem d_Canvas_levelAt_4 : decode prog_3_method_2_code 4 = .ok (.iload_n 1, 1) := by decide +kernel
theorem d_Canvas_levelAt_5 : decode prog_3_method_2_code 5 = .ok (.aload_n 0, 1) := by decide +kernel
theorem d_Canvas_levelAt_6 : decode prog_3_method_2_code 6 = .ok (.getfield 34, 3) := by decide +kernel
theorem d_Canvas_levelAt_9 : decode prog_3_method_2_code 9 = .ok (.if_icmp .ge 15, 3) := by decide +kernel
theorem d_Canvas_levelAt_12 : decode prog_3_method_2_code 12 = .ok (.iload_n 2, 1) := by decide +kernel
theorem d_Canvas_levelAt_13 : decode prog_3_method_2_code 13 = .ok (.ifCond .lt 11, 3) := by decide +kernel
theorem d_Canvas_levelAt_16 : decode prog_3_method_2_code 16 = .ok (.iload_n 2, 1) := by decide +kernel
theorem d_Canvas_levelAt_17 : decode prog_3_method_2_code 17 = .ok (.aload_n 0, 1) := by decide +kernel
theorem d_Canvas_levelAt_18 : decode prog_3_method_2_code 18 = .ok (.getfield 37, 3) := by decide +kernel
theorem d_Canvas_levelAt_21 : decode prog_3_method_2_code 21 = .ok (.if_icmp .lt 5, 3) := by decide +kernel
theorem d_Canvas_levelAt_26 : decode prog_3_method_2_code 26 = .ok (.aload_n 0, 1) := by decide +kernel
theorem d_Canvas_levelAt_27 : decode prog_3_method_2_code 27 = .ok (.getfield 40, 3) := by decide +kernel
theorem d_Canvas_levelAt_30 : decode prog_3_method_2_code 30 = .ok (.iload_n 2, 1) := by decide +kernel
theorem d_Canvas_levelAt_31 : decode prog_3_method_2_code 31 = .ok (.aload_n 0, 1) := by decide +kernel
theorem d_Canvas_levelAt_32 : decode prog_3_method_2_code 32 = .ok (.getfield 34, 3) := by decide +kernel
theorem d_Canvas_levelAt_35 : decode prog_3_method_2_code 35 = .ok (.imul, 1) := by decide +kernel
theorem d_Canvas_levelAt_36 : decode prog_3_method_2_code 36 = .ok (.iload_n 1, 1) := by decide +kernel
theorem d_Canvas_levelAt_37 : decode prog_3_method_2_code 37 = .ok (.iadd, 1) := by decide +kernel
theorem d_Canvas_levelAt_38 : decode prog_3_method_2_code 38 = .ok (.iaload, 1) := by decide +kernel
theorem d_Canvas_levelAt_39 : decode prog_3_method_2_code 39 = .ok (.ireturn, 1) := by decide +kernel
set_option maxHeartbeats 4000000 in
set_option maxRecDepth 100000 in
theorem c_Canvas_levelAt (l : Launch) (D : va_G) (T : Nat → ClassId) (oC : Nat) (oS : Nat) (C : Nat) (Rr : Nat) (lv : Nat) (ac : Nat) (al : Nat) (be : Nat) (p0 : Int32) (p1 : Int32) (sz : Nat) (hC : C ≤ 24) (hR : Rr ≤ 16) : Met l ⟨"PageScribe$Canvas", "levelAt", "(II)I"⟩ (wy ⟨"PageScribe$Canvas", "levelAt", "(II)I"⟩ prog_3_method_2_code 3 (some .int)) ({ frames := 0, cells := 0, slots := 0, locals := 0 }) (va_Pc [.ref oC, .int p0, .int p1] (Pw D T [(oC, .inr (6, [.ref oS, .int (nI C), .int (nI Rr), .ref lv, .float 0x3f800000, .ref ac, .ref al, .ref be, .int 0])), (lv, .inl (T 0, (C * Rr), .inl zI))] sz E0)) (va_Qi (fun (r : Int32) (u : Unit) => r = pixOf (nI C) (nI Rr) p0 p1) (fun u t => Bw D T (va_A [(oC, .inr (6, [.ref oS, .int (nI C), .int (nI Rr), .ref lv, .float 0x3f800000, .ref ac, .ref al, .ref be, .int 0])), (lv, .inl (T 0, (C * Rr), .inl zI))] sz) [(oC, .inr (6, [.ref oS, .int (nI C), .int (nI Rr), .ref lv, .float 0x3f800000, .ref ac, .ref al, .ref be, .int 0])), (lv, .inl (T 0, (C * Rr), .inl zI))] t) (va_A [(oC, .inr (6, [.ref oS, .int (nI C), .int (nI Rr), .ref lv, .float 0x3f800000, .ref ac, .ref al, .ref be, .int 0])), (lv, .inl (T 0, (C * Rr), .inl zI))] sz)) 0 0 (va_A [(oC, .inr (6, [.ref oS, .int (nI C), .int (nI Rr), .ref lv, .float 0x3f800000, .ref ac, .ref al, .ref be, .int 0])), (lv, .inl (T 0, (C * Rr), .inl zI))] sz) := by
  refine j_met (y := ⟨"PageScribe$Canvas", "levelAt", "(II)I"⟩) (b := prog_3_method_2_code) (n := 3) (ret := (some .int)) (av := [.ref oC, .int p0, .int p1]) (Qc := fun A => va_Qi (fun (r : Int32) (u : Unit) => r = pixOf (nI C) (nI Rr) p0 p1) (fun u t => Bw D T A [(oC, .inr (6, [.ref oS, .int (nI C), .int (nI Rr), .ref lv, .float 0x3f800000, .ref ac, .ref al, .ref be, .int 0])), (lv, .inl (T 0, (C * Rr), .inl zI))] t) A) (by decide +kernel) (Nat.le_of_ble_eq_true rfl) (fun p e s m args below meth c A ls F hr hlocks hnm hK hP hD hS hA hN hE hl => ?_)
  obtain ⟨hx, hb, hml, hown, hts⟩ := id F
  have hin := hnm
  have hl : lv_has ls 3 [(0, .ref oC), (1, .int p0), (2, .int p1)] := hl
  refine lv_iload_n hx hb d_Canvas_levelAt_0 rfl (lv_at hl 1 rfl) ?_
  refine lv_if_lt (tgt := 24) hx hb d_Canvas_levelAt_1 (by decide) (fun c_1 => ?_) (fun c_1 => ?_)
  · refine lv_iconst (v := (-1)) hx hb d_Canvas_levelAt_24 (by decide) ?_
    have hP9 := hP.sub (ws' := [(oC, .inr (6, [.ref oS, .int (nI C), .int (nI Rr), .ref lv, .float 0x3f800000, .ref ac, .ref al, .ref be, .int 0])), (lv, .inl (T 0, (C * Rr), .inl zI))]) [0, 1] rfl
    have hD9 := hD.sub (ws' := [(oC, .inr (6, [.ref oS, .int (nI C), .int (nI Rr), .ref lv, .float 0x3f800000, .ref ac, .ref al, .ref be, .int 0])), (lv, .inl (T 0, (C * Rr), .inl zI))]) [0, 1] (by decide) rfl
    refine W.widen (k := 0) (n := 0) (Nat.le_of_ble_eq_true rfl) (Nat.le_of_ble_eq_true rfl) ?_
    exact j_iret F hr hlocks hK hS () (by first | exact (pixOf_out (Or.inl c_1)).symm | exact (pixOf_out (Or.inr (Or.inl c_9))).symm | exact (pixOf_out (Or.inr (Or.inr (Or.inl c_13)))).symm | exact (pixOf_out (Or.inr (Or.inr (Or.inr (Int32.not_lt.mp c_21))))).symm | exact (pixOf_in c_1 c_9 c_13 (fun q => absurd c_21 (Int32.not_lt.mpr q))).symm) hP9 hD9 d_Canvas_levelAt_25
  · refine lv_iload_n hx hb d_Canvas_levelAt_4 rfl (lv_at hl 1 rfl) ?_
    refine lv_aload_n hx hb d_Canvas_levelAt_5 rfl (lv_at hl 0 rfl) ?_
    refine va_get (D := D) (ci := 6) (v := .int (nI C)) (C := "PageScribe$Canvas") (T := F_Canvas) (N := 9) hx hb hts i_Canvas hown hK hP 0 rfl rfl 1 (by decide) (hts _ k_1_208) (fun _ h9 => h9) rfl d_Canvas_levelAt_6 ?_
    refine lv_icmp_ge (tgt := 24) hx hb d_Canvas_levelAt_9 (by decide) (fun c_9 => ?_) (fun c_9 => ?_)
    · refine lv_iconst (v := (-1)) hx hb d_Canvas_levelAt_24 (by decide) ?_
      have hP9 := hP.sub (ws' := [(oC, .inr (6, [.ref oS, .int (nI C), .int (nI Rr), .ref lv, .float 0x3f800000, .ref ac, .ref al, .ref be, .int 0])), (lv, .inl (T 0, (C * Rr), .inl zI))]) [0, 1] rfl
      have hD9 := hD.sub (ws' := [(oC, .inr (6, [.ref oS, .int (nI C), .int (nI Rr), .ref lv, .float 0x3f800000, .ref ac, .ref al, .ref be, .int 0])), (lv, .inl (T 0, (C * Rr), .inl zI))]) [0, 1] (by decide) rfl
      refine W.widen (k := 0) (n := 0) (Nat.le_of_ble_eq_true rfl) (Nat.le_of_ble_eq_true rfl) ?_
      exact j_iret F hr hlocks hK hS () (by first | exact (pixOf_out (Or.inl c_1)).symm | exact (pixOf_out (Or.inr (Or.inl c_9))).symm | exact (pixOf_out (Or.inr (Or.inr (Or.inl c_13)))).symm | exact (pixOf_out (Or.inr (Or.inr (Or.inr (Int32.not_lt.mp c_21))))).symm | exact (pixOf_in c_1 c_9 c_13 (fun q => absurd c_21 (Int32.not_lt.mpr q))).symm) hP9 hD9 d_Canvas_levelAt_25
    · refine lv_iload_n hx hb d_Canvas_levelAt_12 rfl (lv_at hl 2 rfl) ?_
      refine lv_if_lt (tgt := 24) hx hb d_Canvas_levelAt_13 (by decide) (fun c_13 => ?_) (fun c_13 => ?_)
      · refine lv_iconst (v := (-1)) hx hb d_Canvas_levelAt_24 (by decide) ?_
        have hP9 := hP.sub (ws' := [(oC, .inr (6, [.ref oS, .int (nI C), .int (nI Rr), .ref lv, .float 0x3f800000, .ref ac, .ref al, .ref be, .int 0])), (lv, .inl (T 0, (C * Rr), .inl zI))]) [0, 1] rfl
        have hD9 := hD.sub (ws' := [(oC, .inr (6, [.ref oS, .int (nI C), .int (nI Rr), .ref lv, .float 0x3f800000, .ref ac, .ref al, .ref be, .int 0])), (lv, .inl (T 0, (C * Rr), .inl zI))]) [0, 1] (by decide) rfl
        refine W.widen (k := 0) (n := 0) (Nat.le_of_ble_eq_true rfl) (Nat.le_of_ble_eq_true rfl) ?_
        exact j_iret F hr hlocks hK hS () (by first | exact (pixOf_out (Or.inl c_1)).symm | exact (pixOf_out (Or.inr (Or.inl c_9))).symm | exact (pixOf_out (Or.inr (Or.inr (Or.inl c_13)))).symm | exact (pixOf_out (Or.inr (Or.inr (Or.inr (Int32.not_lt.mp c_21))))).symm | exact (pixOf_in c_1 c_9 c_13 (fun q => absurd c_21 (Int32.not_lt.mpr q))).symm) hP9 hD9 d_Canvas_levelAt_25
      · refine lv_iload_n hx hb d_Canvas_levelAt_16 rfl (lv_at hl 2 rfl) ?_
        refine lv_aload_n hx hb d_Canvas_levelAt_17 rfl (lv_at hl 0 rfl) ?_
        refine va_get (D := D) (ci := 6) (v := .int (nI Rr)) (C := "PageScribe$Canvas") (T := F_Canvas) (N := 9) hx hb hts i_Canvas hown hK hP 0 rfl rfl 2 (by decide) (hts _ k_1_209) (fun _ h9 => h9) rfl d_Canvas_levelAt_18 ?_
        refine lv_icmp_lt (tgt := 26) hx hb d_Canvas_levelAt_21 (by decide) (fun c_21 => ?_) (fun c_21 => ?_)
        · obtain ⟨i, hi, rfl⟩ := nI_of c_1
          obtain ⟨j, hj, rfl⟩ := nI_of c_13
          have hi2 : i < C := by
            rcases Nat.lt_or_ge i C with q | q
            · exact q
            · exact absurd (nI_le q hi) c_9
          have hj2 : j < Rr := by
            rcases Nat.lt_or_ge j Rr with q | q
            · exact q
            · exact absurd c_21 (nI_nlt q hj)
          have hCR : C * Rr ≤ 24 * 16 := Nat.mul_le_mul hC hR
          have hij : j * C + i < C * Rr := by
            have h1 : (j + 1) * C ≤ Rr * C := Nat.mul_le_mul_right C hj2
            have h2 : (j + 1) * C = j * C + C := Nat.succ_mul j C
            have h3 : Rr * C = C * Rr := Nat.mul_comm Rr C
            omega
          refine lv_aload_n hx hb d_Canvas_levelAt_26 rfl (lv_at hl 0 rfl) ?_
          refine va_get (D := D) (ci := 6) (v := .ref lv) (C := "PageScribe$Canvas") (T := F_Canvas) (N := 9) hx hb hts i_Canvas hown hK hP 0 rfl rfl 3 (by decide) (hts _ k_1_210) (fun _ h9 => h9) rfl d_Canvas_levelAt_27 ?_
          refine lv_iload_n hx hb d_Canvas_levelAt_30 rfl (lv_at hl 2 rfl) ?_
          refine lv_aload_n hx hb d_Canvas_levelAt_31 rfl (lv_at hl 0 rfl) ?_
          refine va_get (D := D) (ci := 6) (v := .int (nI C)) (C := "PageScribe$Canvas") (T := F_Canvas) (N := 9) hx hb hts i_Canvas hown hK hP 0 rfl rfl 1 (by decide) (hts _ k_1_208) (fun _ h9 => h9) rfl d_Canvas_levelAt_32 ?_
          refine lv_imul hx hb d_Canvas_levelAt_35 ?_
          refine j_eqi (y := (nI (j * C))) (pk_mul j C) ?_
          refine lv_iload_n hx hb d_Canvas_levelAt_36 rfl (lv_at hl 1 rfl) ?_
          refine lv_iadd hx hb d_Canvas_levelAt_37 ?_
          refine j_eqi (y := (nI (j * C + i))) (nI_add (j * C) i) ?_
          refine va_iald hx hb hK hP 1 0 rfl rfl (vp_in_nI hij (by omega)) d_Canvas_levelAt_38 ?_
          refine j_eqi (y := 0) rfl ?_
          have hP9 := hP.sub (ws' := [(oC, .inr (6, [.ref oS, .int (nI C), .int (nI Rr), .ref lv, .float 0x3f800000, .ref ac, .ref al, .ref be, .int 0])), (lv, .inl (T 0, (C * Rr), .inl zI))]) [0, 1] rfl
          have hD9 := hD.sub (ws' := [(oC, .inr (6, [.ref oS, .int (nI C), .int (nI Rr), .ref lv, .float 0x3f800000, .ref ac, .ref al, .ref be, .int 0])), (lv, .inl (T 0, (C * Rr), .inl zI))]) [0, 1] (by decide) rfl
          refine W.widen (k := 0) (n := 0) (Nat.le_of_ble_eq_true rfl) (Nat.le_of_ble_eq_true rfl) ?_
          exact j_iret F hr hlocks hK hS () (by first | exact (pixOf_out (Or.inl c_1)).symm | exact (pixOf_out (Or.inr (Or.inl c_9))).symm | exact (pixOf_out (Or.inr (Or.inr (Or.inl c_13)))).symm | exact (pixOf_out (Or.inr (Or.inr (Or.inr (Int32.not_lt.mp c_21))))).symm | exact (pixOf_in c_1 c_9 c_13 (fun q => absurd c_21 (Int32.not_lt.mpr q))).symm) hP9 hD9 d_Canvas_levelAt_39
        · refine lv_iconst (v := (-1)) hx hb d_Canvas_levelAt_24 (by decide) ?_
          have hP9 := hP.sub (ws' := [(oC, .inr (6, [.ref oS, .int (nI C), .int (nI Rr), .ref lv, .float 0x3f800000, .ref ac, .ref al, .ref be, .int 0])), (lv, .inl (T 0, (C * Rr), .inl zI))]) [0, 1] rfl
          have hD9 := hD.sub (ws' := [(oC, .inr (6, [.ref oS, .int (nI C), .int (nI Rr), .ref lv, .float 0x3f800000, .ref ac, .ref al, .ref be, .int 0])), (lv, .inl (T 0, (C * Rr), .inl zI))]) [0, 1] (by decide) rfl
          refine W.widen (k := 0) (n := 0) (Nat.le_of_ble_eq_true rfl) (Nat.le_of_ble_eq_true rfl) ?_
          exact j_iret F hr hlocks hK hS () (by first | exact (pixOf_out (Or.inl c_1)).symm | exact (pixOf_out (Or.inr (Or.inl c_9))).symm | exact (pixOf_out (Or.inr (Or.inr (Or.inl c_13)))).symm | exact (pixOf_out (Or.inr (Or.inr (Or.inr (Int32.not_lt.mp c_21))))).symm | exact (pixOf_in c_1 c_9 c_13 (fun q => absurd c_21 (Int32.not_lt.mpr q))).symm) hP9 hD9 d_Canvas_levelAt_25
theorem d_Ps_pixel_0 : decode prog_1_method_13_code 0 = .ok (.aload_n 0, 1) := by decide +kernel
theorem d_Ps_pixel_1 : decode prog_1_method_13_code 1 = .ok (.getfield 50, 3) := by decide +kernel
theorem d_Ps_pixel_4 : decode prog_1_method_13_code 4 = .ok (.iload_n 1, 1) := by decide +kernel
theorem d_Ps_pixel_5 : decode prog_1_method_13_code 5 = .ok (.iload_n 2, 1) := by decide +kernel
theorem d_Ps_pixel_6 : decode prog_1_method_13_code 6 = .ok (.invokevirtual 185, 3) := by decide +kernel
theorem k_2_210 : Cond.code ⟨"PageScribe$Canvas", "levelAt", "(II)I"⟩ prog_3_method_2_code 3 (some .int) ∈ gw := gw_of (tb_2 (List.mem_of_getElem? (i := 210) (by decide +kernel))) (by decide +kernel)
theorem k_2_207 : Cond.methodLink "PageScribe" 185 ⟨"PageScribe$Canvas", "levelAt", "(II)I"⟩ ∈ gw := gw_of (tb_2 (List.mem_of_getElem? (i := 207) (by decide +kernel))) (by decide +kernel)
theorem k_2_208 : Cond.instanceMethod ⟨"PageScribe$Canvas", "levelAt", "(II)I"⟩ ∈ gw := gw_of (tb_2 (List.mem_of_getElem? (i := 208) (by decide +kernel))) (by decide +kernel)
theorem k_2_209 : Cond.selects "PageScribe$Canvas" ⟨"PageScribe$Canvas", "levelAt", "(II)I"⟩ ⟨"PageScribe$Canvas", "levelAt", "(II)I"⟩ ∈ gw := gw_of (tb_2 (List.mem_of_getElem? (i := 209) (by decide +kernel))) (by decide +kernel)
theorem d_Ps_pixel_9 : decode prog_1_method_13_code 9 = .ok (.ireturn, 1) := by decide +kernel
set_option maxHeartbeats 4000000 in
set_option maxRecDepth 100000 in
theorem c_Ps_pixel (l : Launch) (D : va_G) (T : Nat → ClassId) (h0 : Nat) (oS : Nat) (oW : Nat) (oM : Nat) (oR : Nat) (oC : Nat) (oE : Nat) (C : Nat) (Rr : Nat) (lv : Nat) (ac : Nat) (al : Nat) (be : Nat) (p0 : Int32) (p1 : Int32) (sz : Nat) (hC : C ≤ 24) (hR : Rr ≤ 16) : Met l ⟨"PageScribe", "pixel", "(II)I"⟩ (wy ⟨"PageScribe", "pixel", "(II)I"⟩ prog_1_method_13_code 3 (some .int)) ({ frames := 1, cells := 0, slots := 0, locals := 70 }) (va_Pc [.ref h0, .int p0, .int p1] (Pw D T [(h0, .inr (10, [.ref oS, .ref oW, .ref oM, .ref oR, .ref oC, .ref oE])), (oC, .inr (6, [.ref oS, .int (nI C), .int (nI Rr), .ref lv, .float 0x3f800000, .ref ac, .ref al, .ref be, .int 0])), (lv, .inl (T 0, (C * Rr), .inl zI))] sz E0)) (va_Qi (fun (r : Int32) (u : Unit) => r = pixOf (nI C) (nI Rr) p0 p1) (fun u t => Bw D T (va_A [(h0, .inr (10, [.ref oS, .ref oW, .ref oM, .ref oR, .ref oC, .ref oE])), (oC, .inr (6, [.ref oS, .int (nI C), .int (nI Rr), .ref lv, .float 0x3f800000, .ref ac, .ref al, .ref be, .int 0])), (lv, .inl (T 0, (C * Rr), .inl zI))] sz) [(h0, .inr (10, [.ref oS, .ref oW, .ref oM, .ref oR, .ref oC, .ref oE])), (oC, .inr (6, [.ref oS, .int (nI C), .int (nI Rr), .ref lv, .float 0x3f800000, .ref ac, .ref al, .ref be, .int 0])), (lv, .inl (T 0, (C * Rr), .inl zI))] t) (va_A [(h0, .inr (10, [.ref oS, .ref oW, .ref oM, .ref oR, .ref oC, .ref oE])), (oC, .inr (6, [.ref oS, .int (nI C), .int (nI Rr), .ref lv, .float 0x3f800000, .ref ac, .ref al, .ref be, .int 0])), (lv, .inl (T 0, (C * Rr), .inl zI))] sz)) 0 0 (va_A [(h0, .inr (10, [.ref oS, .ref oW, .ref oM, .ref oR, .ref oC, .ref oE])), (oC, .inr (6, [.ref oS, .int (nI C), .int (nI Rr), .ref lv, .float 0x3f800000, .ref ac, .ref al, .ref be, .int 0])), (lv, .inl (T 0, (C * Rr), .inl zI))] sz) := by
  refine j_met (y := ⟨"PageScribe", "pixel", "(II)I"⟩) (b := prog_1_method_13_code) (n := 3) (ret := (some .int)) (av := [.ref h0, .int p0, .int p1]) (Qc := fun A => va_Qi (fun (r : Int32) (u : Unit) => r = pixOf (nI C) (nI Rr) p0 p1) (fun u t => Bw D T A [(h0, .inr (10, [.ref oS, .ref oW, .ref oM, .ref oR, .ref oC, .ref oE])), (oC, .inr (6, [.ref oS, .int (nI C), .int (nI Rr), .ref lv, .float 0x3f800000, .ref ac, .ref al, .ref be, .int 0])), (lv, .inl (T 0, (C * Rr), .inl zI))] t) A) (by decide +kernel) (Nat.le_of_ble_eq_true rfl) (fun p e s m args below meth c A ls F hr hlocks hnm hK hP hD hS hA hN hE hl => ?_)
  obtain ⟨hx, hb, hml, hown, hts⟩ := id F
  have hin := hnm
  have hl : lv_has ls 3 [(0, .ref h0), (1, .int p0), (2, .int p1)] := hl
  refine lv_aload_n hx hb d_Ps_pixel_0 rfl (lv_at hl 0 rfl) ?_
  refine va_get (D := D) (ci := 10) (v := .ref oC) (C := "PageScribe") (T := F_Ps) (N := 6) hx hb hts i_Ps hown hK hP 0 rfl rfl 4 (by decide) (hts _ k_2_62) (fun _ h9 => h9) rfl d_Ps_pixel_1 ?_
  refine lv_iload_n hx hb d_Ps_pixel_4 rfl (lv_at hl 1 rfl) ?_
  refine lv_iload_n hx hb d_Ps_pixel_5 rfl (lv_at hl 2 rfl) ?_
  refine j_ci (wc := [(oC, .inr (6, [.ref oS, .int (nI C), .int (nI Rr), .ref lv, .float 0x3f800000, .ref ac, .ref al, .ref be, .int 0])), (lv, .inl (T 0, (C * Rr), .inl zI))]) (wr := [(h0, .inr (10, [.ref oS, .ref oW, .ref oM, .ref oR, .ref oC, .ref oE]))]) hK hP hD hS hA [1, 2] [0] rfl rfl (by decide) (by decide) (va_runV (As := [.int p0, .int p1]) (rest := []) F (c_Canvas_levelAt l D T oC oS C Rr lv ac al be p0 p1 s.heap.size hC hR) (j_cV (k := 2) (C := "PageScribe$Canvas") hts k_2_210 k_1_8 k_2_207 k_2_208 k_2_209 (by decide +kernel) ⟨Nat.le_of_ble_eq_true rfl, Nat.le_of_ble_eq_true rfl⟩) (j_preV (q0 := 1) (ci := 6) hK hP hD [1, 2] rfl (by decide) rfl rfl (fun _ _ _ _ h => h) (fun _ _ _ => trivial)) rfl rfl hl.1 rfl (lv_room (Nat.le_of_ble_eq_true rfl)) d_Ps_pixel_6 ⟨Nat.le_of_ble_eq_true rfl, Nat.le_of_ble_eq_true rfl⟩) (fun rv1 u1 H locs hw hP hD hS => ?_)
  have hP : va_P D classes [(h0, .inr (10, [.ref oS, .ref oW, .ref oM, .ref oR, .ref oC, .ref oE])), (oC, .inr (6, [.ref oS, .int (nI C), .int (nI Rr), .ref lv, .float 0x3f800000, .ref ac, .ref al, .ref be, .int 0])), (lv, .inl (T 0, (C * Rr), .inl zI))] H := hP
  have hD : va_D A [(h0, .inr (10, [.ref oS, .ref oW, .ref oM, .ref oR, .ref oC, .ref oE])), (oC, .inr (6, [.ref oS, .int (nI C), .int (nI Rr), .ref lv, .float 0x3f800000, .ref ac, .ref al, .ref be, .int 0])), (lv, .inl (T 0, (C * Rr), .inl zI))] := hD
  have hw1 : rv1 = pixOf (nI C) (nI Rr) p0 p1 := hw
  have hP9 := hP.sub (ws' := [(h0, .inr (10, [.ref oS, .ref oW, .ref oM, .ref oR, .ref oC, .ref oE])), (oC, .inr (6, [.ref oS, .int (nI C), .int (nI Rr), .ref lv, .float 0x3f800000, .ref ac, .ref al, .ref be, .int 0])), (lv, .inl (T 0, (C * Rr), .inl zI))]) [0, 1, 2] rfl
  have hD9 := hD.sub (ws' := [(h0, .inr (10, [.ref oS, .ref oW, .ref oM, .ref oR, .ref oC, .ref oE])), (oC, .inr (6, [.ref oS, .int (nI C), .int (nI Rr), .ref lv, .float 0x3f800000, .ref ac, .ref al, .ref be, .int 0])), (lv, .inl (T 0, (C * Rr), .inl zI))]) [0, 1, 2] (by decide) rfl
  refine W.widen (k := 0) (n := 0) (Nat.le_of_ble_eq_true rfl) (Nat.le_of_ble_eq_true rfl) ?_
  exact j_iret F hr hlocks hK hS () hw1 hP9 hD9 d_Ps_pixel_9
theorem d_Canvas_wipe_0 : decode prog_3_method_3_code 0 = .ok (.iconst 0, 1) := by decide +kernel
theorem d_Canvas_wipe_1 : decode prog_3_method_3_code 1 = .ok (.istore_n 1, 1) := by decide +kernel
theorem d_Canvas_wipe_2 : decode prog_3_method_3_code 2 = .ok (.iconst 0, 1) := by decide +kernel
theorem d_Canvas_wipe_3 : decode prog_3_method_3_code 3 = .ok (.istore_n 2, 1) := by decide +kernel
theorem d_Canvas_wipe_4 : decode prog_3_method_3_code 4 = .ok (.iload_n 2, 1) := by decide +kernel
theorem d_Canvas_wipe_5 : decode prog_3_method_3_code 5 = .ok (.aload_n 0, 1) := by decide +kernel
theorem d_Canvas_wipe_6 : decode prog_3_method_3_code 6 = .ok (.getfield 40, 3) := by decide +kernel
theorem d_Canvas_wipe_9 : decode prog_3_method_3_code 9 = .ok (.arraylength, 1) := by decide +kernel
theorem d_Canvas_wipe_10 : decode prog_3_method_3_code 10 = .ok (.if_icmp .ge 33, 3) := by decide +kernel
theorem d_Canvas_wipe_43 : decode prog_3_method_3_code 43 = .ok (.iload_n 1, 1) := by decide +kernel
theorem d_Canvas_wipe_44 : decode prog_3_method_3_code 44 = .ok (.ireturn, 1) := by decide +kernel
theorem d_Canvas_wipe_13 : decode prog_3_method_3_code 13 = .ok (.iload_n 1, 1) := by decide +kernel
theorem d_Canvas_wipe_14 : decode prog_3_method_3_code 14 = .ok (.aload_n 0, 1) := by decide +kernel
theorem d_Canvas_wipe_15 : decode prog_3_method_3_code 15 = .ok (.getfield 40, 3) := by decide +kernel
theorem d_Canvas_wipe_18 : decode prog_3_method_3_code 18 = .ok (.iload_n 2, 1) := by decide +kernel
theorem d_Canvas_wipe_19 : decode prog_3_method_3_code 19 = .ok (.iaload, 1) := by decide +kernel
theorem d_Canvas_wipe_20 : decode prog_3_method_3_code 20 = .ok (.ifCond .le 7, 3) := by decide +kernel
theorem d_Canvas_wipe_27 : decode prog_3_method_3_code 27 = .ok (.iconst 0, 1) := by decide +kernel
theorem d_Canvas_wipe_28 : decode prog_3_method_3_code 28 = .ok (.iadd, 1) := by decide +kernel
theorem d_Canvas_wipe_29 : decode prog_3_method_3_code 29 = .ok (.istore_n 1, 1) := by decide +kernel
theorem d_Canvas_wipe_30 : decode prog_3_method_3_code 30 = .ok (.aload_n 0, 1) := by decide +kernel
theorem d_Canvas_wipe_31 : decode prog_3_method_3_code 31 = .ok (.getfield 40, 3) := by decide +kernel
theorem d_Canvas_wipe_34 : decode prog_3_method_3_code 34 = .ok (.iload_n 2, 1) := by decide +kernel
theorem d_Canvas_wipe_35 : decode prog_3_method_3_code 35 = .ok (.iconst 0, 1) := by decide +kernel
theorem d_Canvas_wipe_36 : decode prog_3_method_3_code 36 = .ok (.iastore, 1) := by decide +kernel
theorem d_Canvas_wipe_37 : decode prog_3_method_3_code 37 = .ok (.iinc 2 1, 3) := by decide +kernel
theorem d_Canvas_wipe_40 : decode prog_3_method_3_code 40 = .ok (.goto (-36), 3) := by decide +kernel
set_option maxHeartbeats 4000000 in
set_option maxRecDepth 100000 in
theorem c_Canvas_wipe (l : Launch) (D : va_G) (T : Nat → ClassId) (oC : Nat) (oS : Nat) (C : Nat) (Rr : Nat) (lv : Nat) (ac : Nat) (al : Nat) (be : Nat) (sz : Nat) (hC : C ≤ 24) (hR : Rr ≤ 16) : Met l ⟨"PageScribe$Canvas", "wipe", "()I"⟩ (wy ⟨"PageScribe$Canvas", "wipe", "()I"⟩ prog_3_method_3_code 3 (some .int)) ({ frames := 0, cells := 0, slots := 0, locals := 0 }) (va_Pc [.ref oC] (Pw D T [(oC, .inr (6, [.ref oS, .int (nI C), .int (nI Rr), .ref lv, .float 0x3f800000, .ref ac, .ref al, .ref be, .int 0])), (lv, .inl (T 0, (C * Rr), .inl zI))] sz E0)) (va_Qi (fun (r : Int32) (u : Unit) => r = 0) (fun u t => Bw D T (va_A [(oC, .inr (6, [.ref oS, .int (nI C), .int (nI Rr), .ref lv, .float 0x3f800000, .ref ac, .ref al, .ref be, .int 0])), (lv, .inl (T 0, (C * Rr), .inl zI))] sz) [(oC, .inr (6, [.ref oS, .int (nI C), .int (nI Rr), .ref lv, .float 0x3f800000, .ref ac, .ref al, .ref be, .int 0])), (lv, .inl (T 0, (C * Rr), .inl zI))] t) (va_A [(oC, .inr (6, [.ref oS, .int (nI C), .int (nI Rr), .ref lv, .float 0x3f800000, .ref ac, .ref al, .ref be, .int 0])), (lv, .inl (T 0, (C * Rr), .inl zI))] sz)) 0 0 (va_A [(oC, .inr (6, [.ref oS, .int (nI C), .int (nI Rr), .ref lv, .float 0x3f800000, .ref ac, .ref al, .ref be, .int 0])), (lv, .inl (T 0, (C * Rr), .inl zI))] sz) := by
  refine j_met (y := ⟨"PageScribe$Canvas", "wipe", "()I"⟩) (b := prog_3_method_3_code) (n := 3) (ret := (some .int)) (av := [.ref oC]) (Qc := fun A => va_Qi (fun (r : Int32) (u : Unit) => r = 0) (fun u t => Bw D T A [(oC, .inr (6, [.ref oS, .int (nI C), .int (nI Rr), .ref lv, .float 0x3f800000, .ref ac, .ref al, .ref be, .int 0])), (lv, .inl (T 0, (C * Rr), .inl zI))] t) A) (by decide +kernel) (Nat.le_of_ble_eq_true rfl) (fun p e s m args below meth c A ls F hr hlocks hnm hK hP hD hS hA hN hE hl => ?_)
  obtain ⟨hx, hb, hml, hown, hts⟩ := id F
  have hin := hnm
  have hl : lv_has ls 3 [(0, .ref oC)] := hl
  have hCR : C * Rr ≤ 24 * 16 := Nat.mul_le_mul hC hR
  refine lv_iconst (v := 0) hx hb d_Canvas_wipe_0 (by decide) ?_
  refine lv_istore_n (lv' := [(1, .int 0), (0, .ref oC)]) hx hb d_Canvas_wipe_1 rfl hl (by decide) rfl (fun ls hl => ?_)
  refine lv_iconst (v := 0) hx hb d_Canvas_wipe_2 (by decide) ?_
  refine lv_istore_n (lv' := [(2, .int 0), (1, .int 0), (0, .ref oC)]) hx hb d_Canvas_wipe_3 rfl hl (by decide) rfl (fun ls hl => ?_)
  refine j_loop (α := Nat) (fun k x H locs ls => (x + k = C * Rr) ∧ va_P D classes [(oC, .inr (6, [.ref oS, .int (nI C), .int (nI Rr), .ref lv, .float 0x3f800000, .ref ac, .ref al, .ref be, .int 0])), (lv, .inl (T 0, (C * Rr), .inl zI))] H ∧ va_D A [(oC, .inr (6, [.ref oS, .int (nI C), .int (nI Rr), .ref lv, .float 0x3f800000, .ref ac, .ref al, .ref be, .int 0])), (lv, .inl (T 0, (C * Rr), .inl zI))] ∧ va_S A s.heap H locs ∧ lv_has ls 3 [(0, .ref oC), (1, .int 0), (2, .int (nI x))]) (fun _ _ ls => F0 m 4 ls []) (fun k x H locs ls hI ih => ?_) (C * Rr) 0 _ _ _ ⟨by omega, hP.sub [0, 1] rfl, hD.sub [0, 1] (by decide) rfl, hS, lv_sub hl [2, 1, 0] rfl⟩
  obtain ⟨i, rfl⟩ : ∃ z, z = x := ⟨_, rfl⟩
  obtain ⟨hk, hP, hD, hS, hl⟩ := hI
  have hP : va_P D classes [(oC, .inr (6, [.ref oS, .int (nI C), .int (nI Rr), .ref lv, .float 0x3f800000, .ref ac, .ref al, .ref be, .int 0])), (lv, .inl (T 0, (C * Rr), .inl zI))] H := hP
  have hD : va_D A [(oC, .inr (6, [.ref oS, .int (nI C), .int (nI Rr), .ref lv, .float 0x3f800000, .ref ac, .ref al, .ref be, .int 0])), (lv, .inl (T 0, (C * Rr), .inl zI))] := hD
  have hl : lv_has ls 3 [(0, .ref oC), (1, .int 0), (2, .int (nI i))] := hl
  refine lv_iload_n hx hb d_Canvas_wipe_4 rfl (lv_at hl 2 rfl) ?_
  refine lv_aload_n hx hb d_Canvas_wipe_5 rfl (lv_at hl 0 rfl) ?_
  refine va_get (D := D) (ci := 6) (v := .ref lv) (C := "PageScribe$Canvas") (T := F_Canvas) (N := 9) hx hb hts i_Canvas hown hK hP 0 rfl rfl 3 (by decide) (hts _ k_1_210) (fun _ h9 => h9) rfl d_Canvas_wipe_6 ?_
  refine va_alen (v := (nI (C * Rr))) hx hb hK hP 1 0 rfl rfl rfl d_Canvas_wipe_9 ?_
  refine lv_icmp_ge (tgt := 43) hx hb d_Canvas_wipe_10 (by decide) (fun c_10 => ?_) (fun c_10 => ?_)
  · refine lv_iload_n hx hb d_Canvas_wipe_43 rfl (lv_at hl 1 rfl) ?_
    have hP9 := hP.sub (ws' := [(oC, .inr (6, [.ref oS, .int (nI C), .int (nI Rr), .ref lv, .float 0x3f800000, .ref ac, .ref al, .ref be, .int 0])), (lv, .inl (T 0, (C * Rr), .inl zI))]) [0, 1] rfl
    have hD9 := hD.sub (ws' := [(oC, .inr (6, [.ref oS, .int (nI C), .int (nI Rr), .ref lv, .float 0x3f800000, .ref ac, .ref al, .ref be, .int 0])), (lv, .inl (T 0, (C * Rr), .inl zI))]) [0, 1] (by decide) rfl
    refine W.widen (k := 0) (n := 0) (Nat.le_of_ble_eq_true rfl) (Nat.le_of_ble_eq_true rfl) ?_
    exact j_iret F hr hlocks hK hS () rfl hP9 hD9 d_Canvas_wipe_44
  · have hi : i < C * Rr := by
      rcases Nat.lt_or_ge i (C * Rr) with q | q
      · exact q
      · exact absurd (nI_le q (by omega)) c_10
    refine lv_iload_n hx hb d_Canvas_wipe_13 rfl (lv_at hl 1 rfl) ?_
    refine lv_aload_n hx hb d_Canvas_wipe_14 rfl (lv_at hl 0 rfl) ?_
    refine va_get (D := D) (ci := 6) (v := .ref lv) (C := "PageScribe$Canvas") (T := F_Canvas) (N := 9) hx hb hts i_Canvas hown hK hP 0 rfl rfl 3 (by decide) (hts _ k_1_210) (fun _ h9 => h9) rfl d_Canvas_wipe_15 ?_
    refine lv_iload_n hx hb d_Canvas_wipe_18 rfl (lv_at hl 2 rfl) ?_
    refine va_iald hx hb hK hP 1 0 rfl rfl (vp_in_nI hi (by omega)) d_Canvas_wipe_19 ?_
    refine j_eqi (y := 0) rfl ?_
    refine lv_if_le (tgt := 27) hx hb d_Canvas_wipe_20 (by decide) (fun _ => ?_) (fun c9 => absurd c9 (by decide +kernel))
    refine lv_iconst (v := 0) hx hb d_Canvas_wipe_27 (by decide) ?_
    refine lv_iadd hx hb d_Canvas_wipe_28 ?_
    refine j_eqi (y := 0) (by decide +kernel) ?_
    refine lv_istore_n (lv' := [(1, .int 0), (0, .ref oC), (2, .int (nI i))]) hx hb d_Canvas_wipe_29 rfl hl (by decide) rfl (fun ls hl => ?_)
    refine lv_aload_n hx hb d_Canvas_wipe_30 rfl (lv_at hl 1 rfl) ?_
    refine va_get (D := D) (ci := 6) (v := .ref lv) (C := "PageScribe$Canvas") (T := F_Canvas) (N := 9) hx hb hts i_Canvas hown hK hP 0 rfl rfl 3 (by decide) (hts _ k_1_210) (fun _ h9 => h9) rfl d_Canvas_wipe_31 ?_
    refine lv_iload_n hx hb d_Canvas_wipe_34 rfl (lv_at hl 2 rfl) ?_
    refine lv_iconst (v := 0) hx hb d_Canvas_wipe_35 (by decide) ?_
    refine va_iast hx hb hK hP hD hS 1 0 rfl rfl (vp_in_nI hi (by omega)) d_Canvas_wipe_36 (fun H locs hP hD hS => ?_)
    have hP : va_P D classes [(oC, .inr (6, [.ref oS, .int (nI C), .int (nI Rr), .ref lv, .float 0x3f800000, .ref ac, .ref al, .ref be, .int 0])), (lv, .inl (T 0, (C * Rr), .inl (upd zI (nI i).toNatClampNeg 0)))] H := hP
    have hD : va_D A [(oC, .inr (6, [.ref oS, .int (nI C), .int (nI Rr), .ref lv, .float 0x3f800000, .ref ac, .ref al, .ref be, .int 0])), (lv, .inl (T 0, (C * Rr), .inl (upd zI (nI i).toNatClampNeg 0)))] := hD
    rw [zI_up] at hP hD
    have hP : va_P D classes [(oC, .inr (6, [.ref oS, .int (nI C), .int (nI Rr), .ref lv, .float 0x3f800000, .ref ac, .ref al, .ref be, .int 0])), (lv, .inl (T 0, (C * Rr), .inl zI))] H := hP
    have hD : va_D A [(oC, .inr (6, [.ref oS, .int (nI C), .int (nI Rr), .ref lv, .float 0x3f800000, .ref ac, .ref al, .ref be, .int 0])), (lv, .inl (T 0, (C * Rr), .inl zI))] := hD
    refine lv_iinc (v := (nI (i + 1))) (lv' := [(2, .int (nI (i + 1))), (1, .int 0), (0, .ref oC)]) hx hb d_Canvas_wipe_37 hl (k := 2) rfl (nI_1 i) (by decide) rfl (fun ls hl => ?_)
    refine lv_goto (tgt := 4) hx hb d_Canvas_wipe_40 (by decide) ?_
    exact ih (k - 1) (i + 1) _ _ _ (by omega) ⟨(by omega), hP.sub [0, 1] rfl, hD.sub [0, 1] (by decide) rfl, hS, lv_sub hl [2, 1, 0] rfl⟩
theorem d_Ps_page_0 : decode prog_1_method_14_code 0 = .ok (.aload_n 0, 1) := by decide +kernel
theorem d_Ps_page_1 : decode prog_1_method_14_code 1 = .ok (.getfield 50, 3) := by decide +kernel
theorem d_Ps_page_4 : decode prog_1_method_14_code 4 = .ok (.invokevirtual 188, 3) := by decide +kernel
theorem k_2_218 : Cond.code ⟨"PageScribe$Canvas", "wipe", "()I"⟩ prog_3_method_3_code 3 (some .int) ∈ gw := gw_of (tb_2 (List.mem_of_getElem? (i := 218) (by decide +kernel))) (by decide +kernel)
theorem k_2_215 : Cond.methodLink "PageScribe" 188 ⟨"PageScribe$Canvas", "wipe", "()I"⟩ ∈ gw := gw_of (tb_2 (List.mem_of_getElem? (i := 215) (by decide +kernel))) (by decide +kernel)
theorem k_2_216 : Cond.instanceMethod ⟨"PageScribe$Canvas", "wipe", "()I"⟩ ∈ gw := gw_of (tb_2 (List.mem_of_getElem? (i := 216) (by decide +kernel))) (by decide +kernel)
theorem k_2_217 : Cond.selects "PageScribe$Canvas" ⟨"PageScribe$Canvas", "wipe", "()I"⟩ ⟨"PageScribe$Canvas", "wipe", "()I"⟩ ∈ gw := gw_of (tb_2 (List.mem_of_getElem? (i := 217) (by decide +kernel))) (by decide +kernel)
theorem d_Ps_page_7 : decode prog_1_method_14_code 7 = .ok (.ireturn, 1) := by decide +kernel
set_option maxHeartbeats 4000000 in
set_option maxRecDepth 100000 in
theorem c_Ps_page (l : Launch) (D : va_G) (T : Nat → ClassId) (h0 : Nat) (oS : Nat) (oW : Nat) (oM : Nat) (oR : Nat) (oC : Nat) (oE : Nat) (C : Nat) (Rr : Nat) (lv : Nat) (ac : Nat) (al : Nat) (be : Nat) (sz : Nat) (hC : C ≤ 24) (hR : Rr ≤ 16) : Met l ⟨"PageScribe", "page", "()I"⟩ (wy ⟨"PageScribe", "page", "()I"⟩ prog_1_method_14_code 1 (some .int)) ({ frames := 1, cells := 0, slots := 0, locals := 70 }) (va_Pc [.ref h0] (Pw D T [(h0, .inr (10, [.ref oS, .ref oW, .ref oM, .ref oR, .ref oC, .ref oE])), (oC, .inr (6, [.ref oS, .int (nI C), .int (nI Rr), .ref lv, .float 0x3f800000, .ref ac, .ref al, .ref be, .int 0])), (lv, .inl (T 0, (C * Rr), .inl zI))] sz E0)) (va_Qi (fun (r : Int32) (u : Unit) => r = 0) (fun u t => Bw D T (va_A [(h0, .inr (10, [.ref oS, .ref oW, .ref oM, .ref oR, .ref oC, .ref oE])), (oC, .inr (6, [.ref oS, .int (nI C), .int (nI Rr), .ref lv, .float 0x3f800000, .ref ac, .ref al, .ref be, .int 0])), (lv, .inl (T 0, (C * Rr), .inl zI))] sz) [(h0, .inr (10, [.ref oS, .ref oW, .ref oM, .ref oR, .ref oC, .ref oE])), (oC, .inr (6, [.ref oS, .int (nI C), .int (nI Rr), .ref lv, .float 0x3f800000, .ref ac, .ref al, .ref be, .int 0])), (lv, .inl (T 0, (C * Rr), .inl zI))] t) (va_A [(h0, .inr (10, [.ref oS, .ref oW, .ref oM, .ref oR, .ref oC, .ref oE])), (oC, .inr (6, [.ref oS, .int (nI C), .int (nI Rr), .ref lv, .float 0x3f800000, .ref ac, .ref al, .ref be, .int 0])), (lv, .inl (T 0, (C * Rr), .inl zI))] sz)) 0 0 (va_A [(h0, .inr (10, [.ref oS, .ref oW, .ref oM, .ref oR, .ref oC, .ref oE])), (oC, .inr (6, [.ref oS, .int (nI C), .int (nI Rr), .ref lv, .float 0x3f800000, .ref ac, .ref al, .ref be, .int 0])), (lv, .inl (T 0, (C * Rr), .inl zI))] sz) := by
  refine j_met (y := ⟨"PageScribe", "page", "()I"⟩) (b := prog_1_method_14_code) (n := 1) (ret := (some .int)) (av := [.ref h0]) (Qc := fun A => va_Qi (fun (r : Int32) (u : Unit) => r = 0) (fun u t => Bw D T A [(h0, .inr (10, [.ref oS, .ref oW, .ref oM, .ref oR, .ref oC, .ref oE])), (oC, .inr (6, [.ref oS, .int (nI C), .int (nI Rr), .ref lv, .float 0x3f800000, .ref ac, .ref al, .ref be, .int 0])), (lv, .inl (T 0, (C * Rr), .inl zI))] t) A) (by decide +kernel) (Nat.le_of_ble_eq_true rfl) (fun p e s m args below meth c A ls F hr hlocks hnm hK hP hD hS hA hN hE hl => ?_)
  obtain ⟨hx, hb, hml, hown, hts⟩ := id F
  have hin := hnm
  have hl : lv_has ls 1 [(0, .ref h0)] := hl
  refine lv_aload_n hx hb d_Ps_page_0 rfl (lv_at hl 0 rfl) ?_
  refine va_get (D := D) (ci := 10) (v := .ref oC) (C := "PageScribe") (T := F_Ps) (N := 6) hx hb hts i_Ps hown hK hP 0 rfl rfl 4 (by decide) (hts _ k_2_62) (fun _ h9 => h9) rfl d_Ps_page_1 ?_
  refine j_ci (wc := [(oC, .inr (6, [.ref oS, .int (nI C), .int (nI Rr), .ref lv, .float 0x3f800000, .ref ac, .ref al, .ref be, .int 0])), (lv, .inl (T 0, (C * Rr), .inl zI))]) (wr := [(h0, .inr (10, [.ref oS, .ref oW, .ref oM, .ref oR, .ref oC, .ref oE]))]) hK hP hD hS hA [1, 2] [0] rfl rfl (by decide) (by decide) (va_runV (As := []) (rest := []) F (c_Canvas_wipe l D T oC oS C Rr lv ac al be s.heap.size hC hR) (j_cV (k := 0) (C := "PageScribe$Canvas") hts k_2_218 k_1_8 k_2_215 k_2_216 k_2_217 (by decide +kernel) ⟨Nat.le_of_ble_eq_true rfl, Nat.le_of_ble_eq_true rfl⟩) (j_preV (q0 := 1) (ci := 6) hK hP hD [1, 2] rfl (by decide) rfl rfl (fun _ _ _ _ h => h) (fun _ _ _ => trivial)) rfl rfl hl.1 rfl (lv_room (Nat.le_of_ble_eq_true rfl)) d_Ps_page_4 ⟨Nat.le_of_ble_eq_true rfl, Nat.le_of_ble_eq_true rfl⟩) (fun rv1 u1 H locs hw hP hD hS => ?_)
  have hP : va_P D classes [(h0, .inr (10, [.ref oS, .ref oW, .ref oM, .ref oR, .ref oC, .ref oE])), (oC, .inr (6, [.ref oS, .int (nI C), .int (nI Rr), .ref lv, .float 0x3f800000, .ref ac, .ref al, .ref be, .int 0])), (lv, .inl (T 0, (C * Rr), .inl zI))] H := hP
  have hD : va_D A [(h0, .inr (10, [.ref oS, .ref oW, .ref oM, .ref oR, .ref oC, .ref oE])), (oC, .inr (6, [.ref oS, .int (nI C), .int (nI Rr), .ref lv, .float 0x3f800000, .ref ac, .ref al, .ref be, .int 0])), (lv, .inl (T 0, (C * Rr), .inl zI))] := hD
  have hw1 : rv1 = 0 := hw
  have hP9 := hP.sub (ws' := [(h0, .inr (10, [.ref oS, .ref oW, .ref oM, .ref oR, .ref oC, .ref oE])), (oC, .inr (6, [.ref oS, .int (nI C), .int (nI Rr), .ref lv, .float 0x3f800000, .ref ac, .ref al, .ref be, .int 0])), (lv, .inl (T 0, (C * Rr), .inl zI))]) [0, 1, 2] rfl
  have hD9 := hD.sub (ws' := [(h0, .inr (10, [.ref oS, .ref oW, .ref oM, .ref oR, .ref oC, .ref oE])), (oC, .inr (6, [.ref oS, .int (nI C), .int (nI Rr), .ref lv, .float 0x3f800000, .ref ac, .ref al, .ref be, .int 0])), (lv, .inl (T 0, (C * Rr), .inl zI))]) [0, 1, 2] (by decide) rfl
  refine W.widen (k := 0) (n := 0) (Nat.le_of_ble_eq_true rfl) (Nat.le_of_ble_eq_true rfl) ?_
  exact j_iret F hr hlocks hK hS () hw1 hP9 hD9 d_Ps_page_7
theorem d_Reader_findToken_0 : decode prog_7_method_4_code 0 = .ok (.aload_n 0, 1) := by decide +kernel
theorem d_Reader_findToken_1 : decode prog_7_method_4_code 1 = .ok (.getfield 19, 3) := by decide +kernel
theorem d_Reader_findToken_4 : decode prog_7_method_4_code 4 = .ok (.aload_n 0, 1) := by decide +kernel
theorem d_Reader_findToken_5 : decode prog_7_method_4_code 5 = .ok (.getfield 15, 3) := by decide +kernel
theorem d_Reader_findToken_8 : decode prog_7_method_4_code 8 = .ok (.if_icmp .ge 30, 3) := by decide +kernel
theorem d_Reader_findToken_38 : decode prog_7_method_4_code 38 = .ok (.aload_n 0, 1) := by decide +kernel
theorem d_Reader_findToken_39 : decode prog_7_method_4_code 39 = .ok (.getfield 19, 3) := by decide +kernel
theorem d_Reader_findToken_42 : decode prog_7_method_4_code 42 = .ok (.aload_n 0, 1) := by decide +kernel
theorem d_Reader_findToken_43 : decode prog_7_method_4_code 43 = .ok (.getfield 15, 3) := by decide +kernel
theorem d_Reader_findToken_46 : decode prog_7_method_4_code 46 = .ok (.if_icmp .ge 7, 3) := by decide +kernel
theorem d_Reader_findToken_53 : decode prog_7_method_4_code 53 = .ok (.iconst 0, 1) := by decide +kernel
theorem d_Reader_findToken_54 : decode prog_7_method_4_code 54 = .ok (.ireturn, 1) := by decide +kernel
set_option maxHeartbeats 4000000 in
set_option maxRecDepth 100000 in
theorem c_Reader_findToken (l : Launch) (D : va_G) (T : Nat → ClassId) (oR : Nat) (oW : Nat) (st : Nat) (tx : Nat) (gt : Nat) (bg : Nat) (sz : Nat) : Met l ⟨"PageScribe$Reader", "findToken", "()Z"⟩ (wy ⟨"PageScribe$Reader", "findToken", "()Z"⟩ prog_7_method_4_code 1 (some .boolean)) ({ frames := 0, cells := 0, slots := 0, locals := 0 }) (va_Pc [.ref oR] (Pw D T [(oR, .inr (5, [.ref oW, .ref st, .ref tx, .int 0, .int 0, .int 0, .int 0, .double 0, .ref gt, .ref bg]))] sz E0)) (va_Qi (fun (r : Int32) (u : Unit) => r = 0) (fun u t => Bw D T (va_A [(oR, .inr (5, [.ref oW, .ref st, .ref tx, .int 0, .int 0, .int 0, .int 0, .double 0, .ref gt, .ref bg]))] sz) [(oR, .inr (5, [.ref oW, .ref st, .ref tx, .int 0, .int 0, .int 0, .int 0, .double 0, .ref gt, .ref bg]))] t) (va_A [(oR, .inr (5, [.ref oW, .ref st, .ref tx, .int 0, .int 0, .int 0, .int 0, .double 0, .ref gt, .ref bg]))] sz)) 0 0 (va_A [(oR, .inr (5, [.ref oW, .ref st, .ref tx, .int 0, .int 0, .int 0, .int 0, .double 0, .ref gt, .ref bg]))] sz) := by
  refine j_met (y := ⟨"PageScribe$Reader", "findToken", "()Z"⟩) (b := prog_7_method_4_code) (n := 1) (ret := (some .boolean)) (av := [.ref oR]) (Qc := fun A => va_Qi (fun (r : Int32) (u : Unit) => r = 0) (fun u t => Bw D T A [(oR, .inr (5, [.ref oW, .ref st, .ref tx, .int 0, .int 0, .int 0, .int 0, .double 0, .ref gt, .ref bg]))] t) A) (by decide +kernel) (Nat.le_of_ble_eq_true rfl) (fun p e s m args below meth c A ls F hr hlocks hnm hK hP hD hS hA hN hE hl => ?_)
  obtain ⟨hx, hb, hml, hown, hts⟩ := id F
  have hin := hnm
  have hl : lv_has ls 1 [(0, .ref oR)] := hl
  refine lv_aload_n hx hb d_Reader_findToken_0 rfl (lv_at hl 0 rfl) ?_
  refine va_get (D := D) (ci := 5) (v := .int 0) (C := "PageScribe$Reader") (T := F_Reader) (N := 10) hx hb hts i_Reader hown hK hP 0 rfl rfl 4 (by decide) (hts _ k_1_171) (fun _ h9 => h9) rfl d_Reader_findToken_1 ?_
  refine lv_aload_n hx hb d_Reader_findToken_4 rfl (lv_at hl 0 rfl) ?_
  refine va_get (D := D) (ci := 5) (v := .int 0) (C := "PageScribe$Reader") (T := F_Reader) (N := 10) hx hb hts i_Reader hown hK hP 0 rfl rfl 3 (by decide) (hts _ k_1_169) (fun _ h9 => h9) rfl d_Reader_findToken_5 ?_
  refine lv_icmp_ge (tgt := 38) hx hb d_Reader_findToken_8 (by decide) (fun _ => ?_) (fun c9 => absurd c9 (by decide +kernel))
  refine lv_aload_n hx hb d_Reader_findToken_38 rfl (lv_at hl 0 rfl) ?_
  refine va_get (D := D) (ci := 5) (v := .int 0) (C := "PageScribe$Reader") (T := F_Reader) (N := 10) hx hb hts i_Reader hown hK hP 0 rfl rfl 4 (by decide) (hts _ k_1_171) (fun _ h9 => h9) rfl d_Reader_findToken_39 ?_
  refine lv_aload_n hx hb d_Reader_findToken_42 rfl (lv_at hl 0 rfl) ?_
  refine va_get (D := D) (ci := 5) (v := .int 0) (C := "PageScribe$Reader") (T := F_Reader) (N := 10) hx hb hts i_Reader hown hK hP 0 rfl rfl 3 (by decide) (hts _ k_1_169) (fun _ h9 => h9) rfl d_Reader_findToken_43 ?_
  refine lv_icmp_ge (tgt := 53) hx hb d_Reader_findToken_46 (by decide) (fun _ => ?_) (fun c9 => absurd c9 (by decide +kernel))
  refine lv_iconst (v := 0) hx hb d_Reader_findToken_53 (by decide) ?_
  have hP9 := hP.sub (ws' := [(oR, .inr (5, [.ref oW, .ref st, .ref tx, .int 0, .int 0, .int 0, .int 0, .double 0, .ref gt, .ref bg]))]) [0] rfl
  have hD9 := hD.sub (ws' := [(oR, .inr (5, [.ref oW, .ref st, .ref tx, .int 0, .int 0, .int 0, .int 0, .double 0, .ref gt, .ref bg]))]) [0] (by decide) rfl
  refine W.widen (k := 0) (n := 0) (Nat.le_of_ble_eq_true rfl) (Nat.le_of_ble_eq_true rfl) ?_
  exact j_zret F hr rfl hlocks hK hS () rfl hP9 hD9 d_Reader_findToken_54
theorem d_Reader_empty_0 : decode prog_7_method_3_code 0 = .ok (.aload_n 0, 1) := by decide +kernel
theorem d_Reader_empty_1 : decode prog_7_method_3_code 1 = .ok (.iconst 0, 1) := by decide +kernel
theorem d_Reader_empty_2 : decode prog_7_method_3_code 2 = .ok (.putfield 15, 3) := by decide +kernel
theorem d_Reader_empty_5 : decode prog_7_method_3_code 5 = .ok (.aload_n 0, 1) := by decide +kernel
theorem d_Reader_empty_6 : decode prog_7_method_3_code 6 = .ok (.iconst 0, 1) := by decide +kernel
theorem d_Reader_empty_7 : decode prog_7_method_3_code 7 = .ok (.putfield 19, 3) := by decide +kernel
theorem d_Reader_empty_10 : decode prog_7_method_3_code 10 = .ok (.return_, 1) := by decide +kernel
set_option maxHeartbeats 4000000 in
set_option maxRecDepth 100000 in
theorem c_Reader_empty (l : Launch) (D : va_G) (T : Nat → ClassId) (oR : Nat) (oW : Nat) (st : Nat) (tx : Nat) (gt : Nat) (bg : Nat) (sz : Nat) : Met l ⟨"PageScribe$Reader", "empty", "()V"⟩ (wy ⟨"PageScribe$Reader", "empty", "()V"⟩ prog_7_method_3_code 1 none) ({ frames := 0, cells := 0, slots := 0, locals := 0 }) (va_Pc [.ref oR] (Pw D T [(oR, .inr (5, [.ref oW, .ref st, .ref tx, .int 0, .int 0, .int 0, .int 0, .double 0, .ref gt, .ref bg]))] sz E0)) (va_Qv (fun (u : Unit) => True) (fun u t => Bw D T (va_A [(oR, .inr (5, [.ref oW, .ref st, .ref tx, .int 0, .int 0, .int 0, .int 0, .double 0, .ref gt, .ref bg]))] sz) [(oR, .inr (5, [.ref oW, .ref st, .ref tx, .int 0, .int 0, .int 0, .int 0, .double 0, .ref gt, .ref bg]))] t) (va_A [(oR, .inr (5, [.ref oW, .ref st, .ref tx, .int 0, .int 0, .int 0, .int 0, .double 0, .ref gt, .ref bg]))] sz)) 0 0 (va_A [(oR, .inr (5, [.ref oW, .ref st, .ref tx, .int 0, .int 0, .int 0, .int 0, .double 0, .ref gt, .ref bg]))] sz) := by
  refine j_met (y := ⟨"PageScribe$Reader", "empty", "()V"⟩) (b := prog_7_method_3_code) (n := 1) (ret := none) (av := [.ref oR]) (Qc := fun A => va_Qv (fun (u : Unit) => True) (fun u t => Bw D T A [(oR, .inr (5, [.ref oW, .ref st, .ref tx, .int 0, .int 0, .int 0, .int 0, .double 0, .ref gt, .ref bg]))] t) A) (by decide +kernel) (Nat.le_of_ble_eq_true rfl) (fun p e s m args below meth c A ls F hr hlocks hnm hK hP hD hS hA hN hE hl => ?_)
  obtain ⟨hx, hb, hml, hown, hts⟩ := id F
  have hin := hnm
  have hl : lv_has ls 1 [(0, .ref oR)] := hl
  refine lv_aload_n hx hb d_Reader_empty_0 rfl (lv_at hl 0 rfl) ?_
  refine lv_iconst (v := 0) hx hb d_Reader_empty_1 (by decide) ?_
  refine va_put (D := D) (ci := 5) (v := .int 0) (ty := .int) (C := "PageScribe$Reader") (T := F_Reader) (N := 10) hx hb hts i_Reader t_Reader t_Reader_ok n_Reader hown hK hP hD hS 0 rfl rfl 3 (by decide) (hts _ k_1_169) (fun _ h9 => h9) rfl (by decide +kernel) rfl rfl (Nat.le_of_ble_eq_true rfl) d_Reader_empty_2 (fun H locs hP hD hS => ?_)
  have hP : va_P D classes [(oR, .inr (5, [.ref oW, .ref st, .ref tx, .int 0, .int 0, .int 0, .int 0, .double 0, .ref gt, .ref bg]))] H := hP
  have hD : va_D A [(oR, .inr (5, [.ref oW, .ref st, .ref tx, .int 0, .int 0, .int 0, .int 0, .double 0, .ref gt, .ref bg]))] := hD
  refine lv_aload_n hx hb d_Reader_empty_5 rfl (lv_at hl 0 rfl) ?_
  refine lv_iconst (v := 0) hx hb d_Reader_empty_6 (by decide) ?_
  refine va_put (D := D) (ci := 5) (v := .int 0) (ty := .int) (C := "PageScribe$Reader") (T := F_Reader) (N := 10) hx hb hts i_Reader t_Reader t_Reader_ok n_Reader hown hK hP hD hS 0 rfl rfl 4 (by decide) (hts _ k_1_171) (fun _ h9 => h9) rfl (by decide +kernel) rfl rfl (Nat.le_of_ble_eq_true rfl) d_Reader_empty_7 (fun H locs hP hD hS => ?_)
  have hP : va_P D classes [(oR, .inr (5, [.ref oW, .ref st, .ref tx, .int 0, .int 0, .int 0, .int 0, .double 0, .ref gt, .ref bg]))] H := hP
  have hD : va_D A [(oR, .inr (5, [.ref oW, .ref st, .ref tx, .int 0, .int 0, .int 0, .int 0, .double 0, .ref gt, .ref bg]))] := hD
  have hP9 := hP.sub (ws' := [(oR, .inr (5, [.ref oW, .ref st, .ref tx, .int 0, .int 0, .int 0, .int 0, .double 0, .ref gt, .ref bg]))]) [0] rfl
  have hD9 := hD.sub (ws' := [(oR, .inr (5, [.ref oW, .ref st, .ref tx, .int 0, .int 0, .int 0, .int 0, .double 0, .ref gt, .ref bg]))]) [0] (by decide) rfl
  refine W.widen (k := 0) (n := 0) (Nat.le_of_ble_eq_true rfl) (Nat.le_of_ble_eq_true rfl) ?_
  exact j_vret F hr hlocks hK hS () trivial hP9 hD9 d_Reader_empty_10
theorem d_Engine_begin_0 : decode prog_4_method_2_code 0 = .ok (.aload_n 0, 1) := by decide +kernel
theorem d_Engine_begin_1 : decode prog_4_method_2_code 1 = .ok (.iload_n 1, 1) := by decide +kernel
theorem d_Engine_begin_2 : decode prog_4_method_2_code 2 = .ok (.putfield 9, 3) := by decide +kernel
theorem d_Engine_begin_5 : decode prog_4_method_2_code 5 = .ok (.aload_n 0, 1) := by decide +kernel
theorem d_Engine_begin_6 : decode prog_4_method_2_code 6 = .ok (.iconst 0, 1) := by decide +kernel
theorem d_Engine_begin_7 : decode prog_4_method_2_code 7 = .ok (.putfield 15, 3) := by decide +kernel
theorem d_Engine_begin_10 : decode prog_4_method_2_code 10 = .ok (.return_, 1) := by decide +kernel
set_option maxHeartbeats 4000000 in
set_option maxRecDepth 100000 in
theorem c_Engine_begin (l : Launch) (D : va_G) (T : Nat → ClassId) (oE : Nat) (oS : Nat) (oM : Nat) (oC : Nat) (su : Nat) (tr : Nat) (p0 : Int32) (sz : Nat) : Met l ⟨"PageScribe$Engine", "begin", "(I)V"⟩ (wy ⟨"PageScribe$Engine", "begin", "(I)V"⟩ prog_4_method_2_code 2 none) ({ frames := 0, cells := 0, slots := 0, locals := 0 }) (va_Pc [.ref oE, .int p0] (Pw D T [(oE, .inr (7, [.ref oS, .ref oM, .ref oC, .ref su, .ref tr, .int 0, .int 0, .int 0, .int 0, .int 0, .int 0]))] sz E0)) (va_Qv (fun (u : Unit) => True) (fun u t => Bw D T (va_A [(oE, .inr (7, [.ref oS, .ref oM, .ref oC, .ref su, .ref tr, .int 0, .int 0, .int 0, .int 0, .int 0, .int 0]))] sz) [(oE, .inr (7, [.ref oS, .ref oM, .ref oC, .ref su, .ref tr, .int p0, .int 0, .int 0, .int 0, .int 0, .int 0]))] t) (va_A [(oE, .inr (7, [.ref oS, .ref oM, .ref oC, .ref su, .ref tr, .int 0, .int 0, .int 0, .int 0, .int 0, .int 0]))] sz)) 0 0 (va_A [(oE, .inr (7, [.ref oS, .ref oM, .ref oC, .ref su, .ref tr, .int 0, .int 0, .int 0, .int 0, .int 0, .int 0]))] sz) := by
  refine j_met (y := ⟨"PageScribe$Engine", "begin", "(I)V"⟩) (b := prog_4_method_2_code) (n := 2) (ret := none) (av := [.ref oE, .int p0]) (Qc := fun A => va_Qv (fun (u : Unit) => True) (fun u t => Bw D T A [(oE, .inr (7, [.ref oS, .ref oM, .ref oC, .ref su, .ref tr, .int p0, .int 0, .int 0, .int 0, .int 0, .int 0]))] t) A) (by decide +kernel) (Nat.le_of_ble_eq_true rfl) (fun p e s m args below meth c A ls F hr hlocks hnm hK hP hD hS hA hN hE hl => ?_)
  obtain ⟨hx, hb, hml, hown, hts⟩ := id F
  have hin := hnm
  have hl : lv_has ls 2 [(0, .ref oE), (1, .int p0)] := hl
  refine lv_aload_n hx hb d_Engine_begin_0 rfl (lv_at hl 0 rfl) ?_
  refine lv_iload_n hx hb d_Engine_begin_1 rfl (lv_at hl 1 rfl) ?_
  refine va_put (D := D) (ci := 7) (v := .int p0) (ty := .int) (C := "PageScribe$Engine") (T := F_Engine) (N := 11) hx hb hts i_Engine t_Engine t_Engine_ok n_Engine hown hK hP hD hS 0 rfl rfl 5 (by decide) (hts _ k_2_27) (fun _ h9 => h9) rfl (by decide +kernel) rfl rfl (Nat.le_of_ble_eq_true rfl) d_Engine_begin_2 (fun H locs hP hD hS => ?_)
  have hP : va_P D classes [(oE, .inr (7, [.ref oS, .ref oM, .ref oC, .ref su, .ref tr, .int p0, .int 0, .int 0, .int 0, .int 0, .int 0]))] H := hP
  have hD : va_D A [(oE, .inr (7, [.ref oS, .ref oM, .ref oC, .ref su, .ref tr, .int p0, .int 0, .int 0, .int 0, .int 0, .int 0]))] := hD
  refine lv_aload_n hx hb d_Engine_begin_5 rfl (lv_at hl 0 rfl) ?_
  refine lv_iconst (v := 0) hx hb d_Engine_begin_6 (by decide) ?_
  refine va_put (D := D) (ci := 7) (v := .int 0) (ty := .int) (C := "PageScribe$Engine") (T := F_Engine) (N := 11) hx hb hts i_Engine t_Engine t_Engine_ok n_Engine hown hK hP hD hS 0 rfl rfl 6 (by decide) (hts _ k_2_28) (fun _ h9 => h9) rfl (by decide +kernel) rfl rfl (Nat.le_of_ble_eq_true rfl) d_Engine_begin_7 (fun H locs hP hD hS => ?_)
  have hP : va_P D classes [(oE, .inr (7, [.ref oS, .ref oM, .ref oC, .ref su, .ref tr, .int p0, .int 0, .int 0, .int 0, .int 0, .int 0]))] H := hP
  have hD : va_D A [(oE, .inr (7, [.ref oS, .ref oM, .ref oC, .ref su, .ref tr, .int p0, .int 0, .int 0, .int 0, .int 0, .int 0]))] := hD
  have hP9 := hP.sub (ws' := [(oE, .inr (7, [.ref oS, .ref oM, .ref oC, .ref su, .ref tr, .int p0, .int 0, .int 0, .int 0, .int 0, .int 0]))]) [0] rfl
  have hD9 := hD.sub (ws' := [(oE, .inr (7, [.ref oS, .ref oM, .ref oC, .ref su, .ref tr, .int p0, .int 0, .int 0, .int 0, .int 0, .int 0]))]) [0] (by decide) rfl
  refine W.widen (k := 0) (n := 0) (Nat.le_of_ble_eq_true rfl) (Nat.le_of_ble_eq_true rfl) ?_
  exact j_vret F hr hlocks hK hS () trivial hP9 hD9 d_Engine_begin_10
theorem d_Engine_note_0 : decode prog_4_method_3_code 0 = .ok (.aload_n 0, 1) := by decide +kernel
theorem d_Engine_note_1 : decode prog_4_method_3_code 1 = .ok (.iload_n 1, 1) := by decide +kernel
theorem d_Engine_note_2 : decode prog_4_method_3_code 2 = .ok (.ifCond .ne 10, 3) := by decide +kernel
theorem d_Engine_note_5 : decode prog_4_method_3_code 5 = .ok (.aload_n 0, 1) := by decide +kernel
theorem d_Engine_note_6 : decode prog_4_method_3_code 6 = .ok (.getfield 18, 3) := by decide +kernel
theorem d_Engine_note_9 : decode prog_4_method_3_code 9 = .ok (.goto 4, 3) := by decide +kernel
theorem d_Engine_note_13 : decode prog_4_method_3_code 13 = .ok (.putfield 18, 3) := by decide +kernel
theorem d_Engine_note_16 : decode prog_4_method_3_code 16 = .ok (.return_, 1) := by decide +kernel
set_option maxHeartbeats 4000000 in
set_option maxRecDepth 100000 in
theorem c_Engine_note (l : Launch) (D : va_G) (T : Nat → ClassId) (oE : Nat) (oS : Nat) (oM : Nat) (oC : Nat) (su : Nat) (tr : Nat) (p0 : Int32) (sz : Nat) : Met l ⟨"PageScribe$Engine", "note", "(I)V"⟩ (wy ⟨"PageScribe$Engine", "note", "(I)V"⟩ prog_4_method_3_code 2 none) ({ frames := 0, cells := 0, slots := 0, locals := 0 }) (va_Pc [.ref oE, .int 0] (Pw D T [(oE, .inr (7, [.ref oS, .ref oM, .ref oC, .ref su, .ref tr, .int p0, .int 0, .int 0, .int 0, .int 0, .int 0]))] sz E0)) (va_Qv (fun (u : Unit) => True) (fun u t => Bw D T (va_A [(oE, .inr (7, [.ref oS, .ref oM, .ref oC, .ref su, .ref tr, .int p0, .int 0, .int 0, .int 0, .int 0, .int 0]))] sz) [(oE, .inr (7, [.ref oS, .ref oM, .ref oC, .ref su, .ref tr, .int p0, .int 0, .int 0, .int 0, .int 0, .int 0]))] t) (va_A [(oE, .inr (7, [.ref oS, .ref oM, .ref oC, .ref su, .ref tr, .int p0, .int 0, .int 0, .int 0, .int 0, .int 0]))] sz)) 0 0 (va_A [(oE, .inr (7, [.ref oS, .ref oM, .ref oC, .ref su, .ref tr, .int p0, .int 0, .int 0, .int 0, .int 0, .int 0]))] sz) := by
  refine j_met (y := ⟨"PageScribe$Engine", "note", "(I)V"⟩) (b := prog_4_method_3_code) (n := 2) (ret := none) (av := [.ref oE, .int 0]) (Qc := fun A => va_Qv (fun (u : Unit) => True) (fun u t => Bw D T A [(oE, .inr (7, [.ref oS, .ref oM, .ref oC, .ref su, .ref tr, .int p0, .int 0, .int 0, .int 0, .int 0, .int 0]))] t) A) (by decide +kernel) (Nat.le_of_ble_eq_true rfl) (fun p e s m args below meth c A ls F hr hlocks hnm hK hP hD hS hA hN hE hl => ?_)
  obtain ⟨hx, hb, hml, hown, hts⟩ := id F
  have hin := hnm
  have hl : lv_has ls 2 [(0, .ref oE), (1, .int 0)] := hl
  refine lv_aload_n hx hb d_Engine_note_0 rfl (lv_at hl 0 rfl) ?_
  refine lv_iload_n hx hb d_Engine_note_1 rfl (lv_at hl 1 rfl) ?_
  refine lv_if_ne (tgt := 12) hx hb d_Engine_note_2 (by decide) (fun c9 => absurd c9 (by decide +kernel)) (fun _ => ?_)
  refine lv_aload_n hx hb d_Engine_note_5 rfl (lv_at hl 0 rfl) ?_
  refine va_get (D := D) (ci := 7) (v := .int 0) (C := "PageScribe$Engine") (T := F_Engine) (N := 11) hx hb hts i_Engine hown hK hP 0 rfl rfl 7 (by decide) (hts _ k_2_30) (fun _ h9 => h9) rfl d_Engine_note_6 ?_
  refine lv_goto (tgt := 13) hx hb d_Engine_note_9 (by decide) ?_
  refine va_put (D := D) (ci := 7) (v := .int 0) (ty := .int) (C := "PageScribe$Engine") (T := F_Engine) (N := 11) hx hb hts i_Engine t_Engine t_Engine_ok n_Engine hown hK hP hD hS 0 rfl rfl 7 (by decide) (hts _ k_2_30) (fun _ h9 => h9) rfl (by decide +kernel) rfl rfl (Nat.le_of_ble_eq_true rfl) d_Engine_note_13 (fun H locs hP hD hS => ?_)
  have hP : va_P D classes [(oE, .inr (7, [.ref oS, .ref oM, .ref oC, .ref su, .ref tr, .int p0, .int 0, .int 0, .int 0, .int 0, .int 0]))] H := hP
  have hD : va_D A [(oE, .inr (7, [.ref oS, .ref oM, .ref oC, .ref su, .ref tr, .int p0, .int 0, .int 0, .int 0, .int 0, .int 0]))] := hD
  have hP9 := hP.sub (ws' := [(oE, .inr (7, [.ref oS, .ref oM, .ref oC, .ref su, .ref tr, .int p0, .int 0, .int 0, .int 0, .int 0, .int 0]))]) [0] rfl
  have hD9 := hD.sub (ws' := [(oE, .inr (7, [.ref oS, .ref oM, .ref oC, .ref su, .ref tr, .int p0, .int 0, .int 0, .int 0, .int 0, .int 0]))]) [0] (by decide) rfl
  refine W.widen (k := 0) (n := 0) (Nat.le_of_ble_eq_true rfl) (Nat.le_of_ble_eq_true rfl) ?_
  exact j_vret F hr hlocks hK hS () trivial hP9 hD9 d_Engine_note_16
theorem d_Ps_run_0 : decode prog_1_method_3_code 0 = .ok (.iload_n 1, 1) := by decide +kernel
theorem d_Ps_run_1 : decode prog_1_method_3_code 1 = .ok (.iconst 1, 1) := by decide +kernel
theorem d_Ps_run_2 : decode prog_1_method_3_code 2 = .ok (.if_icmp .lt 10, 3) := by decide +kernel
theorem d_Ps_run_5 : decode prog_1_method_3_code 5 = .ok (.iload_n 1, 1) := by decide +kernel
theorem d_Ps_run_6 : decode prog_1_method_3_code 6 = .ok (.sipush 500, 3) := by decide +kernel
theorem d_Ps_run_9 : decode prog_1_method_3_code 9 = .ok (.if_icmp .le 13, 3) := by decide +kernel
theorem d_Ps_run_22 : decode prog_1_method_3_code 22 = .ok (.aload_n 0, 1) := by decide +kernel
theorem d_Ps_run_23 : decode prog_1_method_3_code 23 = .ok (.getfield 59, 3) := by decide +kernel
theorem d_Ps_run_26 : decode prog_1_method_3_code 26 = .ok (.iload_n 1, 1) := by decide +kernel
theorem d_Ps_run_27 : decode prog_1_method_3_code 27 = .ok (.invokevirtual 74, 3) := by decide +kernel
theorem k_3_61 : Cond.code ⟨"PageScribe$Engine", "begin", "(I)V"⟩ prog_4_method_2_code 2 none ∈ gw := gw_of (tb_3 (List.mem_of_getElem? (i := 61) (by decide +kernel))) (by decide +kernel)
theorem k_3_58 : Cond.methodLink "PageScribe" 74 ⟨"PageScribe$Engine", "begin", "(I)V"⟩ ∈ gw := gw_of (tb_3 (List.mem_of_getElem? (i := 58) (by decide +kernel))) (by decide +kernel)
theorem k_3_59 : Cond.instanceMethod ⟨"PageScribe$Engine", "begin", "(I)V"⟩ ∈ gw := gw_of (tb_3 (List.mem_of_getElem? (i := 59) (by decide +kernel))) (by decide +kernel)
theorem k_3_60 : Cond.selects "PageScribe$Engine" ⟨"PageScribe$Engine", "begin", "(I)V"⟩ ⟨"PageScribe$Engine", "begin", "(I)V"⟩ ∈ gw := gw_of (tb_3 (List.mem_of_getElem? (i := 60) (by decide +kernel))) (by decide +kernel)
theorem d_Ps_run_30 : decode prog_1_method_3_code 30 = .ok (.iconst 0, 1) := by decide +kernel
theorem d_Ps_run_31 : decode prog_1_method_3_code 31 = .ok (.istore_n 2, 1) := by decide +kernel
theorem d_Ps_run_32 : decode prog_1_method_3_code 32 = .ok (.iconst 0, 1) := by decide +kernel
theorem d_Ps_run_33 : decode prog_1_method_3_code 33 = .ok (.istore_n 3, 1) := by decide +kernel
theorem d_Ps_run_34 : decode prog_1_method_3_code 34 = .ok (.iload_n 3, 1) := by decide +kernel
theorem d_Ps_run_35 : decode prog_1_method_3_code 35 = .ok (.bipush 120, 2) := by decide +kernel
theorem d_Ps_run_37 : decode prog_1_method_3_code 37 = .ok (.if_icmp .ge 64, 3) := by decide +kernel
theorem d_Ps_run_40 : decode prog_1_method_3_code 40 = .ok (.iload_n 2, 1) := by decide +kernel
theorem d_Ps_run_41 : decode prog_1_method_3_code 41 = .ok (.ifCond .ne 60, 3) := by decide +kernel
theorem d_Ps_run_44 : decode prog_1_method_3_code 44 = .ok (.aload_n 0, 1) := by decide +kernel
theorem d_Ps_run_45 : decode prog_1_method_3_code 45 = .ok (.getfield 41, 3) := by decide +kernel
theorem d_Ps_run_48 : decode prog_1_method_3_code 48 = .ok (.invokevirtual 78, 3) := by decide +kernel
theorem k_3_65 : Cond.code ⟨"PageScribe$Reader", "findToken", "()Z"⟩ prog_7_method_4_code 1 (some .boolean) ∈ gw := gw_of (tb_3 (List.mem_of_getElem? (i := 65) (by decide +kernel))) (by decide +kernel)
theorem k_3_62 : Cond.methodLink "PageScribe" 78 ⟨"PageScribe$Reader", "findToken", "()Z"⟩ ∈ gw := gw_of (tb_3 (List.mem_of_getElem? (i := 62) (by decide +kernel))) (by decide +kernel)
theorem k_3_63 : Cond.instanceMethod ⟨"PageScribe$Reader", "findToken", "()Z"⟩ ∈ gw := gw_of (tb_3 (List.mem_of_getElem? (i := 63) (by decide +kernel))) (by decide +kernel)
theorem k_3_64 : Cond.selects "PageScribe$Reader" ⟨"PageScribe$Reader", "findToken", "()Z"⟩ ⟨"PageScribe$Reader", "findToken", "()Z"⟩ ∈ gw := gw_of (tb_3 (List.mem_of_getElem? (i := 64) (by decide +kernel))) (by decide +kernel)
theorem d_Ps_run_51 : decode prog_1_method_3_code 51 = .ok (.ifCond .eq 50, 3) := by decide +kernel
theorem d_Ps_run_101 : decode prog_1_method_3_code 101 = .ok (.aload_n 0, 1) := by decide +kernel
theorem d_Ps_run_102 : decode prog_1_method_3_code 102 = .ok (.getfield 41, 3) := by decide +kernel
theorem d_Ps_run_105 : decode prog_1_method_3_code 105 = .ok (.invokevirtual 101, 3) := by decide +kernel
theorem k_6_23 : Cond.code ⟨"PageScribe$Reader", "empty", "()V"⟩ prog_7_method_3_code 1 none ∈ gw := gw_of (tb_6 (List.mem_of_getElem? (i := 23) (by decide +kernel))) (by decide +kernel)
theorem k_6_20 : Cond.methodLink "PageScribe" 101 ⟨"PageScribe$Reader", "empty", "()V"⟩ ∈ gw := gw_of (tb_6 (List.mem_of_getElem? (i := 20) (by decide +kernel))) (by decide +kernel)
theorem k_6_21 : Cond.instanceMethod ⟨"PageScribe$Reader", "empty", "()V"⟩ ∈ gw := gw_of (tb_6 (List.mem_of_getElem? (i := 21) (by decide +kernel))) (by decide +kernel)
theorem k_6_22 : Cond.selects "PageScribe$Reader" ⟨"PageScribe$Reader", "empty", "()V"⟩ ⟨"PageScribe$Reader", "empty", "()V"⟩ ∈ gw := gw_of (tb_6 (List.mem_of_getElem? (i := 22) (by decide +kernel))) (by decide +kernel)
theorem d_Ps_run_108 : decode prog_1_method_3_code 108 = .ok (.aload_n 0, 1) := by decide +kernel
theorem d_Ps_run_109 : decode prog_1_method_3_code 109 = .ok (.getfield 59, 3) := by decide +kernel
theorem d_Ps_run_112 : decode prog_1_method_3_code 112 = .ok (.iload_n 2, 1) := by decide +kernel
theorem d_Ps_run_113 : decode prog_1_method_3_code 113 = .ok (.invokevirtual 104, 3) := by decide +kernel
theorem k_6_14 : Cond.code ⟨"PageScribe$Engine", "note", "(I)V"⟩ prog_4_method_3_code 2 none ∈ gw := gw_of (tb_6 (List.mem_of_getElem? (i := 14) (by decide +kernel))) (by decide +kernel)
theorem k_6_24 : Cond.methodLink "PageScribe" 104 ⟨"PageScribe$Engine", "note", "(I)V"⟩ ∈ gw := gw_of (tb_6 (List.mem_of_getElem? (i := 24) (by decide +kernel))) (by decide +kernel)
theorem k_6_12 : Cond.instanceMethod ⟨"PageScribe$Engine", "note", "(I)V"⟩ ∈ gw := gw_of (tb_6 (List.mem_of_getElem? (i := 12) (by decide +kernel))) (by decide +kernel)
theorem k_6_13 : Cond.selects "PageScribe$Engine" ⟨"PageScribe$Engine", "note", "(I)V"⟩ ⟨"PageScribe$Engine", "note", "(I)V"⟩ ∈ gw := gw_of (tb_6 (List.mem_of_getElem? (i := 13) (by decide +kernel))) (by decide +kernel)
theorem d_Ps_run_116 : decode prog_1_method_3_code 116 = .ok (.iload_n 2, 1) := by decide +kernel
theorem d_Ps_run_117 : decode prog_1_method_3_code 117 = .ok (.ireturn, 1) := by decide +kernel
set_option maxHeartbeats 4000000 in
set_option maxRecDepth 100000 in
theorem c_Ps_run (l : Launch) (D : va_G) (T : Nat → ClassId) (h0 : Nat) (oS : Nat) (oW : Nat) (oM : Nat) (oR : Nat) (oC : Nat) (oE : Nat) (su : Nat) (tr : Nat) (st : Nat) (tx : Nat) (gt : Nat) (bg : Nat) (p0 : Int32) (sz : Nat) (hp1 : ¬ p0 < 1) (hp2 : ¬ 500 < p0) : Met l ⟨"PageScribe", "run", "(I)I"⟩ (wy ⟨"PageScribe", "run", "(I)I"⟩ prog_1_method_3_code 4 (some .int)) ({ frames := 1, cells := 0, slots := 0, locals := 70 }) (va_Pc [.ref h0, .int p0] (Pw D T [(h0, .inr (10, [.ref oS, .ref oW, .ref oM, .ref oR, .ref oC, .ref oE])), (oE, .inr (7, [.ref oS, .ref oM, .ref oC, .ref su, .ref tr, .int 0, .int 0, .int 0, .int 0, .int 0, .int 0])), (oR, .inr (5, [.ref oW, .ref st, .ref tx, .int 0, .int 0, .int 0, .int 0, .double 0, .ref gt, .ref bg]))] sz E0)) (va_Qi (fun (r : Int32) (u : Unit) => r = 0) (fun u t => Bw D T (va_A [(h0, .inr (10, [.ref oS, .ref oW, .ref oM, .ref oR, .ref oC, .ref oE])), (oE, .inr (7, [.ref oS, .ref oM, .ref oC, .ref su, .ref tr, .int 0, .int 0, .int 0, .int 0, .int 0, .int 0])), (oR, .inr (5, [.ref oW, .ref st, .ref tx, .int 0, .int 0, .int 0, .int 0, .double 0, .ref gt, .ref bg]))] sz) [(h0, .inr (10, [.ref oS, .ref oW, .ref oM, .ref oR, .ref oC, .ref oE])), (oE, .inr (7, [.ref oS, .ref oM, .ref oC, .ref su, .ref tr, .int p0, .int 0, .int 0, .int 0, .int 0, .int 0])), (oR, .inr (5, [.ref oW, .ref st, .ref tx, .int 0, .int 0, .int 0, .int 0, .double 0, .ref gt, .ref bg]))] t) (va_A [(h0, .inr (10, [.ref oS, .ref oW, .ref oM, .ref oR, .ref oC, .ref oE])), (oE, .inr (7, [.ref oS, .ref oM, .ref oC, .ref su, .ref tr, .int 0, .int 0, .int 0, .int 0, .int 0, .int 0])), (oR, .inr (5, [.ref oW, .ref st, .ref tx, .int 0, .int 0, .int 0, .int 0, .double 0, .ref gt, .ref bg]))] sz)) 0 0 (va_A [(h0, .inr (10, [.ref oS, .ref oW, .ref oM, .ref oR, .ref oC, .ref oE])), (oE, .inr (7, [.ref oS, .ref oM, .ref oC, .ref su, .ref tr, .int 0, .int 0, .int 0, .int 0, .int 0, .int 0])), (oR, .inr (5, [.ref oW, .ref st, .ref tx, .int 0, .int 0, .int 0, .int 0, .double 0, .ref gt, .ref bg]))] sz) := by
  refine j_met (y := ⟨"PageScribe", "run", "(I)I"⟩) (b := prog_1_method_3_code) (n := 4) (ret := (some .int)) (av := [.ref h0, .int p0]) (Qc := fun A => va_Qi (fun (r : Int32) (u : Unit) => r = 0) (fun u t => Bw D T A [(h0, .inr (10, [.ref oS, .ref oW, .ref oM, .ref oR, .ref oC, .ref oE])), (oE, .inr (7, [.ref oS, .ref oM, .ref oC, .ref su, .ref tr, .int p0, .int 0, .int 0, .int 0, .int 0, .int 0])), (oR, .inr (5, [.ref oW, .ref st, .ref tx, .int 0, .int 0, .int 0, .int 0, .double 0, .ref gt, .ref bg]))] t) A) (by decide +kernel) (Nat.le_of_ble_eq_true rfl) (fun p e s m args below meth c A ls F hr hlocks hnm hK hP hD hS hA hN hE hl => ?_)
  obtain ⟨hx, hb, hml, hown, hts⟩ := id F
  have hin := hnm
  have hl : lv_has ls 4 [(0, .ref h0), (1, .int p0)] := hl
  refine lv_iload_n hx hb d_Ps_run_0 rfl (lv_at hl 1 rfl) ?_
  refine lv_iconst (v := 1) hx hb d_Ps_run_1 (by decide) ?_
  refine lv_icmp_lt (tgt := 12) hx hb d_Ps_run_2 (by decide) (fun c_2 => absurd c_2 hp1) (fun c_2 => ?_)
  refine lv_iload_n hx hb d_Ps_run_5 rfl (lv_at hl 1 rfl) ?_
  refine lv_sipush (v := 500) hx hb d_Ps_run_6 (by decide) ?_
  refine lv_icmp_le (tgt := 22) hx hb d_Ps_run_9 (by decide) (fun c_9 => ?_) (fun c_9 => absurd c_9 (fun q => q (Int32.not_lt.mp hp2)))
  refine lv_aload_n hx hb d_Ps_run_22 rfl (lv_at hl 0 rfl) ?_
  refine va_get (D := D) (ci := 10) (v := .ref oE) (C := "PageScribe") (T := F_Ps) (N := 6) hx hb hts i_Ps hown hK hP 0 rfl rfl 5 (by decide) (hts _ k_2_63) (fun _ h9 => h9) rfl d_Ps_run_23 ?_
  refine lv_iload_n hx hb d_Ps_run_26 rfl (lv_at hl 1 rfl) ?_
  refine j_cv (wc := [(oE, .inr (7, [.ref oS, .ref oM, .ref oC, .ref su, .ref tr, .int 0, .int 0, .int 0, .int 0, .int 0, .int 0]))]) (wr := [(h0, .inr (10, [.ref oS, .ref oW, .ref oM, .ref oR, .ref oC, .ref oE])), (oR, .inr (5, [.ref oW, .ref st, .ref tx, .int 0, .int 0, .int 0, .int 0, .double 0, .ref gt, .ref bg]))]) hK hP hD hS hA [1] [0, 2] rfl rfl (by decide) (by decide) (va_runV (As := [.int p0]) (rest := []) F (c_Engine_begin l D T oE oS oM oC su tr p0 s.heap.size) (j_cV (k := 1) (C := "PageScribe$Engine") hts k_3_61 k_1_9 k_3_58 k_3_59 k_3_60 (by decide +kernel) ⟨Nat.le_of_ble_eq_true rfl, Nat.le_of_ble_eq_true rfl⟩) (j_preV (q0 := 1) (ci := 7) hK hP hD [1] rfl (by decide) rfl rfl (fun _ _ _ _ h => h) (fun _ _ _ => trivial)) rfl rfl hl.1 rfl (lv_room (Nat.le_of_ble_eq_true rfl)) d_Ps_run_27 ⟨Nat.le_of_ble_eq_true rfl, Nat.le_of_ble_eq_true rfl⟩) (fun u1 H locs hw hP hD hS => ?_)
  have hP : va_P D classes [(h0, .inr (10, [.ref oS, .ref oW, .ref oM, .ref oR, .ref oC, .ref oE])), (oR, .inr (5, [.ref oW, .ref st, .ref tx, .int 0, .int 0, .int 0, .int 0, .double 0, .ref gt, .ref bg])), (oE, .inr (7, [.ref oS, .ref oM, .ref oC, .ref su, .ref tr, .int p0, .int 0, .int 0, .int 0, .int 0, .int 0]))] H := hP
  have hD : va_D A [(h0, .inr (10, [.ref oS, .ref oW, .ref oM, .ref oR, .ref oC, .ref oE])), (oR, .inr (5, [.ref oW, .ref st, .ref tx, .int 0, .int 0, .int 0, .int 0, .double 0, .ref gt, .ref bg])), (oE, .inr (7, [.ref oS, .ref oM, .ref oC, .ref su, .ref tr, .int p0, .int 0, .int 0, .int 0, .int 0, .int 0]))] := hD
  refine lv_iconst (v := 0) hx hb d_Ps_run_30 (by decide) ?_
  refine lv_istore_n (lv' := [(2, .int 0), (0, .ref h0), (1, .int p0)]) hx hb d_Ps_run_31 rfl hl (by decide) rfl (fun ls hl => ?_)
  refine lv_iconst (v := 0) hx hb d_Ps_run_32 (by decide) ?_
  refine lv_istore_n (lv' := [(3, .int 0), (2, .int 0), (0, .ref h0), (1, .int p0)]) hx hb d_Ps_run_33 rfl hl (by decide) rfl (fun ls hl => ?_)
  refine lv_iload_n hx hb d_Ps_run_34 rfl (lv_at hl 0 rfl) ?_
  refine lv_bipush (v := 120) hx hb d_Ps_run_35 (by decide) ?_
  refine lv_icmp_ge (tgt := 101) hx hb d_Ps_run_37 (by decide) (fun c9 => absurd c9 (by decide +kernel)) (fun _ => ?_)
  refine lv_iload_n hx hb d_Ps_run_40 rfl (lv_at hl 1 rfl) ?_
  refine lv_if_ne (tgt := 101) hx hb d_Ps_run_41 (by decide) (fun c9 => absurd c9 (by decide +kernel)) (fun _ => ?_)
  refine lv_aload_n hx hb d_Ps_run_44 rfl (lv_at hl 2 rfl) ?_
  refine va_get (D := D) (ci := 10) (v := .ref oR) (C := "PageScribe") (T := F_Ps) (N := 6) hx hb hts i_Ps hown hK hP 0 rfl rfl 3 (by decide) (hts _ k_2_61) (fun _ h9 => h9) rfl d_Ps_run_45 ?_
  refine j_ci (wc := [(oR, .inr (5, [.ref oW, .ref st, .ref tx, .int 0, .int 0, .int 0, .int 0, .double 0, .ref gt, .ref bg]))]) (wr := [(h0, .inr (10, [.ref oS, .ref oW, .ref oM, .ref oR, .ref oC, .ref oE])), (oE, .inr (7, [.ref oS, .ref oM, .ref oC, .ref su, .ref tr, .int p0, .int 0, .int 0, .int 0, .int 0, .int 0]))]) hK hP hD hS hA [1] [0, 2] rfl rfl (by decide) (by decide) (va_runV (As := []) (rest := []) F (c_Reader_findToken l D T oR oW st tx gt bg H.size) (j_cV (k := 0) (C := "PageScribe$Reader") hts k_3_65 k_1_7 k_3_62 k_3_63 k_3_64 (by decide +kernel) ⟨Nat.le_of_ble_eq_true rfl, Nat.le_of_ble_eq_true rfl⟩) (j_preV (q0 := 1) (ci := 5) hK hP hD [1] rfl (by decide) rfl rfl (fun _ _ _ _ h => h) (fun _ _ _ => trivial)) rfl rfl hl.1 rfl (lv_room (Nat.le_of_ble_eq_true rfl)) d_Ps_run_48 ⟨Nat.le_of_ble_eq_true rfl, Nat.le_of_ble_eq_true rfl⟩) (fun rv2 u2 H locs hw hP hD hS => ?_)
  have hP : va_P D classes [(h0, .inr (10, [.ref oS, .ref oW, .ref oM, .ref oR, .ref oC, .ref oE])), (oE, .inr (7, [.ref oS, .ref oM, .ref oC, .ref su, .ref tr, .int p0, .int 0, .int 0, .int 0, .int 0, .int 0])), (oR, .inr (5, [.ref oW, .ref st, .ref tx, .int 0, .int 0, .int 0, .int 0, .double 0, .ref gt, .ref bg]))] H := hP
  have hD : va_D A [(h0, .inr (10, [.ref oS, .ref oW, .ref oM, .ref oR, .ref oC, .ref oE])), (oE, .inr (7, [.ref oS, .ref oM, .ref oC, .ref su, .ref tr, .int p0, .int 0, .int 0, .int 0, .int 0, .int 0])), (oR, .inr (5, [.ref oW, .ref st, .ref tx, .int 0, .int 0, .int 0, .int 0, .double 0, .ref gt, .ref bg]))] := hD
  have hw2 : rv2 = 0 := hw
  refine j_eqi (y := 0) hw2 ?_
  refine lv_if_eq (tgt := 101) hx hb d_Ps_run_51 (by decide) (fun _ => ?_) (fun c9 => absurd c9 (by decide +kernel))
  refine lv_aload_n hx hb d_Ps_run_101 rfl (lv_at hl 2 rfl) ?_
  refine va_get (D := D) (ci := 10) (v := .ref oR) (C := "PageScribe") (T := F_Ps) (N := 6) hx hb hts i_Ps hown hK hP 0 rfl rfl 3 (by decide) (hts _ k_2_61) (fun _ h9 => h9) rfl d_Ps_run_102 ?_
  refine j_cv (wc := [(oR, .inr (5, [.ref oW, .ref st, .ref tx, .int 0, .int 0, .int 0, .int 0, .double 0, .ref gt, .ref bg]))]) (wr := [(h0, .inr (10, [.ref oS, .ref oW, .ref oM, .ref oR, .ref oC, .ref oE])), (oE, .inr (7, [.ref oS, .ref oM, .ref oC, .ref su, .ref tr, .int p0, .int 0, .int 0, .int 0, .int 0, .int 0]))]) hK hP hD hS hA [2] [0, 1] rfl rfl (by decide) (by decide) (va_runV (As := []) (rest := []) F (c_Reader_empty l D T oR oW st tx gt bg H.size) (j_cV (k := 0) (C := "PageScribe$Reader") hts k_6_23 k_1_7 k_6_20 k_6_21 k_6_22 (by decide +kernel) ⟨Nat.le_of_ble_eq_true rfl, Nat.le_of_ble_eq_true rfl⟩) (j_preV (q0 := 2) (ci := 5) hK hP hD [2] rfl (by decide) rfl rfl (fun _ _ _ _ h => h) (fun _ _ _ => trivial)) rfl rfl hl.1 rfl (lv_room (Nat.le_of_ble_eq_true rfl)) d_Ps_run_105 ⟨Nat.le_of_ble_eq_true rfl, Nat.le_of_ble_eq_true rfl⟩) (fun u3 H locs hw hP hD hS => ?_)
  have hP : va_P D classes [(h0, .inr (10, [.ref oS, .ref oW, .ref oM, .ref oR, .ref oC, .ref oE])), (oE, .inr (7, [.ref oS, .ref oM, .ref oC, .ref su, .ref tr, .int p0, .int 0, .int 0, .int 0, .int 0, .int 0])), (oR, .inr (5, [.ref oW, .ref st, .ref tx, .int 0, .int 0, .int 0, .int 0, .double 0, .ref gt, .ref bg]))] H := hP
  have hD : va_D A [(h0, .inr (10, [.ref oS, .ref oW, .ref oM, .ref oR, .ref oC, .ref oE])), (oE, .inr (7, [.ref oS, .ref oM, .ref oC, .ref su, .ref tr, .int p0, .int 0, .int 0, .int 0, .int 0, .int 0])), (oR, .inr (5, [.ref oW, .ref st, .ref tx, .int 0, .int 0, .int 0, .int 0, .double 0, .ref gt, .ref bg]))] := hD
  refine lv_aload_n hx hb d_Ps_run_108 rfl (lv_at hl 2 rfl) ?_
  refine va_get (D := D) (ci := 10) (v := .ref oE) (C := "PageScribe") (T := F_Ps) (N := 6) hx hb hts i_Ps hown hK hP 0 rfl rfl 5 (by decide) (hts _ k_2_63) (fun _ h9 => h9) rfl d_Ps_run_109 ?_
  refine lv_iload_n hx hb d_Ps_run_112 rfl (lv_at hl 1 rfl) ?_
  refine j_cv (wc := [(oE, .inr (7, [.ref oS, .ref oM, .ref oC, .ref su, .ref tr, .int p0, .int 0, .int 0, .int 0, .int 0, .int 0]))]) (wr := [(h0, .inr (10, [.ref oS, .ref oW, .ref oM, .ref oR, .ref oC, .ref oE])), (oR, .inr (5, [.ref oW, .ref st, .ref tx, .int 0, .int 0, .int 0, .int 0, .double 0, .ref gt, .ref bg]))]) hK hP hD hS hA [1] [0, 2] rfl rfl (by decide) (by decide) (va_runV (As := [.int 0]) (rest := []) F (c_Engine_note l D T oE oS oM oC su tr p0 H.size) (j_cV (k := 1) (C := "PageScribe$Engine") hts k_6_14 k_1_9 k_6_24 k_6_12 k_6_13 (by decide +kernel) ⟨Nat.le_of_ble_eq_true rfl, Nat.le_of_ble_eq_true rfl⟩) (j_preV (q0 := 1) (ci := 7) hK hP hD [1] rfl (by decide) rfl rfl (fun _ _ _ _ h => h) (fun _ _ _ => trivial)) rfl rfl hl.1 rfl (lv_room (Nat.le_of_ble_eq_true rfl)) d_Ps_run_113 ⟨Nat.le_of_ble_eq_true rfl, Nat.le_of_ble_eq_true rfl⟩) (fun u4 H locs hw hP hD hS => ?_)
  have hP : va_P D classes [(h0, .inr (10, [.ref oS, .ref oW, .ref oM, .ref oR, .ref oC, .ref oE])), (oR, .inr (5, [.ref oW, .ref st, .ref tx, .int 0, .int 0, .int 0, .int 0, .double 0, .ref gt, .ref bg])), (oE, .inr (7, [.ref oS, .ref oM, .ref oC, .ref su, .ref tr, .int p0, .int 0, .int 0, .int 0, .int 0, .int 0]))] H := hP
  have hD : va_D A [(h0, .inr (10, [.ref oS, .ref oW, .ref oM, .ref oR, .ref oC, .ref oE])), (oR, .inr (5, [.ref oW, .ref st, .ref tx, .int 0, .int 0, .int 0, .int 0, .double 0, .ref gt, .ref bg])), (oE, .inr (7, [.ref oS, .ref oM, .ref oC, .ref su, .ref tr, .int p0, .int 0, .int 0, .int 0, .int 0, .int 0]))] := hD
  refine lv_iload_n hx hb d_Ps_run_116 rfl (lv_at hl 1 rfl) ?_
  have hP9 := hP.sub (ws' := [(h0, .inr (10, [.ref oS, .ref oW, .ref oM, .ref oR, .ref oC, .ref oE])), (oE, .inr (7, [.ref oS, .ref oM, .ref oC, .ref su, .ref tr, .int p0, .int 0, .int 0, .int 0, .int 0, .int 0])), (oR, .inr (5, [.ref oW, .ref st, .ref tx, .int 0, .int 0, .int 0, .int 0, .double 0, .ref gt, .ref bg]))]) [0, 2, 1] rfl
  have hD9 := hD.sub (ws' := [(h0, .inr (10, [.ref oS, .ref oW, .ref oM, .ref oR, .ref oC, .ref oE])), (oE, .inr (7, [.ref oS, .ref oM, .ref oC, .ref su, .ref tr, .int p0, .int 0, .int 0, .int 0, .int 0, .int 0])), (oR, .inr (5, [.ref oW, .ref st, .ref tx, .int 0, .int 0, .int 0, .int 0, .double 0, .ref gt, .ref bg]))]) [0, 2, 1] (by decide) rfl
  refine W.widen (k := 0) (n := 0) (Nat.le_of_ble_eq_true rfl) (Nat.le_of_ble_eq_true rfl) ?_
  exact j_iret F hr hlocks hK hS () rfl hP9 hD9 d_Ps_run_117
theorem d_Row_push_0 : decode prog_8_method_6_code 0 = .ok (.aload_n 0, 1) := by decide +kernel
theorem d_Row_push_1 : decode prog_8_method_6_code 1 = .ok (.getfield 9, 3) := by decide +kernel
theorem d_Row_push_4 : decode prog_8_method_6_code 4 = .ok (.ifCond .lt 15, 3) := by decide +kernel
theorem d_Row_push_7 : decode prog_8_method_6_code 7 = .ok (.aload_n 0, 1) := by decide +kernel
theorem d_Row_push_8 : decode prog_8_method_6_code 8 = .ok (.getfield 9, 3) := by decide +kernel
theorem d_Row_push_11 : decode prog_8_method_6_code 11 = .ok (.aload_n 0, 1) := by decide +kernel
theorem d_Row_push_12 : decode prog_8_method_6_code 12 = .ok (.getfield 15, 3) := by decide +kernel
theorem d_Row_push_15 : decode prog_8_method_6_code 15 = .ok (.arraylength, 1) := by decide +kernel
theorem d_Row_push_16 : decode prog_8_method_6_code 16 = .ok (.if_icmp .lt 5, 3) := by decide +kernel
theorem d_Row_push_21 : decode prog_8_method_6_code 21 = .ok (.aload_n 0, 1) := by decide +kernel
theorem d_Row_push_22 : decode prog_8_method_6_code 22 = .ok (.getfield 15, 3) := by decide +kernel
theorem d_Row_push_25 : decode prog_8_method_6_code 25 = .ok (.aload_n 0, 1) := by decide +kernel
theorem d_Row_push_26 : decode prog_8_method_6_code 26 = .ok (.getfield 9, 3) := by decide +kernel
theorem d_Row_push_29 : decode prog_8_method_6_code 29 = .ok (.iload_n 1, 1) := by decide +kernel
theorem d_Row_push_30 : decode prog_8_method_6_code 30 = .ok (.iastore, 1) := by decide +kernel
theorem d_Row_push_31 : decode prog_8_method_6_code 31 = .ok (.aload_n 0, 1) := by decide +kernel
theorem d_Row_push_32 : decode prog_8_method_6_code 32 = .ok (.getfield 19, 3) := by decide +kernel
theorem d_Row_push_35 : decode prog_8_method_6_code 35 = .ok (.aload_n 0, 1) := by decide +kernel
theorem d_Row_push_36 : decode prog_8_method_6_code 36 = .ok (.getfield 9, 3) := by decide +kernel
theorem d_Row_push_39 : decode prog_8_method_6_code 39 = .ok (.iload_n 2, 1) := by decide +kernel
theorem d_Row_push_40 : decode prog_8_method_6_code 40 = .ok (.iastore, 1) := by decide +kernel
theorem d_Row_push_41 : decode prog_8_method_6_code 41 = .ok (.aload_n 0, 1) := by decide +kernel
theorem d_Row_push_42 : decode prog_8_method_6_code 42 = .ok (.getfield 22, 3) := by decide +kernel
theorem d_Row_push_45 : decode prog_8_method_6_code 45 = .ok (.aload_n 0, 1) := by decide +kernel
theorem d_Row_push_46 : decode prog_8_method_6_code 46 = .ok (.getfield 9, 3) := by decide +kernel
theorem d_Row_push_49 : decode prog_8_method_6_code 49 = .ok (.dload_n 3, 1) := by decide +kernel
theorem d_Row_push_50 : decode prog_8_method_6_code 50 = .ok (.dastore, 1) := by decide +kernel
theorem d_Row_push_51 : decode prog_8_method_6_code 51 = .ok (.aload_n 0, 1) := by decide +kernel
theorem d_Row_push_52 : decode prog_8_method_6_code 52 = .ok (.dup, 1) := by decide +kernel
theorem d_Row_push_53 : decode prog_8_method_6_code 53 = .ok (.getfield 9, 3) := by decide +kernel
theorem d_Row_push_56 : decode prog_8_method_6_code 56 = .ok (.iconst 1, 1) := by decide +kernel
theorem d_Row_push_57 : decode prog_8_method_6_code 57 = .ok (.iadd, 1) := by decide +kernel
theorem d_Row_push_58 : decode prog_8_method_6_code 58 = .ok (.putfield 9, 3) := by decide +kernel
theorem d_Row_push_61 : decode prog_8_method_6_code 61 = .ok (.iconst 0, 1) := by decide +kernel
theorem d_Row_push_62 : decode prog_8_method_6_code 62 = .ok (.ireturn, 1) := by decide +kernel
set_option maxHeartbeats 4000000 in
set_option maxRecDepth 100000 in
theorem c_Row_push (l : Launch) (D : va_G) (T : Nat → ClassId) (oS : Nat) (k1 : Nat) (k2 : Nat) (k3 : Nat) (p0 : Int32) (p1 : Int32) (v0 : UInt64) (sz : Nat) : Met l ⟨"PageScribe$Row", "push", "(IID)I"⟩ (wy ⟨"PageScribe$Row", "push", "(IID)I"⟩ prog_8_method_6_code 5 (some .int)) ({ frames := 0, cells := 0, slots := 0, locals := 0 }) (va_Pc [.ref oS, .int p0, .int p1, .double v0] (Pw D T [(oS, .inr (0, [.ref k1, .ref k2, .ref k3, .int 0])), (k1, .inl (T 0, 40, .inl zI)), (k2, .inl (T 0, 40, .inl zI)), (k3, .inl (T 3, 40, .inr (.inr (.inr (.inl zD)))))] sz E0)) (va_Qi (fun (r : Int32) (u : (Nat → Int32) × (Nat → Int32) × (Nat → UInt64)) => r = 0) (fun u t => Bw D T (va_A [(oS, .inr (0, [.ref k1, .ref k2, .ref k3, .int 0])), (k1, .inl (T 0, 40, .inl zI)), (k2, .inl (T 0, 40, .inl zI)), (k3, .inl (T 3, 40, .inr (.inr (.inr (.inl zD)))))] sz) [(oS, .inr (0, [.ref k1, .ref k2, .ref k3, .int 1])), (k1, .inl (T 0, 40, .inl u.1)), (k2, .inl (T 0, 40, .inl u.2.1)), (k3, .inl (T 3, 40, .inr (.inr (.inr (.inl u.2.2)))))] t) (va_A [(oS, .inr (0, [.ref k1, .ref k2, .ref k3, .int 0])), (k1, .inl (T 0, 40, .inl zI)), (k2, .inl (T 0, 40, .inl zI)), (k3, .inl (T 3, 40, .inr (.inr (.inr (.inl zD)))))] sz)) 0 0 (va_A [(oS, .inr (0, [.ref k1, .ref k2, .ref k3, .int 0])), (k1, .inl (T 0, 40, .inl zI)), (k2, .inl (T 0, 40, .inl zI)), (k3, .inl (T 3, 40, .inr (.inr (.inr (.inl zD)))))] sz) := by
  refine j_met (y := ⟨"PageScribe$Row", "push", "(IID)I"⟩) (b := prog_8_method_6_code) (n := 5) (ret := (some .int)) (av := [.ref oS, .int p0, .int p1, .double v0]) (Qc := fun A => va_Qi (fun (r : Int32) (u : (Nat → Int32) × (Nat → Int32) × (Nat → UInt64)) => r = 0) (fun u t => Bw D T A [(oS, .inr (0, [.ref k1, .ref k2, .ref k3, .int 1])), (k1, .inl (T 0, 40, .inl u.1)), (k2, .inl (T 0, 40, .inl u.2.1)), (k3, .inl (T 3, 40, .inr (.inr (.inr (.inl u.2.2)))))] t) A) (by decide +kernel) (Nat.le_of_ble_eq_true rfl) (fun p e s m args below meth c A ls F hr hlocks hnm hK hP hD hS hA hN hE hl => ?_)
  obtain ⟨hx, hb, hml, hown, hts⟩ := id F
  have hin := hnm
  have hl : lv_has ls 5 [(0, .ref oS), (1, .int p0), (2, .int p1), (3, .double v0)] := hl
  refine lv_aload_n hx hb d_Row_push_0 rfl (lv_at hl 0 rfl) ?_
  refine va_get (D := D) (ci := 0) (v := .int 0) (C := "PageScribe$Stack") (T := F_Stack) (N := 4) hx hb hts i_Stack hown hK hP 0 rfl rfl 3 (by decide) (hts _ k_1_49) (fun _ h9 => h9) rfl d_Row_push_1 ?_
  refine lv_if_lt (tgt := 19) hx hb d_Row_push_4 (by decide) (fun c9 => absurd c9 (by decide +kernel)) (fun _ => ?_)
  refine lv_aload_n hx hb d_Row_push_7 rfl (lv_at hl 0 rfl) ?_
  refine va_get (D := D) (ci := 0) (v := .int 0) (C := "PageScribe$Stack") (T := F_Stack) (N := 4) hx hb hts i_Stack hown hK hP 0 rfl rfl 3 (by decide) (hts _ k_1_49) (fun _ h9 => h9) rfl d_Row_push_8 ?_
  refine lv_aload_n hx hb d_Row_push_11 rfl (lv_at hl 0 rfl) ?_
  refine va_get (D := D) (ci := 0) (v := .ref k1) (C := "PageScribe$Stack") (T := F_Stack) (N := 4) hx hb hts i_Stack hown hK hP 0 rfl rfl 0 (by decide) (hts _ k_1_46) (fun _ h9 => h9) rfl d_Row_push_12 ?_
  refine va_alen (v := 40) hx hb hK hP 1 0 rfl rfl (by decide +kernel) d_Row_push_15 ?_
  refine lv_icmp_lt (tgt := 21) hx hb d_Row_push_16 (by decide) (fun _ => ?_) (fun c9 => absurd c9 (by decide +kernel))
  refine lv_aload_n hx hb d_Row_push_21 rfl (lv_at hl 0 rfl) ?_
  refine va_get (D := D) (ci := 0) (v := .ref k1) (C := "PageScribe$Stack") (T := F_Stack) (N := 4) hx hb hts i_Stack hown hK hP 0 rfl rfl 0 (by decide) (hts _ k_1_46) (fun _ h9 => h9) rfl d_Row_push_22 ?_
  refine lv_aload_n hx hb d_Row_push_25 rfl (lv_at hl 0 rfl) ?_
  refine va_get (D := D) (ci := 0) (v := .int 0) (C := "PageScribe$Stack") (T := F_Stack) (N := 4) hx hb hts i_Stack hown hK hP 0 rfl rfl 3 (by decide) (hts _ k_1_49) (fun _ h9 => h9) rfl d_Row_push_26 ?_
  refine lv_iload_n hx hb d_Row_push_29 rfl (lv_at hl 1 rfl) ?_
  refine j_iast F hK hP hD hS 1 0 rfl rfl (by unfold vp_in; decide +kernel) d_Row_push_30 (fun g1 H locs hP hD hS => ?_)
  have hP : va_P D classes [(oS, .inr (0, [.ref k1, .ref k2, .ref k3, .int 0])), (k1, .inl (T 0, 40, .inl g1)), (k2, .inl (T 0, 40, .inl zI)), (k3, .inl (T 3, 40, .inr (.inr (.inr (.inl zD)))))] H := hP
  have hD : va_D A [(oS, .inr (0, [.ref k1, .ref k2, .ref k3, .int 0])), (k1, .inl (T 0, 40, .inl g1)), (k2, .inl (T 0, 40, .inl zI)), (k3, .inl (T 3, 40, .inr (.inr (.inr (.inl zD)))))] := hD
  refine lv_aload_n hx hb d_Row_push_31 rfl (lv_at hl 0 rfl) ?_
  refine va_get (D := D) (ci := 0) (v := .ref k2) (C := "PageScribe$Stack") (T := F_Stack) (N := 4) hx hb hts i_Stack hown hK hP 0 rfl rfl 1 (by decide) (hts _ k_1_47) (fun _ h9 => h9) rfl d_Row_push_32 ?_
  refine lv_aload_n hx hb d_Row_push_35 rfl (lv_at hl 0 rfl) ?_
  refine va_get (D := D) (ci := 0) (v := .int 0) (C := "PageScribe$Stack") (T := F_Stack) (N := 4) hx hb hts i_Stack hown hK hP 0 rfl rfl 3 (by decide) (hts _ k_1_49) (fun _ h9 => h9) rfl d_Row_push_36 ?_
  refine lv_iload_n hx hb d_Row_push_39 rfl (lv_at hl 2 rfl) ?_
  refine j_iast F hK hP hD hS 2 0 rfl rfl (by unfold vp_in; decide +kernel) d_Row_push_40 (fun g2 H locs hP hD hS => ?_)
  have hP : va_P D classes [(oS, .inr (0, [.ref k1, .ref k2, .ref k3, .int 0])), (k1, .inl (T 0, 40, .inl g1)), (k2, .inl (T 0, 40, .inl g2)), (k3, .inl (T 3, 40, .inr (.inr (.inr (.inl zD)))))] H := hP
  have hD : va_D A [(oS, .inr (0, [.ref k1, .ref k2, .ref k3, .int 0])), (k1, .inl (T 0, 40, .inl g1)), (k2, .inl (T 0, 40, .inl g2)), (k3, .inl (T 3, 40, .inr (.inr (.inr (.inl zD)))))] := hD
  refine lv_aload_n hx hb d_Row_push_41 rfl (lv_at hl 0 rfl) ?_
  refine va_get (D := D) (ci := 0) (v := .ref k3) (C := "PageScribe$Stack") (T := F_Stack) (N := 4) hx hb hts i_Stack hown hK hP 0 rfl rfl 2 (by decide) (hts _ k_1_48) (fun _ h9 => h9) rfl d_Row_push_42 ?_
  refine lv_aload_n hx hb d_Row_push_45 rfl (lv_at hl 0 rfl) ?_
  refine va_get (D := D) (ci := 0) (v := .int 0) (C := "PageScribe$Stack") (T := F_Stack) (N := 4) hx hb hts i_Stack hown hK hP 0 rfl rfl 3 (by decide) (hts _ k_1_49) (fun _ h9 => h9) rfl d_Row_push_46 ?_
  refine lv_dload_n hx hb d_Row_push_49 rfl (lv_at hl 3 rfl) ?_
  refine j_dast F hK hP hD hS 3 3 rfl rfl (by unfold vp_in; decide +kernel) d_Row_push_50 (fun g3 H locs hP hD hS => ?_)
  have hP : va_P D classes [(oS, .inr (0, [.ref k1, .ref k2, .ref k3, .int 0])), (k1, .inl (T 0, 40, .inl g1)), (k2, .inl (T 0, 40, .inl g2)), (k3, .inl (T 3, 40, .inr (.inr (.inr (.inl g3)))))] H := hP
  have hD : va_D A [(oS, .inr (0, [.ref k1, .ref k2, .ref k3, .int 0])), (k1, .inl (T 0, 40, .inl g1)), (k2, .inl (T 0, 40, .inl g2)), (k3, .inl (T 3, 40, .inr (.inr (.inr (.inl g3)))))] := hD
  refine lv_aload_n hx hb d_Row_push_51 rfl (lv_at hl 0 rfl) ?_
  refine lv_dup hx hb d_Row_push_52 rfl ?_
  refine va_get (D := D) (ci := 0) (v := .int 0) (C := "PageScribe$Stack") (T := F_Stack) (N := 4) hx hb hts i_Stack hown hK hP 0 rfl rfl 3 (by decide) (hts _ k_1_49) (fun _ h9 => h9) rfl d_Row_push_53 ?_
  refine lv_iconst (v := 1) hx hb d_Row_push_56 (by decide) ?_
  refine lv_iadd hx hb d_Row_push_57 ?_
  refine j_eqi (y := 1) (by decide +kernel) ?_
  refine va_put (D := D) (ci := 0) (v := .int 1) (ty := .int) (C := "PageScribe$Stack") (T := F_Stack) (N := 4) hx hb hts i_Stack t_Stack t_Stack_ok n_Stack hown hK hP hD hS 0 rfl rfl 3 (by decide) (hts _ k_1_49) (fun _ h9 => h9) rfl (by decide +kernel) rfl rfl (Nat.le_of_ble_eq_true rfl) d_Row_push_58 (fun H locs hP hD hS => ?_)
  have hP : va_P D classes [(oS, .inr (0, [.ref k1, .ref k2, .ref k3, .int 1])), (k1, .inl (T 0, 40, .inl g1)), (k2, .inl (T 0, 40, .inl g2)), (k3, .inl (T 3, 40, .inr (.inr (.inr (.inl g3)))))] H := hP
  have hD : va_D A [(oS, .inr (0, [.ref k1, .ref k2, .ref k3, .int 1])), (k1, .inl (T 0, 40, .inl g1)), (k2, .inl (T 0, 40, .inl g2)), (k3, .inl (T 3, 40, .inr (.inr (.inr (.inl g3)))))] := hD
  refine lv_iconst (v := 0) hx hb d_Row_push_61 (by decide) ?_
  have hP9 := hP.sub (ws' := [(oS, .inr (0, [.ref k1, .ref k2, .ref k3, .int 1])), (k1, .inl (T 0, 40, .inl g1)), (k2, .inl (T 0, 40, .inl g2)), (k3, .inl (T 3, 40, .inr (.inr (.inr (.inl g3)))))]) [0, 1, 2, 3] rfl
  have hD9 := hD.sub (ws' := [(oS, .inr (0, [.ref k1, .ref k2, .ref k3, .int 1])), (k1, .inl (T 0, 40, .inl g1)), (k2, .inl (T 0, 40, .inl g2)), (k3, .inl (T 3, 40, .inr (.inr (.inr (.inl g3)))))]) [0, 1, 2, 3] (by decide) rfl
  refine W.widen (k := 0) (n := 0) (Nat.le_of_ble_eq_true rfl) (Nat.le_of_ble_eq_true rfl) ?_
  exact j_iret F hr hlocks hK hS (g1, g2, g3) rfl hP9 hD9 d_Row_push_62
/-- a double that may be fed -/
def feedOk (v : UInt64) : Prop := ¬ Op.cmpValue (FP.dcmp v 14009883241494872064) .l < 0 ∧ ¬ (0 : Int32) < Op.cmpValue (FP.dcmp v 4786511204640096256) .g
theorem d_Ps_feed_0 : decode prog_1_method_6_code 0 = .ok (.dload_n 1, 1) := by decide +kernel
theorem d_Ps_feed_1 : decode prog_1_method_6_code 1 = .ok (.ldc2_w 113, 3) := by decide +kernel
theorem k_2_97 : Cond.constantDouble "PageScribe" 113 (14009883241494872064 : UInt64) ∈ gw := gw_of (tb_2 (List.mem_of_getElem? (i := 97) (by decide +kernel))) (by decide +kernel)
theorem d_Ps_feed_4 : decode prog_1_method_6_code 4 = .ok (.dcmp .l, 1) := by decide +kernel
theorem d_Ps_feed_5 : decode prog_1_method_6_code 5 = .ok (.ifCond .lt 28, 3) := by decide +kernel
theorem d_Ps_feed_33 : decode prog_1_method_6_code 33 = .ok (.iconst 0, 1) := by decide +kernel
theorem d_Ps_feed_34 : decode prog_1_method_6_code 34 = .ok (.ireturn, 1) := by decide +kernel
theorem d_Ps_feed_8 : decode prog_1_method_6_code 8 = .ok (.dload_n 1, 1) := by decide +kernel
theorem d_Ps_feed_9 : decode prog_1_method_6_code 9 = .ok (.ldc2_w 115, 3) := by decide +kernel
theorem k_2_98 : Cond.constantDouble "PageScribe" 115 (4786511204640096256 : UInt64) ∈ gw := gw_of (tb_2 (List.mem_of_getElem? (i := 98) (by decide +kernel))) (by decide +kernel)
theorem d_Ps_feed_12 : decode prog_1_method_6_code 12 = .ok (.dcmp .g, 1) := by decide +kernel
theorem d_Ps_feed_13 : decode prog_1_method_6_code 13 = .ok (.ifCond .gt 20, 3) := by decide +kernel
theorem d_Ps_feed_16 : decode prog_1_method_6_code 16 = .ok (.aload_n 0, 1) := by decide +kernel
theorem d_Ps_feed_17 : decode prog_1_method_6_code 17 = .ok (.getfield 12, 3) := by decide +kernel
theorem d_Ps_feed_20 : decode prog_1_method_6_code 20 = .ok (.iconst 1, 1) := by decide +kernel
theorem d_Ps_feed_21 : decode prog_1_method_6_code 21 = .ok (.iconst 0, 1) := by decide +kernel
theorem d_Ps_feed_22 : decode prog_1_method_6_code 22 = .ok (.dload_n 1, 1) := by decide +kernel
theorem d_Ps_feed_23 : decode prog_1_method_6_code 23 = .ok (.invokevirtual 117, 3) := by decide +kernel
theorem k_2_104 : Cond.code ⟨"PageScribe$Row", "push", "(IID)I"⟩ prog_8_method_6_code 5 (some .int) ∈ gw := gw_of (tb_2 (List.mem_of_getElem? (i := 104) (by decide +kernel))) (by decide +kernel)
theorem k_2_99 : Cond.methodLink "PageScribe" 117 ⟨"PageScribe$Stack", "push", "(IID)I"⟩ ∈ gw := gw_of (tb_2 (List.mem_of_getElem? (i := 99) (by decide +kernel))) (by decide +kernel)
theorem k_2_100 : Cond.sameMethod "PageScribe$Stack" "PageScribe$Row" "push" "(IID)I" ∈ gw := gw_of (tb_2 (List.mem_of_getElem? (i := 100) (by decide +kernel))) (by decide +kernel)
theorem k_2_102 : Cond.selects "PageScribe$Stack" ⟨"PageScribe$Stack", "push", "(IID)I"⟩ ⟨"PageScribe$Row", "push", "(IID)I"⟩ ∈ gw := gw_of (tb_2 (List.mem_of_getElem? (i := 102) (by decide +kernel))) (by decide +kernel)
theorem k_2_103 : Cond.instanceMethod ⟨"PageScribe$Row", "push", "(IID)I"⟩ ∈ gw := gw_of (tb_2 (List.mem_of_getElem? (i := 103) (by decide +kernel))) (by decide +kernel)
theorem d_Ps_feed_26 : decode prog_1_method_6_code 26 = .ok (.ifCond .ne 7, 3) := by decide +kernel
theorem d_Ps_feed_29 : decode prog_1_method_6_code 29 = .ok (.iconst 1, 1) := by decide +kernel
theorem d_Ps_feed_30 : decode prog_1_method_6_code 30 = .ok (.goto 4, 3) := by decide +kernel
set_option maxHeartbeats 4000000 in
set_option maxRecDepth 100000 in
theorem c_Ps_feed (l : Launch) (D : va_G) (T : Nat → ClassId) (h0 : Nat) (oS : Nat) (oW : Nat) (oM : Nat) (oR : Nat) (oC : Nat) (oE : Nat) (k1 : Nat) (k2 : Nat) (k3 : Nat) (v0 : UInt64) (sz : Nat) : Met l ⟨"PageScribe", "feed", "(D)Z"⟩ (wy ⟨"PageScribe", "feed", "(D)Z"⟩ prog_1_method_6_code 3 (some .boolean)) ({ frames := 1, cells := 0, slots := 0, locals := 70 }) (va_Pc [.ref h0, .double v0] (Pw D T [(h0, .inr (10, [.ref oS, .ref oW, .ref oM, .ref oR, .ref oC, .ref oE])), (oS, .inr (0, [.ref k1, .ref k2, .ref k3, .int 0])), (k1, .inl (T 0, 40, .inl zI)), (k2, .inl (T 0, 40, .inl zI)), (k3, .inl (T 3, 40, .inr (.inr (.inr (.inl zD)))))] sz E0)) (va_Qi (fun (r : Int32) (u : Unit) => (r = 1 ∧ feedOk v0) ∨ (r = 0 ∧ ¬ feedOk v0)) (fun u t => Bw D T (va_A [(h0, .inr (10, [.ref oS, .ref oW, .ref oM, .ref oR, .ref oC, .ref oE])), (oS, .inr (0, [.ref k1, .ref k2, .ref k3, .int 0])), (k1, .inl (T 0, 40, .inl zI)), (k2, .inl (T 0, 40, .inl zI)), (k3, .inl (T 3, 40, .inr (.inr (.inr (.inl zD)))))] sz) [(h0, .inr (10, [.ref oS, .ref oW, .ref oM, .ref oR, .ref oC, .ref oE]))] t) (va_A [(h0, .inr (10, [.ref oS, .ref oW, .ref oM, .ref oR, .ref oC, .ref oE])), (oS, .inr (0, [.ref k1, .ref k2, .ref k3, .int 0])), (k1, .inl (T 0, 40, .inl zI)), (k2, .inl (T 0, 40, .inl zI)), (k3, .inl (T 3, 40, .inr (.inr (.inr (.inl zD)))))] sz)) 0 0 (va_A [(h0, .inr (10, [.ref oS, .ref oW, .ref oM, .ref oR, .ref oC, .ref oE])), (oS, .inr (0, [.ref k1, .ref k2, .ref k3, .int 0])), (k1, .inl (T 0, 40, .inl zI)), (k2, .inl (T 0, 40, .inl zI)), (k3, .inl (T 3, 40, .inr (.inr (.inr (.inl zD)))))] sz) := by
  refine j_met (y := ⟨"PageScribe", "feed", "(D)Z"⟩) (b := prog_1_method_6_code) (n := 3) (ret := (some .boolean)) (av := [.ref h0, .double v0]) (Qc := fun A => va_Qi (fun (r : Int32) (u : Unit) => (r = 1 ∧ feedOk v0) ∨ (r = 0 ∧ ¬ feedOk v0)) (fun u t => Bw D T A [(h0, .inr (10, [.ref oS, .ref oW, .ref oM, .ref oR, .ref oC, .ref oE]))] t) A) (by decide +kernel) (Nat.le_of_ble_eq_true rfl) (fun p e s m args below meth c A ls F hr hlocks hnm hK hP hD hS hA hN hE hl => ?_)
  obtain ⟨hx, hb, hml, hown, hts⟩ := id F
  have hin := hnm
  have hl : lv_has ls 3 [(0, .ref h0), (1, .double v0)] := hl
  refine lv_dload_n hx hb d_Ps_feed_0 rfl (lv_at hl 1 rfl) ?_
  refine lv_ldc2d (v := 14009883241494872064) hx hb hown (hts _ k_2_97) d_Ps_feed_1 ?_
  refine lv_dcmp hx hb d_Ps_feed_4 ?_
  refine lv_topi (fun x1 ex1 => ?_)
  refine lv_if_lt (tgt := 33) hx hb d_Ps_feed_5 (by decide) (fun c_5 => ?_) (fun c_5 => ?_)
  · refine lv_iconst (v := 0) hx hb d_Ps_feed_33 (by decide) ?_
    have hP9 := hP.sub (ws' := [(h0, .inr (10, [.ref oS, .ref oW, .ref oM, .ref oR, .ref oC, .ref oE]))]) [0] rfl
    have hD9 := hD.sub (ws' := [(h0, .inr (10, [.ref oS, .ref oW, .ref oM, .ref oR, .ref oC, .ref oE]))]) [0] (by decide) rfl
    refine W.widen (k := 0) (n := 0) (Nat.le_of_ble_eq_true rfl) (Nat.le_of_ble_eq_true rfl) ?_
    exact j_zret F hr rfl hlocks hK hS () (by first | exact Or.inl ⟨rfl, ⟨ex1 ▸ c_5, ex2 ▸ c_13⟩⟩ | exact Or.inr ⟨rfl, fun h => h.2 (ex2 ▸ c_13)⟩ | exact Or.inr ⟨rfl, fun h => h.1 (ex1 ▸ c_5)⟩) hP9 hD9 d_Ps_feed_34
  · refine lv_dload_n hx hb d_Ps_feed_8 rfl (lv_at hl 1 rfl) ?_
    refine lv_ldc2d (v := 4786511204640096256) hx hb hown (hts _ k_2_98) d_Ps_feed_9 ?_
    refine lv_dcmp hx hb d_Ps_feed_12 ?_
    refine lv_topi (fun x2 ex2 => ?_)
    refine lv_if_gt (tgt := 33) hx hb d_Ps_feed_13 (by decide) (fun c_13 => ?_) (fun c_13 => ?_)
    · refine lv_iconst (v := 0) hx hb d_Ps_feed_33 (by decide) ?_
      have hP9 := hP.sub (ws' := [(h0, .inr (10, [.ref oS, .ref oW, .ref oM, .ref oR, .ref oC, .ref oE]))]) [0] rfl
      have hD9 := hD.sub (ws' := [(h0, .inr (10, [.ref oS, .ref oW, .ref oM, .ref oR, .ref oC, .ref oE]))]) [0] (by decide) rfl
      refine W.widen (k := 0) (n := 0) (Nat.le_of_ble_eq_true rfl) (Nat.le_of_ble_eq_true rfl) ?_
      exact j_zret F hr rfl hlocks hK hS () (by first | exact Or.inl ⟨rfl, ⟨ex1 ▸ c_5, ex2 ▸ c_13⟩⟩ | exact Or.inr ⟨rfl, fun h => h.2 (ex2 ▸ c_13)⟩ | exact Or.inr ⟨rfl, fun h => h.1 (ex1 ▸ c_5)⟩) hP9 hD9 d_Ps_feed_34
    · refine lv_aload_n hx hb d_Ps_feed_16 rfl (lv_at hl 0 rfl) ?_
      refine va_get (D := D) (ci := 10) (v := .ref oS) (C := "PageScribe") (T := F_Ps) (N := 6) hx hb hts i_Ps hown hK hP 0 rfl rfl 0 (by decide) (hts _ k_2_58) (fun _ h9 => h9) rfl d_Ps_feed_17 ?_
      refine lv_iconst (v := 1) hx hb d_Ps_feed_20 (by decide) ?_
      refine lv_iconst (v := 0) hx hb d_Ps_feed_21 (by decide) ?_
      refine lv_dload_n hx hb d_Ps_feed_22 rfl (lv_at hl 1 rfl) ?_
      refine j_ci (wc := [(oS, .inr (0, [.ref k1, .ref k2, .ref k3, .int 0])), (k1, .inl (T 0, 40, .inl zI)), (k2, .inl (T 0, 40, .inl zI)), (k3, .inl (T 3, 40, .inr (.inr (.inr (.inl zD)))))]) (wr := [(h0, .inr (10, [.ref oS, .ref oW, .ref oM, .ref oR, .ref oC, .ref oE]))]) hK hP hD hS hA [1, 2, 3, 4] [0] rfl rfl (by decide) (by decide) (va_runU (As := [.int 1, .int 0, .double v0]) (rest := []) F (c_Row_push l D T oS k1 k2 k3 1 0 v0 s.heap.size) (j_cU (k := 3) (C := "PageScribe$Stack") (owner := "PageScribe$Row") (x := ⟨"PageScribe$Stack", "push", "(IID)I"⟩) hts k_2_104 k_2_99 k_2_100 k_2_102 k_2_103 k_1_2 rfl (by decide +kernel) ⟨Nat.le_of_ble_eq_true rfl, Nat.le_of_ble_eq_true rfl⟩) (j_preV (q0 := 1) (ci := 0) hK hP hD [1, 2, 3, 4] rfl (by decide) rfl rfl (fun _ _ _ _ h => h) (fun _ _ _ => trivial)) rfl rfl hl.1 rfl (lv_room (Nat.le_of_ble_eq_true rfl)) d_Ps_feed_23 ⟨Nat.le_of_ble_eq_true rfl, Nat.le_of_ble_eq_true rfl⟩) (fun rv1 u1 H locs hw hP hD hS => ?_)
      obtain ⟨g1_1, g2_1, g3_1⟩ := u1
      have hP : va_P D classes [(h0, .inr (10, [.ref oS, .ref oW, .ref oM, .ref oR, .ref oC, .ref oE])), (oS, .inr (0, [.ref k1, .ref k2, .ref k3, .int 1])), (k1, .inl (T 0, 40, .inl g1_1)), (k2, .inl (T 0, 40, .inl g2_1)), (k3, .inl (T 3, 40, .inr (.inr (.inr (.inl g3_1)))))] H := hP
      have hD : va_D A [(h0, .inr (10, [.ref oS, .ref oW, .ref oM, .ref oR, .ref oC, .ref oE])), (oS, .inr (0, [.ref k1, .ref k2, .ref k3, .int 1])), (k1, .inl (T 0, 40, .inl g1_1)), (k2, .inl (T 0, 40, .inl g2_1)), (k3, .inl (T 3, 40, .inr (.inr (.inr (.inl g3_1)))))] := hD
      have hw1 : rv1 = 0 := hw
      refine j_eqi (y := 0) hw1 ?_
      refine lv_if_ne (tgt := 33) hx hb d_Ps_feed_26 (by decide) (fun c9 => absurd c9 (by decide +kernel)) (fun _ => ?_)
      refine lv_iconst (v := 1) hx hb d_Ps_feed_29 (by decide) ?_
      refine lv_goto (tgt := 34) hx hb d_Ps_feed_30 (by decide) ?_
      have hP9 := hP.sub (ws' := [(h0, .inr (10, [.ref oS, .ref oW, .ref oM, .ref oR, .ref oC, .ref oE]))]) [0] rfl
      have hD9 := hD.sub (ws' := [(h0, .inr (10, [.ref oS, .ref oW, .ref oM, .ref oR, .ref oC, .ref oE]))]) [0] (by decide) rfl
      refine W.widen (k := 0) (n := 0) (Nat.le_of_ble_eq_true rfl) (Nat.le_of_ble_eq_true rfl) ?_
      exact j_zret F hr rfl hlocks hK hS () (by first | exact Or.inl ⟨rfl, ⟨ex1 ▸ c_5, ex2 ▸ c_13⟩⟩ | exact Or.inr ⟨rfl, fun h => h.2 (ex2 ▸ c_13)⟩ | exact Or.inr ⟨rfl, fun h => h.1 (ex1 ▸ c_5)⟩) hP9 hD9 d_Ps_feed_34
/-- a character of the text, or none -/
def okB (b : Int32) : Prop := b = 0 ∨ (¬ b < 32 ∧ ¬ 126 < b)
def shA : Nat → Int32
  | 0 => 56
  | 1 => 48
  | 2 => 40
  | 3 => 32
  | 4 => 24
  | 5 => 16
  | 6 => 8
  | 7 => 0
  | _ => -8
theorem shA_s : ∀ j, j < 8 → shA j + Int32.ofInt (-8) = shA (j + 1) := by decide +kernel
theorem shA_n : ∀ j, j < 8 → ¬ shA j < 0 := by decide +kernel
theorem shA_8 : shA 8 < 0 := by decide +kernel
/-- the byte j of eight, from the highest -/
def byA (x : Int64) (j : Nat) : Int32 := (x.toUInt64 >>> ((shA j).toInt64.toUInt64 &&& Int64.toUInt64 63)).toInt64.toInt32 &&& 255
def okW (x : Int64) : Prop := ∀ i, i < 8 → okB (byA x i)
theorem shA_lt {j : Nat} (h : j ≤ 8) (h2 : ¬ shA j < 0) : j < 8 := by
  rcases Nat.lt_or_ge j 8 with q | q
  · exact q
  · exact absurd (by rw [show j = 8 by omega]; exact shA_8) h2
theorem shA_ge {j : Nat} (h : j ≤ 8) (h2 : shA j < 0) : j = 8 := by
  rcases Nat.lt_or_ge j 8 with q | q
  · exact absurd h2 (shA_n j q)
  · omega
theorem d_Reader_append_0 : decode prog_7_method_2_code 0 = .ok (.iconst 0, 1) := by decide +kernel
theorem d_Reader_append_1 : decode prog_7_method_2_code 1 = .ok (.istore_n 3, 1) := by decide +kernel
theorem d_Reader_append_2 : decode prog_7_method_2_code 2 = .ok (.bipush 56, 2) := by decide +kernel
theorem d_Reader_append_4 : decode prog_7_method_2_code 4 = .ok (.istore 4, 2) := by decide +kernel
theorem d_Reader_append_6 : decode prog_7_method_2_code 6 = .ok (.iload 4, 2) := by decide +kernel
theorem d_Reader_append_8 : decode prog_7_method_2_code 8 = .ok (.ifCond .lt 54, 3) := by decide +kernel
theorem d_Reader_append_62 : decode prog_7_method_2_code 62 = .ok (.aload_n 0, 1) := by decide +kernel
theorem d_Reader_append_63 : decode prog_7_method_2_code 63 = .ok (.getfield 15, 3) := by decide +kernel
theorem d_Reader_append_66 : decode prog_7_method_2_code 66 = .ok (.iload_n 3, 1) := by decide +kernel
theorem d_Reader_append_67 : decode prog_7_method_2_code 67 = .ok (.iadd, 1) := by decide +kernel
theorem d_Reader_append_68 : decode prog_7_method_2_code 68 = .ok (.bipush 120, 2) := by decide +kernel
theorem d_Reader_append_70 : decode prog_7_method_2_code 70 = .ok (.if_icmp .le 5, 3) := by decide +kernel
theorem d_Reader_append_75 : decode prog_7_method_2_code 75 = .ok (.bipush 56, 2) := by decide +kernel
theorem d_Reader_append_77 : decode prog_7_method_2_code 77 = .ok (.istore 4, 2) := by decide +kernel
theorem d_Reader_append_79 : decode prog_7_method_2_code 79 = .ok (.iload 4, 2) := by decide +kernel
theorem d_Reader_append_81 : decode prog_7_method_2_code 81 = .ok (.ifCond .lt 56, 3) := by decide +kernel
theorem d_Reader_append_137 : decode prog_7_method_2_code 137 = .ok (.iconst 1, 1) := by decide +kernel
theorem d_Reader_append_138 : decode prog_7_method_2_code 138 = .ok (.ireturn, 1) := by decide +kernel
theorem d_Reader_append_84 : decode prog_7_method_2_code 84 = .ok (.lload_n 1, 1) := by decide +kernel
theorem d_Reader_append_85 : decode prog_7_method_2_code 85 = .ok (.iload 4, 2) := by decide +kernel
theorem d_Reader_append_87 : decode prog_7_method_2_code 87 = .ok (.lushr, 1) := by decide +kernel
theorem d_Reader_append_88 : decode prog_7_method_2_code 88 = .ok (.l2i, 1) := by decide +kernel
theorem d_Reader_append_89 : decode prog_7_method_2_code 89 = .ok (.sipush 255, 3) := by decide +kernel
theorem d_Reader_append_92 : decode prog_7_method_2_code 92 = .ok (.iand, 1) := by decide +kernel
theorem d_Reader_append_93 : decode prog_7_method_2_code 93 = .ok (.istore 5, 2) := by decide +kernel
theorem d_Reader_append_95 : decode prog_7_method_2_code 95 = .ok (.iload 5, 2) := by decide +kernel
theorem d_Reader_append_97 : decode prog_7_method_2_code 97 = .ok (.ifCond .eq 34, 3) := by decide +kernel
theorem d_Reader_append_131 : decode prog_7_method_2_code 131 = .ok (.iinc 4 (-8), 3) := by decide +kernel
theorem d_Reader_append_134 : decode prog_7_method_2_code 134 = .ok (.goto (-55), 3) := by decide +kernel
theorem d_Reader_append_100 : decode prog_7_method_2_code 100 = .ok (.aload_n 0, 1) := by decide +kernel
theorem d_Reader_append_101 : decode prog_7_method_2_code 101 = .ok (.getfield 15, 3) := by decide +kernel
theorem d_Reader_append_104 : decode prog_7_method_2_code 104 = .ok (.bipush 120, 2) := by decide +kernel
theorem d_Reader_append_106 : decode prog_7_method_2_code 106 = .ok (.if_icmp .ge 25, 3) := by decide +kernel
theorem d_Reader_append_109 : decode prog_7_method_2_code 109 = .ok (.aload_n 0, 1) := by decide +kernel
theorem d_Reader_append_110 : decode prog_7_method_2_code 110 = .ok (.getfield 9, 3) := by decide +kernel
theorem d_Reader_append_113 : decode prog_7_method_2_code 113 = .ok (.aload_n 0, 1) := by decide +kernel
theorem d_Reader_append_114 : decode prog_7_method_2_code 114 = .ok (.getfield 15, 3) := by decide +kernel
theorem d_Reader_append_117 : decode prog_7_method_2_code 117 = .ok (.iload 5, 2) := by decide +kernel
theorem d_Reader_append_119 : decode prog_7_method_2_code 119 = .ok (.i2c, 1) := by decide +kernel
theorem d_Reader_append_120 : decode prog_7_method_2_code 120 = .ok (.castore, 1) := by decide +kernel
theorem d_Reader_append_121 : decode prog_7_method_2_code 121 = .ok (.aload_n 0, 1) := by decide +kernel
theorem d_Reader_append_122 : decode prog_7_method_2_code 122 = .ok (.dup, 1) := by decide +kernel
theorem d_Reader_append_123 : decode prog_7_method_2_code 123 = .ok (.getfield 15, 3) := by decide +kernel
theorem d_Reader_append_126 : decode prog_7_method_2_code 126 = .ok (.iconst 1, 1) := by decide +kernel
theorem d_Reader_append_127 : decode prog_7_method_2_code 127 = .ok (.iadd, 1) := by decide +kernel
theorem d_Reader_append_128 : decode prog_7_method_2_code 128 = .ok (.putfield 15, 3) := by decide +kernel
theorem d_Reader_append_11 : decode prog_7_method_2_code 11 = .ok (.lload_n 1, 1) := by decide +kernel
theorem d_Reader_append_12 : decode prog_7_method_2_code 12 = .ok (.iload 4, 2) := by decide +kernel
theorem d_Reader_append_14 : decode prog_7_method_2_code 14 = .ok (.lushr, 1) := by decide +kernel
theorem d_Reader_append_15 : decode prog_7_method_2_code 15 = .ok (.l2i, 1) := by decide +kernel
theorem d_Reader_append_16 : decode prog_7_method_2_code 16 = .ok (.sipush 255, 3) := by decide +kernel
theorem d_Reader_append_19 : decode prog_7_method_2_code 19 = .ok (.iand, 1) := by decide +kernel
theorem d_Reader_append_20 : decode prog_7_method_2_code 20 = .ok (.istore 5, 2) := by decide +kernel
theorem d_Reader_append_43 : decode prog_7_method_2_code 43 = .ok (.iload_n 3, 1) := by decide +kernel
theorem d_Reader_append_44 : decode prog_7_method_2_code 44 = .ok (.iload 5, 2) := by decide +kernel
theorem d_Reader_append_46 : decode prog_7_method_2_code 46 = .ok (.ifCond .ne 7, 3) := by decide +kernel
theorem d_Reader_append_53 : decode prog_7_method_2_code 53 = .ok (.iconst 1, 1) := by decide +kernel
theorem d_Reader_append_54 : decode prog_7_method_2_code 54 = .ok (.iadd, 1) := by decide +kernel
theorem d_Reader_append_55 : decode prog_7_method_2_code 55 = .ok (.istore_n 3, 1) := by decide +kernel
theorem d_Reader_append_56 : decode prog_7_method_2_code 56 = .ok (.iinc 4 (-8), 3) := by decide +kernel
theorem d_Reader_append_59 : decode prog_7_method_2_code 59 = .ok (.goto (-53), 3) := by decide +kernel
theorem d_Reader_append_49 : decode prog_7_method_2_code 49 = .ok (.iconst 0, 1) := by decide +kernel
theorem d_Reader_append_50 : decode prog_7_method_2_code 50 = .ok (.goto 4, 3) := by decide +kernel
theorem d_Reader_append_22 : decode prog_7_method_2_code 22 = .ok (.iload 5, 2) := by decide +kernel
theorem d_Reader_append_24 : decode prog_7_method_2_code 24 = .ok (.ifCond .eq 19, 3) := by decide +kernel
theorem d_Reader_append_27 : decode prog_7_method_2_code 27 = .ok (.iload 5, 2) := by decide +kernel
theorem d_Reader_append_29 : decode prog_7_method_2_code 29 = .ok (.bipush 32, 2) := by decide +kernel
theorem d_Reader_append_31 : decode prog_7_method_2_code 31 = .ok (.if_icmp .lt 10, 3) := by decide +kernel
theorem d_Reader_append_41 : decode prog_7_method_2_code 41 = .ok (.iconst 0, 1) := by decide +kernel
theorem d_Reader_append_42 : decode prog_7_method_2_code 42 = .ok (.ireturn, 1) := by decide +kernel
theorem d_Reader_append_34 : decode prog_7_method_2_code 34 = .ok (.iload 5, 2) := by decide +kernel
theorem d_Reader_append_36 : decode prog_7_method_2_code 36 = .ok (.bipush 126, 2) := by decide +kernel
theorem d_Reader_append_38 : decode prog_7_method_2_code 38 = .ok (.if_icmp .le 5, 3) := by decide +kernel
set_option maxHeartbeats 4000000 in
set_option maxRecDepth 100000 in
theorem c_Reader_append (l : Launch) (D : va_G) (T : Nat → ClassId) (oR : Nat) (oW : Nat) (st : Nat) (tx : Nat) (gt : Nat) (bg : Nat) (v0 : Int64) (sz : Nat) : Met l ⟨"PageScribe$Reader", "append", "(J)Z"⟩ (wy ⟨"PageScribe$Reader", "append", "(J)Z"⟩ prog_7_method_2_code 6 (some .boolean)) ({ frames := 0, cells := 0, slots := 0, locals := 0 }) (va_Pc [.ref oR, .long v0] (Pw D T [(oR, .inr (5, [.ref oW, .ref st, .ref tx, .int 0, .int 0, .int 0, .int 0, .double 0, .ref gt, .ref bg])), (tx, .inl (T 2, 120, .inl zI))] sz E0)) (va_Qi (fun (r : Int32) (u : Unit) => (r = 1 ∧ okW v0) ∨ (r = 0 ∧ ¬ okW v0)) (fun u t => Bw D T (va_A [(oR, .inr (5, [.ref oW, .ref st, .ref tx, .int 0, .int 0, .int 0, .int 0, .double 0, .ref gt, .ref bg])), (tx, .inl (T 2, 120, .inl zI))] sz) [] t) (va_A [(oR, .inr (5, [.ref oW, .ref st, .ref tx, .int 0, .int 0, .int 0, .int 0, .double 0, .ref gt, .ref bg])), (tx, .inl (T 2, 120, .inl zI))] sz)) 0 0 (va_A [(oR, .inr (5, [.ref oW, .ref st, .ref tx, .int 0, .int 0, .int 0, .int 0, .double 0, .ref gt, .ref bg])), (tx, .inl (T 2, 120, .inl zI))] sz) := by
  refine j_met (y := ⟨"PageScribe$Reader", "append", "(J)Z"⟩) (b := prog_7_method_2_code) (n := 6) (ret := (some .boolean)) (av := [.ref oR, .long v0]) (Qc := fun A => va_Qi (fun (r : Int32) (u : Unit) => (r = 1 ∧ okW v0) ∨ (r = 0 ∧ ¬ okW v0)) (fun u t => Bw D T A [] t) A) (by decide +kernel) (Nat.le_of_ble_eq_true rfl) (fun p e s m args below meth c A ls F hr hlocks hnm hK hP hD hS hA hN hE hl => ?_)
  obtain ⟨hx, hb, hml, hown, hts⟩ := id F
  have hin := hnm
  have hl : lv_has ls 6 [(0, .ref oR), (1, .long v0)] := hl
  refine lv_iconst (v := 0) hx hb d_Reader_append_0 (by decide) ?_
  refine lv_istore_n (lv' := [(3, .int 0), (0, .ref oR), (1, .long v0)]) hx hb d_Reader_append_1 rfl hl (by decide) rfl (fun ls hl => ?_)
  refine lv_bipush (v := 56) hx hb d_Reader_append_2 (by decide) ?_
  refine lv_istore (lv' := [(4, .int 56), (3, .int 0), (0, .ref oR), (1, .long v0)]) hx hb d_Reader_append_4 hl (by decide) rfl (fun ls hl => ?_)
  refine j_loop (α := Nat × Nat) (fun k x H locs ls => (x.1 + k = 8 ∧ x.2 ≤ x.1 ∧ ∀ i, i < x.1 → okB (byA v0 i)) ∧ va_P D classes [(oR, .inr (5, [.ref oW, .ref st, .ref tx, .int 0, .int 0, .int 0, .int 0, .double 0, .ref gt, .ref bg])), (tx, .inl (T 2, 120, .inl zI))] H ∧ va_D A [(oR, .inr (5, [.ref oW, .ref st, .ref tx, .int 0, .int 0, .int 0, .int 0, .double 0, .ref gt, .ref bg])), (tx, .inl (T 2, 120, .inl zI))] ∧ va_S A s.heap H locs ∧ lv_has ls 6 [(0, .ref oR), (1, .long v0), (3, .int (nI x.2)), (4, .int (shA x.1))]) (fun _ _ ls => F0 m 6 ls []) (fun k x H locs ls hI ih => ?_) 8 (0, 0) _ _ _ ⟨⟨(by dsimp only <;> omega), (by dsimp only <;> omega), fun i hi => absurd hi (Nat.not_lt_zero i)⟩, hP.sub [0, 1] rfl, hD.sub [0, 1] (by decide) rfl, hS, lv_sub hl [2, 3, 1, 0] rfl⟩
  obtain ⟨j, t⟩ := x
  obtain ⟨⟨hj1, hj2, hj3⟩, hP, hD, hS, hl⟩ := hI
  dsimp only at hj1 hj2 hj3
  have hP : va_P D classes [(oR, .inr (5, [.ref oW, .ref st, .ref tx, .int 0, .int 0, .int 0, .int 0, .double 0, .ref gt, .ref bg])), (tx, .inl (T 2, 120, .inl zI))] H := hP
  have hD : va_D A [(oR, .inr (5, [.ref oW, .ref st, .ref tx, .int 0, .int 0, .int 0, .int 0, .double 0, .ref gt, .ref bg])), (tx, .inl (T 2, 120, .inl zI))] := hD
  have hl : lv_has ls 6 [(0, .ref oR), (1, .long v0), (3, .int (nI t)), (4, .int (shA j))] := hl
  refine lv_iload hx hb d_Reader_append_6 (lv_at hl 3 rfl) ?_
  refine lv_if_lt (tgt := 62) hx hb d_Reader_append_8 (by decide) (fun c_8 => ?_) (fun c_8 => ?_)
  · have hj : j = 8 := shA_ge (by omega) c_8
    subst hj
    have hall : okW v0 := hj3
    refine lv_aload_n hx hb d_Reader_append_62 rfl (lv_at hl 0 rfl) ?_
    refine va_get (D := D) (ci := 5) (v := .int 0) (C := "PageScribe$Reader") (T := F_Reader) (N := 10) hx hb hts i_Reader hown hK hP 0 rfl rfl 3 (by decide) (hts _ k_1_169) (fun _ h9 => h9) rfl d_Reader_append_63 ?_
    refine lv_iload_n hx hb d_Reader_append_66 rfl (lv_at hl 2 rfl) ?_
    refine lv_iadd hx hb d_Reader_append_67 ?_
    refine j_eqi (y := (nI t)) (by rw [← nI_0, nI_add, Nat.zero_add]) ?_
    refine lv_bipush (v := 120) hx hb d_Reader_append_68 (by decide) ?_
    refine lv_icmp_le (tgt := 75) hx hb d_Reader_append_70 (by decide) (fun c_70 => ?_) (fun c_70 => absurd c_70 (fun q => q (show nI t ≤ nI 120 from nI_le (by omega) (by omega))))
    refine lv_bipush (v := 56) hx hb d_Reader_append_75 (by decide) ?_
    refine lv_istore (lv' := [(4, .int 56), (0, .ref oR), (1, .long v0), (3, .int (nI t))]) hx hb d_Reader_append_77 hl (by decide) rfl (fun ls hl => ?_)
    refine j_loop (α := Nat × Nat × (Nat → Int32)) (fun k x H locs ls => (x.1 + k = 8 ∧ x.2.1 ≤ x.1) ∧ va_P D classes [(oR, .inr (5, [.ref oW, .ref st, .ref tx, .int (nI x.2.1), .int 0, .int 0, .int 0, .double 0, .ref gt, .ref bg])), (tx, .inl (T 2, 120, .inl x.2.2))] H ∧ va_D A [(oR, .inr (5, [.ref oW, .ref st, .ref tx, .int (nI x.2.1), .int 0, .int 0, .int 0, .double 0, .ref gt, .ref bg])), (tx, .inl (T 2, 120, .inl x.2.2))] ∧ va_S A s.heap H locs ∧ lv_has ls 6 [(0, .ref oR), (1, .long v0), (4, .int (shA x.1))]) (fun _ _ ls => F0 m 79 ls []) (fun k x H locs ls hI ih => ?_) 8 (0, 0, zI) _ _ _ ⟨⟨(by dsimp only <;> omega), (by dsimp only <;> omega)⟩, hP.sub [0, 1] rfl, hD.sub [0, 1] (by decide) rfl, hS, lv_sub hl [1, 2, 0] rfl⟩
    obtain ⟨j, t, g⟩ := x
    obtain ⟨⟨hj1, hj2⟩, hP, hD, hS, hl⟩ := hI
    dsimp only at hj1 hj2
    have hP : va_P D classes [(oR, .inr (5, [.ref oW, .ref st, .ref tx, .int (nI t), .int 0, .int 0, .int 0, .double 0, .ref gt, .ref bg])), (tx, .inl (T 2, 120, .inl g))] H := hP
    have hD : va_D A [(oR, .inr (5, [.ref oW, .ref st, .ref tx, .int (nI t), .int 0, .int 0, .int 0, .double 0, .ref gt, .ref bg])), (tx, .inl (T 2, 120, .inl g))] := hD
    have hl : lv_has ls 6 [(0, .ref oR), (1, .long v0), (4, .int (shA j))] := hl
    refine lv_iload hx hb d_Reader_append_79 (lv_at hl 2 rfl) ?_
    refine lv_if_lt (tgt := 137) hx hb d_Reader_append_81 (by decide) (fun c_81 => ?_) (fun c_81 => ?_)
    · refine lv_iconst (v := 1) hx hb d_Reader_append_137 (by decide) ?_
      have hP9 := hP.sub (ws' := []) [] rfl
      have hD9 := hD.sub (ws' := []) [] (by decide) rfl
      refine W.widen (k := 0) (n := 0) (Nat.le_of_ble_eq_true rfl) (Nat.le_of_ble_eq_true rfl) ?_
      exact j_zret F hr rfl hlocks hK hS () (by first | exact Or.inr ⟨rfl, fun hw => (by rw [← hb9]; exact fun h => h.elim c_24 (fun h => h.1 c_31) : ¬ okB (byA v0 j)) (hw j hj8)⟩ | exact Or.inr ⟨rfl, fun hw => (by rw [← hb9]; exact fun h => h.elim c_24 (fun h => h.2 (Int32.not_le.mp c_38)) : ¬ okB (byA v0 j)) (hw j hj8)⟩ | exact Or.inl ⟨rfl, hall⟩) hP9 hD9 d_Reader_append_138
    · have hj8 : j < 8 := shA_lt (by omega) c_81
      refine lv_lload_n hx hb d_Reader_append_84 rfl (lv_at hl 1 rfl) ?_
      refine lv_iload hx hb d_Reader_append_85 (lv_at hl 2 rfl) ?_
      refine lv_lushr (v := ((v0).toUInt64 >>> (((shA j) : Int32).toInt64.toUInt64 &&& Int64.toUInt64 63)).toInt64) hx hb d_Reader_append_87 rfl ?_
      refine lv_topl (fun x1 ex1 => ?_)
      refine lv_l2i (v := (x1).toInt32) hx hb d_Reader_append_88 rfl ?_
      refine lv_topi (fun x2 ex2 => ?_)
      refine lv_sipush (v := 255) hx hb d_Reader_append_89 (by decide) ?_
      refine lv_iand hx hb d_Reader_append_92 ?_
      refine lv_topi (fun x3 ex3 => ?_)
      refine lv_istore (lv' := [(5, .int x3), (0, .ref oR), (1, .long v0), (4, .int (shA j))]) hx hb d_Reader_append_93 hl (by decide) rfl (fun ls hl => ?_)
      refine lv_iload hx hb d_Reader_append_95 (lv_at hl 0 rfl) ?_
      refine lv_if_eq (tgt := 131) hx hb d_Reader_append_97 (by decide) (fun c_97 => ?_) (fun c_97 => ?_)
      · refine lv_iinc (v := (shA (j + 1))) (lv' := [(4, .int (shA (j + 1))), (5, .int x3), (0, .ref oR), (1, .long v0)]) hx hb d_Reader_append_131 hl (k := 3) rfl (shA_s j hj8) (by decide) rfl (fun ls hl => ?_)
        refine lv_goto (tgt := 79) hx hb d_Reader_append_134 (by decide) ?_
        exact ih (k - 1) (j + 1, t, g) _ _ _ (by omega) ⟨⟨(by dsimp only <;> omega), (by dsimp only <;> omega)⟩, hP.sub [0, 1] rfl, hD.sub [0, 1] (by decide) rfl, hS, lv_sub hl [2, 3, 0] rfl⟩
      · refine lv_aload_n hx hb d_Reader_append_100 rfl (lv_at hl 1 rfl) ?_
        refine va_get (D := D) (ci := 5) (v := .int (nI t)) (C := "PageScribe$Reader") (T := F_Reader) (N := 10) hx hb hts i_Reader hown hK hP 0 rfl rfl 3 (by decide) (hts _ k_1_169) (fun _ h9 => h9) rfl d_Reader_append_101 ?_
        refine lv_bipush (v := 120) hx hb d_Reader_append_104 (by decide) ?_
        refine lv_icmp_ge (tgt := 131) hx hb d_Reader_append_106 (by decide) (fun c_106 => absurd c_106 (nI_ge (a := t) (b := 120) (by omega) (by omega))) (fun c_106 => ?_)
        refine lv_aload_n hx hb d_Reader_append_109 rfl (lv_at hl 1 rfl) ?_
        refine va_get (D := D) (ci := 5) (v := .ref tx) (C := "PageScribe$Reader") (T := F_Reader) (N := 10) hx hb hts i_Reader hown hK hP 0 rfl rfl 2 (by decide) (hts _ k_1_168) (fun _ h9 => h9) rfl d_Reader_append_110 ?_
        refine lv_aload_n hx hb d_Reader_append_113 rfl (lv_at hl 1 rfl) ?_
        refine va_get (D := D) (ci := 5) (v := .int (nI t)) (C := "PageScribe$Reader") (T := F_Reader) (N := 10) hx hb hts i_Reader hown hK hP 0 rfl rfl 3 (by decide) (hts _ k_1_169) (fun _ h9 => h9) rfl d_Reader_append_114 ?_
        refine lv_iload hx hb d_Reader_append_117 (lv_at hl 0 rfl) ?_
        refine lv_i2c (v := ((x3).toUInt32 % 65536).toInt32) hx hb d_Reader_append_119 rfl ?_
        refine lv_topi (fun x4 ex4 => ?_)
        refine j_cast F hK hP hD hS 1 2 rfl rfl (vp_in_nI (n := t) (N := 120) (by omega) (by omega)) d_Reader_append_120 (fun g1 H locs hP hD hS => ?_)
        have hP : va_P D classes [(oR, .inr (5, [.ref oW, .ref st, .ref tx, .int (nI t), .int 0, .int 0, .int 0, .double 0, .ref gt, .ref bg])), (tx, .inl (T 2, 120, .inl g1))] H := hP
        have hD : va_D A [(oR, .inr (5, [.ref oW, .ref st, .ref tx, .int (nI t), .int 0, .int 0, .int 0, .double 0, .ref gt, .ref bg])), (tx, .inl (T 2, 120, .inl g1))] := hD
        refine lv_aload_n hx hb d_Reader_append_121 rfl (lv_at hl 1 rfl) ?_
        refine lv_dup hx hb d_Reader_append_122 rfl ?_
        refine va_get (D := D) (ci := 5) (v := .int (nI t)) (C := "PageScribe$Reader") (T := F_Reader) (N := 10) hx hb hts i_Reader hown hK hP 0 rfl rfl 3 (by decide) (hts _ k_1_169) (fun _ h9 => h9) rfl d_Reader_append_123 ?_
        refine lv_iconst (v := 1) hx hb d_Reader_append_126 (by decide) ?_
        refine lv_iadd hx hb d_Reader_append_127 ?_
        refine j_eqi (y := (nI (t + 1))) (nI_add t 1) ?_
        refine va_put (D := D) (ci := 5) (v := .int (nI (t + 1))) (ty := .int) (C := "PageScribe$Reader") (T := F_Reader) (N := 10) hx hb hts i_Reader t_Reader t_Reader_ok n_Reader hown hK hP hD hS 0 rfl rfl 3 (by decide) (hts _ k_1_169) (fun _ h9 => h9) rfl (by decide +kernel) rfl rfl (Nat.le_of_ble_eq_true rfl) d_Reader_append_128 (fun H locs hP hD hS => ?_)
        have hP : va_P D classes [(oR, .inr (5, [.ref oW, .ref st, .ref tx, .int (nI (t + 1)), .int 0, .int 0, .int 0, .double 0, .ref gt, .ref bg])), (tx, .inl (T 2, 120, .inl g1))] H := hP
        have hD : va_D A [(oR, .inr (5, [.ref oW, .ref st, .ref tx, .int (nI (t + 1)), .int 0, .int 0, .int 0, .double 0, .ref gt, .ref bg])), (tx, .inl (T 2, 120, .inl g1))] := hD
        refine lv_iinc (v := (shA (j + 1))) (lv' := [(4, .int (shA (j + 1))), (5, .int x3), (0, .ref oR), (1, .long v0)]) hx hb d_Reader_append_131 hl (k := 3) rfl (shA_s j hj8) (by decide) rfl (fun ls hl => ?_)
        refine lv_goto (tgt := 79) hx hb d_Reader_append_134 (by decide) ?_
        exact ih (k - 1) (j + 1, (t + 1), g1) _ _ _ (by omega) ⟨⟨(by dsimp only <;> omega), (by dsimp only <;> omega)⟩, hP.sub [0, 1] rfl, hD.sub [0, 1] (by decide) rfl, hS, lv_sub hl [2, 3, 0] rfl⟩
  · have hj8 : j < 8 := shA_lt (by omega) c_8
    refine lv_lload_n hx hb d_Reader_append_11 rfl (lv_at hl 1 rfl) ?_
    refine lv_iload hx hb d_Reader_append_12 (lv_at hl 3 rfl) ?_
    refine lv_lushr (v := ((v0).toUInt64 >>> (((shA j) : Int32).toInt64.toUInt64 &&& Int64.toUInt64 63)).toInt64) hx hb d_Reader_append_14 rfl ?_
    refine lv_topl (fun x5 ex5 => ?_)
    refine lv_l2i (v := (x5).toInt32) hx hb d_Reader_append_15 rfl ?_
    refine lv_topi (fun x6 ex6 => ?_)
    refine lv_sipush (v := 255) hx hb d_Reader_append_16 (by decide) ?_
    refine lv_iand hx hb d_Reader_append_19 ?_
    refine lv_topi (fun x7 ex7 => ?_)
    refine lv_istore (lv' := [(5, .int x7), (0, .ref oR), (1, .long v0), (3, .int (nI t)), (4, .int (shA j))]) hx hb d_Reader_append_20 hl (by decide) rfl (fun ls hl => ?_)
    have hb9 : x7 = byA v0 j := by rw [ex7, ex6, ex5]; rfl
    refine j_join (α := Unit) (fun _ => okB x7) (fun _ => F0 m 43 ls []) (fun _ hok => ?_) (fun key => ?_)
    · refine lv_iload_n hx hb d_Reader_append_43 rfl (lv_at hl 3 rfl) ?_
      refine lv_iload hx hb d_Reader_append_44 (lv_at hl 0 rfl) ?_
      refine lv_if_ne (tgt := 53) hx hb d_Reader_append_46 (by decide) (fun c_46 => ?_) (fun c_46 => ?_)
      · refine lv_iconst (v := 1) hx hb d_Reader_append_53 (by decide) ?_
        refine lv_iadd hx hb d_Reader_append_54 ?_
        refine j_eqi (y := (nI (t + 1))) (nI_add t 1) ?_
        refine lv_istore_n (lv' := [(3, .int (nI (t + 1))), (5, .int x7), (0, .ref oR), (1, .long v0), (4, .int (shA j))]) hx hb d_Reader_append_55 rfl hl (by decide) rfl (fun ls hl => ?_)
        refine lv_iinc (v := (shA (j + 1))) (lv' := [(4, .int (shA (j + 1))), (3, .int (nI (t + 1))), (5, .int x7), (0, .ref oR), (1, .long v0)]) hx hb d_Reader_append_56 hl (k := 4) rfl (shA_s j hj8) (by decide) rfl (fun ls hl => ?_)
        refine lv_goto (tgt := 6) hx hb d_Reader_append_59 (by decide) ?_
        exact ih (k - 1) (j + 1, (t + 1)) _ _ _ (by omega) ⟨⟨(by dsimp only <;> omega), (by dsimp only <;> omega), (fun i hi => by dsimp only at hi; rcases Nat.lt_or_ge i j with q | q; exact hj3 i q; rw [show i = j by omega, ← hb9]; exact hok)⟩, hP.sub [0, 1] rfl, hD.sub [0, 1] (by decide) rfl, hS, lv_sub hl [3, 4, 1, 0] rfl⟩
      · refine lv_iconst (v := 0) hx hb d_Reader_append_49 (by decide) ?_
        refine lv_goto (tgt := 54) hx hb d_Reader_append_50 (by decide) ?_
        refine lv_iadd hx hb d_Reader_append_54 ?_
        refine j_eqi (y := (nI (t + 0))) (nI_add t 0) ?_
        refine lv_istore_n (lv' := [(3, .int (nI (t + 0))), (5, .int x7), (0, .ref oR), (1, .long v0), (4, .int (shA j))]) hx hb d_Reader_append_55 rfl hl (by decide) rfl (fun ls hl => ?_)
        refine lv_iinc (v := (shA (j + 1))) (lv' := [(4, .int (shA (j + 1))), (3, .int (nI (t + 0))), (5, .int x7), (0, .ref oR), (1, .long v0)]) hx hb d_Reader_append_56 hl (k := 4) rfl (shA_s j hj8) (by decide) rfl (fun ls hl => ?_)
        refine lv_goto (tgt := 6) hx hb d_Reader_append_59 (by decide) ?_
        exact ih (k - 1) (j + 1, (t + 0)) _ _ _ (by omega) ⟨⟨(by dsimp only <;> omega), (by dsimp only <;> omega), (fun i hi => by dsimp only at hi; rcases Nat.lt_or_ge i j with q | q; exact hj3 i q; rw [show i = j by omega, ← hb9]; exact hok)⟩, hP.sub [0, 1] rfl, hD.sub [0, 1] (by decide) rfl, hS, lv_sub hl [3, 4, 1, 0] rfl⟩
    · refine lv_iload hx hb d_Reader_append_22 (lv_at hl 0 rfl) ?_
      refine lv_if_eq (tgt := 43) hx hb d_Reader_append_24 (by decide) (fun c_24 => ?_) (fun c_24 => ?_)
      · exact key () (by first | exact Or.inl c_24 | exact Or.inr ⟨c_31, Int32.not_lt.mpr c_38⟩)
      · refine lv_iload hx hb d_Reader_append_27 (lv_at hl 0 rfl) ?_
        refine lv_bipush (v := 32) hx hb d_Reader_append_29 (by decide) ?_
        refine lv_icmp_lt (tgt := 41) hx hb d_Reader_append_31 (by decide) (fun c_31 => ?_) (fun c_31 => ?_)
        · refine lv_iconst (v := 0) hx hb d_Reader_append_41 (by decide) ?_
          have hP9 := hP.sub (ws' := []) [] rfl
          have hD9 := hD.sub (ws' := []) [] (by decide) rfl
          refine W.widen (k := 0) (n := 0) (Nat.le_of_ble_eq_true rfl) (Nat.le_of_ble_eq_true rfl) ?_
          exact j_zret F hr rfl hlocks hK hS () (by first | exact Or.inr ⟨rfl, fun hw => (by rw [← hb9]; exact fun h => h.elim c_24 (fun h => h.1 c_31) : ¬ okB (byA v0 j)) (hw j hj8)⟩ | exact Or.inr ⟨rfl, fun hw => (by rw [← hb9]; exact fun h => h.elim c_24 (fun h => h.2 (Int32.not_le.mp c_38)) : ¬ okB (byA v0 j)) (hw j hj8)⟩ | exact Or.inl ⟨rfl, hall⟩) hP9 hD9 d_Reader_append_42
        · refine lv_iload hx hb d_Reader_append_34 (lv_at hl 0 rfl) ?_
          refine lv_bipush (v := 126) hx hb d_Reader_append_36 (by decide) ?_
          refine lv_icmp_le (tgt := 43) hx hb d_Reader_append_38 (by decide) (fun c_38 => ?_) (fun c_38 => ?_)
          · exact key () (by first | exact Or.inl c_24 | exact Or.inr ⟨c_31, Int32.not_lt.mpr c_38⟩)
          · refine lv_iconst (v := 0) hx hb d_Reader_append_41 (by decide) ?_
            have hP9 := hP.sub (ws' := []) [] rfl
            have hD9 := hD.sub (ws' := []) [] (by decide) rfl
            refine W.widen (k := 0) (n := 0) (Nat.le_of_ble_eq_true rfl) (Nat.le_of_ble_eq_true rfl) ?_
            exact j_zret F hr rfl hlocks hK hS () (by first | exact Or.inr ⟨rfl, fun hw => (by rw [← hb9]; exact fun h => h.elim c_24 (fun h => h.1 c_31) : ¬ okB (byA v0 j)) (hw j hj8)⟩ | exact Or.inr ⟨rfl, fun hw => (by rw [← hb9]; exact fun h => h.elim c_24 (fun h => h.2 (Int32.not_le.mp c_38)) : ¬ okB (byA v0 j)) (hw j hj8)⟩ | exact Or.inl ⟨rfl, hall⟩) hP9 hD9 d_Reader_append_42
theorem d_Ps_write_0 : decode prog_1_method_2_code 0 = .ok (.aload_n 0, 1) := by decide +kernel
theorem d_Ps_write_1 : decode prog_1_method_2_code 1 = .ok (.getfield 41, 3) := by decide +kernel
theorem d_Ps_write_4 : decode prog_1_method_2_code 4 = .ok (.lload_n 1, 1) := by decide +kernel
theorem d_Ps_write_5 : decode prog_1_method_2_code 5 = .ok (.invokevirtual 63, 3) := by decide +kernel
theorem k_2_84 : Cond.code ⟨"PageScribe$Reader", "append", "(J)Z"⟩ prog_7_method_2_code 6 (some .boolean) ∈ gw := gw_of (tb_2 (List.mem_of_getElem? (i := 84) (by decide +kernel))) (by decide +kernel)
theorem k_2_81 : Cond.methodLink "PageScribe" 63 ⟨"PageScribe$Reader", "append", "(J)Z"⟩ ∈ gw := gw_of (tb_2 (List.mem_of_getElem? (i := 81) (by decide +kernel))) (by decide +kernel)
theorem k_2_82 : Cond.instanceMethod ⟨"PageScribe$Reader", "append", "(J)Z"⟩ ∈ gw := gw_of (tb_2 (List.mem_of_getElem? (i := 82) (by decide +kernel))) (by decide +kernel)
theorem k_2_83 : Cond.selects "PageScribe$Reader" ⟨"PageScribe$Reader", "append", "(J)Z"⟩ ⟨"PageScribe$Reader", "append", "(J)Z"⟩ ∈ gw := gw_of (tb_2 (List.mem_of_getElem? (i := 83) (by decide +kernel))) (by decide +kernel)
theorem d_Ps_write_8 : decode prog_1_method_2_code 8 = .ok (.ireturn, 1) := by decide +kernel
set_option maxHeartbeats 4000000 in
set_option maxRecDepth 100000 in
theorem c_Ps_write (l : Launch) (D : va_G) (T : Nat → ClassId) (h0 : Nat) (oS : Nat) (oW : Nat) (oM : Nat) (oR : Nat) (oC : Nat) (oE : Nat) (st : Nat) (tx : Nat) (gt : Nat) (bg : Nat) (v0 : Int64) (sz : Nat) : Met l ⟨"PageScribe", "write", "(J)Z"⟩ (wy ⟨"PageScribe", "write", "(J)Z"⟩ prog_1_method_2_code 3 (some .boolean)) ({ frames := 1, cells := 0, slots := 0, locals := 70 }) (va_Pc [.ref h0, .long v0] (Pw D T [(h0, .inr (10, [.ref oS, .ref oW, .ref oM, .ref oR, .ref oC, .ref oE])), (oR, .inr (5, [.ref oW, .ref st, .ref tx, .int 0, .int 0, .int 0, .int 0, .double 0, .ref gt, .ref bg])), (tx, .inl (T 2, 120, .inl zI))] sz E0)) (va_Qi (fun (r : Int32) (u : Unit) => (r = 1 ∧ okW v0) ∨ (r = 0 ∧ ¬ okW v0)) (fun u t => Bw D T (va_A [(h0, .inr (10, [.ref oS, .ref oW, .ref oM, .ref oR, .ref oC, .ref oE])), (oR, .inr (5, [.ref oW, .ref st, .ref tx, .int 0, .int 0, .int 0, .int 0, .double 0, .ref gt, .ref bg])), (tx, .inl (T 2, 120, .inl zI))] sz) [] t) (va_A [(h0, .inr (10, [.ref oS, .ref oW, .ref oM, .ref oR, .ref oC, .ref oE])), (oR, .inr (5, [.ref oW, .ref st, .ref tx, .int 0, .int 0, .int 0, .int 0, .double 0, .ref gt, .ref bg])), (tx, .inl (T 2, 120, .inl zI))] sz)) 0 0 (va_A [(h0, .inr (10, [.ref oS, .ref oW, .ref oM, .ref oR, .ref oC, .ref oE])), (oR, .inr (5, [.ref oW, .ref st, .ref tx, .int 0, .int 0, .int 0, .int 0, .double 0, .ref gt, .ref bg])), (tx, .inl (T 2, 120, .inl zI))] sz) := by
  refine j_met (y := ⟨"PageScribe", "write", "(J)Z"⟩) (b := prog_1_method_2_code) (n := 3) (ret := (some .boolean)) (av := [.ref h0, .long v0]) (Qc := fun A => va_Qi (fun (r : Int32) (u : Unit) => (r = 1 ∧ okW v0) ∨ (r = 0 ∧ ¬ okW v0)) (fun u t => Bw D T A [] t) A) (by decide +kernel) (Nat.le_of_ble_eq_true rfl) (fun p e s m args below meth c A ls F hr hlocks hnm hK hP hD hS hA hN hE hl => ?_)
  obtain ⟨hx, hb, hml, hown, hts⟩ := id F
  have hin := hnm
  have hl : lv_has ls 3 [(0, .ref h0), (1, .long v0)] := hl
  refine lv_aload_n hx hb d_Ps_write_0 rfl (lv_at hl 0 rfl) ?_
  refine va_get (D := D) (ci := 10) (v := .ref oR) (C := "PageScribe") (T := F_Ps) (N := 6) hx hb hts i_Ps hown hK hP 0 rfl rfl 3 (by decide) (hts _ k_2_61) (fun _ h9 => h9) rfl d_Ps_write_1 ?_
  refine lv_lload_n hx hb d_Ps_write_4 rfl (lv_at hl 1 rfl) ?_
  refine j_ci (wc := [(oR, .inr (5, [.ref oW, .ref st, .ref tx, .int 0, .int 0, .int 0, .int 0, .double 0, .ref gt, .ref bg])), (tx, .inl (T 2, 120, .inl zI))]) (wr := [(h0, .inr (10, [.ref oS, .ref oW, .ref oM, .ref oR, .ref oC, .ref oE]))]) hK hP hD hS hA [1, 2] [0] rfl rfl (by decide) (by decide) (va_runV (As := [.long v0]) (rest := []) F (c_Reader_append l D T oR oW st tx gt bg v0 s.heap.size) (j_cV (k := 1) (C := "PageScribe$Reader") hts k_2_84 k_1_7 k_2_81 k_2_82 k_2_83 (by decide +kernel) ⟨Nat.le_of_ble_eq_true rfl, Nat.le_of_ble_eq_true rfl⟩) (j_preV (q0 := 1) (ci := 5) hK hP hD [1, 2] rfl (by decide) rfl rfl (fun _ _ _ _ h => h) (fun _ _ _ => trivial)) rfl rfl hl.1 rfl (lv_room (Nat.le_of_ble_eq_true rfl)) d_Ps_write_5 ⟨Nat.le_of_ble_eq_true rfl, Nat.le_of_ble_eq_true rfl⟩) (fun rv1 u1 H locs hw hP hD hS => ?_)
  have hP : va_P D classes [(h0, .inr (10, [.ref oS, .ref oW, .ref oM, .ref oR, .ref oC, .ref oE]))] H := hP
  have hD : va_D A [(h0, .inr (10, [.ref oS, .ref oW, .ref oM, .ref oR, .ref oC, .ref oE]))] := hD
  have hw1 : (rv1 = 1 ∧ okW v0) ∨ (rv1 = 0 ∧ ¬ okW v0) := hw
  have hP9 := hP.sub (ws' := []) [] rfl
  have hD9 := hD.sub (ws' := []) [] (by decide) rfl
  refine W.widen (k := 0) (n := 0) (Nat.le_of_ble_eq_true rfl) (Nat.le_of_ble_eq_true rfl) ?_
  exact j_zret F hr (by rcases hw1 with ⟨rfl, -⟩ | ⟨rfl, -⟩ <;> rfl) hlocks hK hS () hw1 hP9 hD9 d_Ps_write_8
