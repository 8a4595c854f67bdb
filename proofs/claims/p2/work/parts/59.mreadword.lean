theorem d_Mo_readWord_0 : decode prog_15_method_22_code 0 = .ok (.iconst 0, 1) := by decide +kernel
theorem d_Mo_readWord_1 : decode prog_15_method_22_code 1 = .ok (.istore_n 2, 1) := by decide +kernel
theorem d_Mo_readWord_2 : decode prog_15_method_22_code 2 = .ok (.lconst 0, 1) := by decide +kernel
theorem d_Mo_readWord_3 : decode prog_15_method_22_code 3 = .ok (.lstore_n 3, 1) := by decide +kernel
theorem d_Mo_readWord_4 : decode prog_15_method_22_code 4 = .ok (.aload_n 0, 1) := by decide +kernel
theorem d_Mo_readWord_5 : decode prog_15_method_22_code 5 = .ok (.getfield 281, 3) := by decide +kernel
theorem d_Mo_readWord_8 : decode prog_15_method_22_code 8 = .ok (.aload_n 0, 1) := by decide +kernel
theorem d_Mo_readWord_9 : decode prog_15_method_22_code 9 = .ok (.getfield 270, 3) := by decide +kernel
theorem d_Mo_readWord_12 : decode prog_15_method_22_code 12 = .ok (.if_icmp .ge 64, 3) := by decide +kernel
theorem d_Mo_readWord_76 : decode prog_15_method_22_code 76 = .ok (.aload_n 0, 1) := by decide +kernel
theorem d_Mo_readWord_77 : decode prog_15_method_22_code 77 = .ok (.bipush 40, 2) := by decide +kernel
theorem d_Mo_readWord_79 : decode prog_15_method_22_code 79 = .ok (.iload_n 1, 1) := by decide +kernel
theorem d_Mo_readWord_80 : decode prog_15_method_22_code 80 = .ok (.lload_n 3, 1) := by decide +kernel
theorem d_Mo_readWord_81 : decode prog_15_method_22_code 81 = .ok (.invokevirtual 250, 3) := by decide +kernel
theorem d_Mo_readWord_84 : decode prog_15_method_22_code 84 = .ok (.iload_n 2, 1) := by decide +kernel
theorem d_Mo_readWord_85 : decode prog_15_method_22_code 85 = .ok (.bipush 12, 2) := by decide +kernel
theorem d_Mo_readWord_87 : decode prog_15_method_22_code 87 = .ok (.if_icmp .ge 14, 3) := by decide +kernel
theorem d_Mo_readWord_101 : decode prog_15_method_22_code 101 = .ok (.iload_n 2, 1) := by decide +kernel
theorem d_Mo_readWord_102 : decode prog_15_method_22_code 102 = .ok (.bipush 8, 2) := by decide +kernel
theorem d_Mo_readWord_104 : decode prog_15_method_22_code 104 = .ok (.if_icmp .le 6, 3) := by decide +kernel
theorem d_Mo_readWord_110 : decode prog_15_method_22_code 110 = .ok (.iconst 0, 1) := by decide +kernel
theorem d_Mo_readWord_111 : decode prog_15_method_22_code 111 = .ok (.istore 5, 2) := by decide +kernel
theorem d_Mo_readWord_113 : decode prog_15_method_22_code 113 = .ok (.iload 5, 2) := by decide +kernel
theorem d_Mo_readWord_115 : decode prog_15_method_22_code 115 = .ok (.aload_n 0, 1) := by decide +kernel
theorem k_6_190 : Cond.fieldLink "PageScribeModel" 311 "PageScribeModel" "knows" "I" ∈ gw := gw_of (tb_6 (List.mem_of_getElem? (i := 190) (by decide +kernel))) (by decide +kernel)
theorem d_Mo_readWord_116 : decode prog_15_method_22_code 116 = .ok (.getfield 311, 3) := by decide +kernel
theorem d_Mo_readWord_119 : decode prog_15_method_22_code 119 = .ok (.if_icmp .ge 23, 3) := by decide +kernel
theorem d_Mo_readWord_142 : decode prog_15_method_22_code 142 = .ok (.aload_n 0, 1) := by decide +kernel
theorem d_Mo_readWord_143 : decode prog_15_method_22_code 143 = .ok (.getfield 311, 3) := by decide +kernel
theorem d_Mo_readWord_146 : decode prog_15_method_22_code 146 = .ok (.bipush 40, 2) := by decide +kernel
theorem d_Mo_readWord_148 : decode prog_15_method_22_code 148 = .ok (.if_icmp .ne 6, 3) := by decide +kernel
theorem d_Mo_readWord_154 : decode prog_15_method_22_code 154 = .ok (.aload_n 0, 1) := by decide +kernel
theorem k_6_189 : Cond.fieldLink "PageScribeModel" 68 "PageScribeModel" "known" "[J" ∈ gw := gw_of (tb_6 (List.mem_of_getElem? (i := 189) (by decide +kernel))) (by decide +kernel)
theorem d_Mo_readWord_155 : decode prog_15_method_22_code 155 = .ok (.getfield 68, 3) := by decide +kernel
theorem d_Mo_readWord_158 : decode prog_15_method_22_code 158 = .ok (.aload_n 0, 1) := by decide +kernel
theorem d_Mo_readWord_159 : decode prog_15_method_22_code 159 = .ok (.getfield 311, 3) := by decide +kernel
theorem d_Mo_readWord_162 : decode prog_15_method_22_code 162 = .ok (.lload_n 3, 1) := by decide +kernel
theorem d_Mo_readWord_163 : decode prog_15_method_22_code 163 = .ok (.lastore, 1) := by decide +kernel
theorem d_Mo_readWord_164 : decode prog_15_method_22_code 164 = .ok (.aload_n 0, 1) := by decide +kernel
theorem d_Mo_readWord_165 : decode prog_15_method_22_code 165 = .ok (.dup, 1) := by decide +kernel
theorem d_Mo_readWord_166 : decode prog_15_method_22_code 166 = .ok (.getfield 311, 3) := by decide +kernel
theorem d_Mo_readWord_169 : decode prog_15_method_22_code 169 = .ok (.iconst 1, 1) := by decide +kernel
theorem d_Mo_readWord_170 : decode prog_15_method_22_code 170 = .ok (.iadd, 1) := by decide +kernel
theorem d_Mo_readWord_171 : decode prog_15_method_22_code 171 = .ok (.putfield 311, 3) := by decide +kernel
theorem d_Mo_readWord_174 : decode prog_15_method_22_code 174 = .ok (.iconst 0, 1) := by decide +kernel
theorem d_Mo_readWord_175 : decode prog_15_method_22_code 175 = .ok (.ireturn, 1) := by decide +kernel
theorem d_Mo_readWord_151 : decode prog_15_method_22_code 151 = .ok (.bipush 7, 2) := by decide +kernel
theorem d_Mo_readWord_153 : decode prog_15_method_22_code 153 = .ok (.ireturn, 1) := by decide +kernel
theorem d_Mo_readWord_122 : decode prog_15_method_22_code 122 = .ok (.aload_n 0, 1) := by decide +kernel
theorem d_Mo_readWord_123 : decode prog_15_method_22_code 123 = .ok (.getfield 68, 3) := by decide +kernel
theorem d_Mo_readWord_126 : decode prog_15_method_22_code 126 = .ok (.iload 5, 2) := by decide +kernel
theorem d_Mo_readWord_128 : decode prog_15_method_22_code 128 = .ok (.laload, 1) := by decide +kernel
theorem d_Mo_readWord_129 : decode prog_15_method_22_code 129 = .ok (.lload_n 3, 1) := by decide +kernel
theorem d_Mo_readWord_130 : decode prog_15_method_22_code 130 = .ok (.lcmp, 1) := by decide +kernel
theorem d_Mo_readWord_131 : decode prog_15_method_22_code 131 = .ok (.ifCond .ne 5, 3) := by decide +kernel
theorem d_Mo_readWord_136 : decode prog_15_method_22_code 136 = .ok (.iinc 5 1, 3) := by decide +kernel
theorem d_Mo_readWord_139 : decode prog_15_method_22_code 139 = .ok (.goto (-26), 3) := by decide +kernel
theorem d_Mo_readWord_134 : decode prog_15_method_22_code 134 = .ok (.iconst 0, 1) := by decide +kernel
theorem d_Mo_readWord_135 : decode prog_15_method_22_code 135 = .ok (.ireturn, 1) := by decide +kernel
theorem d_Mo_readWord_107 : decode prog_15_method_22_code 107 = .ok (.bipush 15, 2) := by decide +kernel
theorem d_Mo_readWord_109 : decode prog_15_method_22_code 109 = .ok (.ireturn, 1) := by decide +kernel
theorem d_Mo_readWord_90 : decode prog_15_method_22_code 90 = .ok (.aload_n 0, 1) := by decide +kernel
theorem d_Mo_readWord_91 : decode prog_15_method_22_code 91 = .ok (.lload_n 3, 1) := by decide +kernel
theorem d_Mo_readWord_92 : decode prog_15_method_22_code 92 = .ok (.invokevirtual 307, 3) := by decide +kernel
theorem k_7_121 : Cond.code ⟨"PageScribeModel", "operatorOf", "(J)I"⟩ prog_15_method_23_code 4 (some .int) ∈ gw := gw_of (tb_7 (List.mem_of_getElem? (i := 121) (by decide +kernel))) (by decide +kernel)
theorem k_7_118 : Cond.methodLink "PageScribeModel" 307 ⟨"PageScribeModel", "operatorOf", "(J)I"⟩ ∈ gw := gw_of (tb_7 (List.mem_of_getElem? (i := 118) (by decide +kernel))) (by decide +kernel)
theorem k_7_120 : Cond.instanceMethod ⟨"PageScribeModel", "operatorOf", "(J)I"⟩ ∈ gw := gw_of (tb_7 (List.mem_of_getElem? (i := 120) (by decide +kernel))) (by decide +kernel)
theorem k_0_90 : Cond.selects "PageScribeModel" ⟨"PageScribeModel", "operatorOf", "(J)I"⟩ ⟨"PageScribeModel", "operatorOf", "(J)I"⟩ ∈ gw := gw_of (tb_0 (List.mem_of_getElem? (i := 90) (by decide +kernel))) (by decide +kernel)
theorem d_Mo_readWord_95 : decode prog_15_method_22_code 95 = .ok (.iconst (-1), 1) := by decide +kernel
theorem d_Mo_readWord_96 : decode prog_15_method_22_code 96 = .ok (.if_icmp .eq 5, 3) := by decide +kernel
theorem d_Mo_readWord_99 : decode prog_15_method_22_code 99 = .ok (.iconst 0, 1) := by decide +kernel
theorem d_Mo_readWord_100 : decode prog_15_method_22_code 100 = .ok (.ireturn, 1) := by decide +kernel
theorem d_Mo_readWord_15 : decode prog_15_method_22_code 15 = .ok (.aload_n 0, 1) := by decide +kernel
theorem d_Mo_readWord_16 : decode prog_15_method_22_code 16 = .ok (.getfield 61, 3) := by decide +kernel
theorem d_Mo_readWord_19 : decode prog_15_method_22_code 19 = .ok (.aload_n 0, 1) := by decide +kernel
theorem d_Mo_readWord_20 : decode prog_15_method_22_code 20 = .ok (.getfield 281, 3) := by decide +kernel
theorem d_Mo_readWord_23 : decode prog_15_method_22_code 23 = .ok (.caload, 1) := by decide +kernel
theorem d_Mo_readWord_24 : decode prog_15_method_22_code 24 = .ok (.invokestatic 304, 3) := by decide +kernel
theorem k_7_113 : Cond.code ⟨"PageScribeModel", "isLetter", "(C)Z"⟩ prog_15_method_17_code 1 (some .boolean) ∈ gw := gw_of (tb_7 (List.mem_of_getElem? (i := 113) (by decide +kernel))) (by decide +kernel)
theorem k_7_111 : Cond.methodLink "PageScribeModel" 304 ⟨"PageScribeModel", "isLetter", "(C)Z"⟩ ∈ gw := gw_of (tb_7 (List.mem_of_getElem? (i := 111) (by decide +kernel))) (by decide +kernel)
theorem k_7_112 : Cond.static ⟨"PageScribeModel", "isLetter", "(C)Z"⟩ ∈ gw := gw_of (tb_7 (List.mem_of_getElem? (i := 112) (by decide +kernel))) (by decide +kernel)
theorem d_Mo_readWord_27 : decode prog_15_method_22_code 27 = .ok (.ifCond .eq 49, 3) := by decide +kernel
theorem d_Mo_readWord_59 : decode prog_15_method_22_code 59 = .ok (.lstore_n 3, 1) := by decide +kernel
theorem d_Mo_readWord_60 : decode prog_15_method_22_code 60 = .ok (.iinc 2 1, 3) := by decide +kernel
theorem d_Mo_readWord_63 : decode prog_15_method_22_code 63 = .ok (.aload_n 0, 1) := by decide +kernel
theorem d_Mo_readWord_64 : decode prog_15_method_22_code 64 = .ok (.dup, 1) := by decide +kernel
theorem d_Mo_readWord_65 : decode prog_15_method_22_code 65 = .ok (.getfield 281, 3) := by decide +kernel
theorem d_Mo_readWord_68 : decode prog_15_method_22_code 68 = .ok (.iconst 1, 1) := by decide +kernel
theorem d_Mo_readWord_69 : decode prog_15_method_22_code 69 = .ok (.iadd, 1) := by decide +kernel
theorem d_Mo_readWord_70 : decode prog_15_method_22_code 70 = .ok (.putfield 281, 3) := by decide +kernel
theorem d_Mo_readWord_73 : decode prog_15_method_22_code 73 = .ok (.goto (-69), 3) := by decide +kernel
theorem d_Mo_readWord_30 : decode prog_15_method_22_code 30 = .ok (.iload_n 2, 1) := by decide +kernel
theorem d_Mo_readWord_31 : decode prog_15_method_22_code 31 = .ok (.bipush 12, 2) := by decide +kernel
theorem d_Mo_readWord_33 : decode prog_15_method_22_code 33 = .ok (.if_icmp .ge 25, 3) := by decide +kernel
theorem d_Mo_readWord_58 : decode prog_15_method_22_code 58 = .ok (.lload_n 3, 1) := by decide +kernel
theorem d_Mo_readWord_36 : decode prog_15_method_22_code 36 = .ok (.lload_n 3, 1) := by decide +kernel
theorem d_Mo_readWord_37 : decode prog_15_method_22_code 37 = .ok (.aload_n 0, 1) := by decide +kernel
theorem d_Mo_readWord_38 : decode prog_15_method_22_code 38 = .ok (.getfield 61, 3) := by decide +kernel
theorem d_Mo_readWord_41 : decode prog_15_method_22_code 41 = .ok (.aload_n 0, 1) := by decide +kernel
theorem d_Mo_readWord_42 : decode prog_15_method_22_code 42 = .ok (.getfield 281, 3) := by decide +kernel
theorem d_Mo_readWord_45 : decode prog_15_method_22_code 45 = .ok (.caload, 1) := by decide +kernel
theorem d_Mo_readWord_46 : decode prog_15_method_22_code 46 = .ok (.bipush 96, 2) := by decide +kernel
theorem d_Mo_readWord_48 : decode prog_15_method_22_code 48 = .ok (.isub, 1) := by decide +kernel
theorem tI_96 : (96 : Int32).toInt = 96 := by decide +kernel
theorem d_Mo_readWord_49 : decode prog_15_method_22_code 49 = .ok (.i2l, 1) := by decide +kernel
theorem d_Mo_readWord_50 : decode prog_15_method_22_code 50 = .ok (.iconst 5, 1) := by decide +kernel
theorem d_Mo_readWord_51 : decode prog_15_method_22_code 51 = .ok (.iload_n 2, 1) := by decide +kernel
theorem d_Mo_readWord_52 : decode prog_15_method_22_code 52 = .ok (.imul, 1) := by decide +kernel
theorem d_Mo_readWord_53 : decode prog_15_method_22_code 53 = .ok (.lshl, 1) := by decide +kernel
theorem d_Mo_readWord_54 : decode prog_15_method_22_code 54 = .ok (.lor, 1) := by decide +kernel
theorem d_Mo_readWord_55 : decode prog_15_method_22_code 55 = .ok (.goto 4, 3) := by decide +kernel
set_option maxHeartbeats 4000000 in
set_option maxRecDepth 100000 in
theorem m_readWord (l : Launch) (D : va_G) (T : Nat → ClassId) (h0 : Nat) (ar : Nat → Nat) (S : MS) (p0 : Int32) (sz : Nat) (hI : MI S) (h1 : 0 ≤ (f_at S).toInt ∧ (f_at S).toInt < (f_length S).toInt) (h2 : 97 ≤ ((a_text S) (f_at S).toInt.toNat).toInt ∧ ((a_text S) (f_at S).toInt.toNat).toInt ≤ 122) (h3 : p0.toInt = 3 ∨ p0.toInt = 11) : Met l ⟨"PageScribeModel", "readWord", "(I)I"⟩ (wy ⟨"PageScribeModel", "readWord", "(I)I"⟩ prog_15_method_22_code 6 (some .int)) ({ frames := 1, cells := 0, slots := 0, locals := 70 }) (va_Pc [.ref h0, .int p0] (Pw D T (mW T h0 ar S) sz E0)) (va_Qi (fun (r : Int32) (u : MS) => MI u ∧ kR S u ∧ kF S u ∧ (0 ≤ r.toInt ∧ r.toInt ≤ 15 ∧ 0 ≤ (f_at u).toInt ∧ (f_at u).toInt ≤ (f_length S).toInt ∧ (r.toInt = 0 → (f_at S).toInt < (f_at u).toInt))) (fun u t => Bw D T (va_A (mW T h0 ar S) sz) (mW T h0 ar u) t) (va_A (mW T h0 ar S) sz)) 0 0 (va_A (mW T h0 ar S) sz) := by
  refine j_met (y := ⟨"PageScribeModel", "readWord", "(I)I"⟩) (b := prog_15_method_22_code) (n := 6) (ret := (some .int)) (av := [.ref h0, .int p0]) (Qc := fun A => va_Qi (fun (r : Int32) (u : MS) => MI u ∧ kR S u ∧ kF S u ∧ (0 ≤ r.toInt ∧ r.toInt ≤ 15 ∧ 0 ≤ (f_at u).toInt ∧ (f_at u).toInt ≤ (f_length S).toInt ∧ (r.toInt = 0 → (f_at S).toInt < (f_at u).toInt))) (fun u t => Bw D T A (mW T h0 ar u) t) A) (by decide +kernel) (Nat.le_of_ble_eq_true rfl) (fun p e s m args below meth c A ls F hr hlocks hnm hK hP hD hS hA hN hE hl => ?_)
  obtain ⟨hx, hb, hml, hown, hts⟩ := id F
  have hl : lv_has ls 6 [(0, .ref h0), (1, .int p0)] := hl
  obtain ⟨i_size, i_taken, i_vals, i_room, i_dicts, i_deep, i_open, i_cells, i_points, i_part, i_length, i_knows, i_page, i_text, i_pats, i_fuel, i_fr, i_ink⟩ := id hI
  refine lv_iconst (v := 0) hx hb d_Mo_readWord_0 (by decide) ?_
  refine lv_istore_n (lv' := [(2, .int 0), (0, .ref h0), (1, .int p0)]) hx hb d_Mo_readWord_1 rfl hl (by decide) rfl (fun ls hl => ?_)
  refine lv_lconst (v := 0) hx hb d_Mo_readWord_2 (by decide) ?_
  refine lv_lstore_n (lv' := [(3, .long 0), (2, .int 0), (0, .ref h0), (1, .int p0)]) hx hb d_Mo_readWord_3 rfl hl (by decide) rfl (fun ls hl => ?_)
  refine j_loop (α := MS × Int32 × Int64) (fun k x H locs ls => (0 ≤ x.2.1.toInt ∧ x.2.1.toInt ≤ (f_at x.1).toInt ∧ (f_at x.1).toInt ≤ (f_length S).toInt ∧ 120 ≤ (f_at x.1).toInt + ((k : Nat) : Int) ∧ (f_at S).toInt ≤ (f_at x.1).toInt ∧ (f_length S).toInt ≤ 120 ∧ (f_length x.1).toInt = (f_length S).toInt) ∧ MI x.1 ∧ kR S x.1 ∧ kF S x.1 ∧ va_P D classes (mW T h0 ar x.1) H ∧ va_D A (mW T h0 ar x.1) ∧ va_S A s.heap H locs ∧ lv_has ls 6 [(3, .long x.2.2), (2, .int x.2.1), (0, .ref h0), (1, .int p0)]) (fun _ _ ls => F0 m 4 ls []) (fun k x H locs ls hI9 ih => ?_) 120 (S, (0 : Int32), (0 : Int64)) _ _ _ ⟨(show 0 ≤ (0 : Int32).toInt ∧ (0 : Int32).toInt ≤ (f_at S).toInt ∧ (f_at S).toInt ≤ (f_length S).toInt ∧ 120 ≤ (f_at S).toInt + ((120 : Nat) : Int) ∧ (f_at S).toInt ≤ (f_at S).toInt ∧ (f_length S).toInt ≤ 120 ∧ (f_length S).toInt = (f_length S).toInt by have := tI_0; have := tJ_0; omega), ⟨i_size, i_taken, i_vals, i_room, i_dicts, i_deep, i_open, i_cells, i_points, i_part, i_length, i_knows, i_page, i_text, i_pats, i_fuel, i_fr, i_ink⟩, (show kR S S from (kR_r S)), (show kF S S from (kF_r S)), hP, hD, hS, lv_sub hl [0, 1, 2, 3] rfl⟩
  obtain ⟨S1, n, v⟩ := x
  obtain ⟨hf1, hIx, klR_S1, klF_S1, hP, hD, hS, hl⟩ := hI9
  obtain ⟨i_size, i_taken, i_vals, i_room, i_dicts, i_deep, i_open, i_cells, i_points, i_part, i_length, i_knows, i_page, i_text, i_pats, i_fuel, i_fr, i_ink⟩ := (show MI S1 from hIx)
  have klR_S1 : kR S S1 := klR_S1
  have klF_S1 : kF S S1 := klF_S1
  have hf1 : 0 ≤ n.toInt ∧ n.toInt ≤ (f_at S1).toInt ∧ (f_at S1).toInt ≤ (f_length S).toInt ∧ 120 ≤ (f_at S1).toInt + ((k : Nat) : Int) ∧ (f_at S).toInt ≤ (f_at S1).toInt ∧ (f_length S).toInt ≤ 120 ∧ (f_length S1).toInt = (f_length S).toInt := hf1
  have hP : va_P D classes (mW T h0 ar S1) H := hP
  have hD : va_D A (mW T h0 ar S1) := hD
  have hl : lv_has ls 6 [(3, .long v), (2, .int n), (0, .ref h0), (1, .int p0)] := hl
  have hle : (f_at S1).toInt = (f_at S).toInt → 97 ≤ (a_text S1 (f_at S1).toInt.toNat).toInt ∧ (a_text S1 (f_at S1).toInt.toNat).toInt ≤ 122 := fun q => by rw [klR_S1.2.1, q]; exact h2
  refine lv_aload_n hx hb d_Mo_readWord_4 rfl (lv_at hl 2 rfl) ?_
  refine va_get (D := D) (ci := 11) (v := .int (f_at S1)) (C := "PageScribeModel") (T := F_Mo) (N := 45) hx hb hts i_Mo hown hK hP 0 mW_0 cl_11 25 (by decide) (hts _ k_6_185) (fun _ h9 => h9) (mg_at _ _) d_Mo_readWord_5 ?_
  refine lv_aload_n hx hb d_Mo_readWord_8 rfl (lv_at hl 2 rfl) ?_
  refine va_get (D := D) (ci := 11) (v := .int (f_length S1)) (C := "PageScribeModel") (T := F_Mo) (N := 45) hx hb hts i_Mo hown hK hP 0 mW_0 cl_11 24 (by decide) (hts _ k_6_184) (fun _ h9 => h9) (mg_length _ _) d_Mo_readWord_9 ?_
  refine lv_icmp_ge (tgt := 76) hx hb d_Mo_readWord_12 (by decide) (fun c12_1 => ?_) (fun c12_1 => ?_)
  · have fc12_1 : (f_length S1).toInt ≤ (f_at S1).toInt := zt_le (show (f_length S1).toInt = _ from rfl) (show (f_at S1).toInt = _ from rfl) c12_1
    have hlt : (f_at S).toInt < (f_at S1).toInt := by omega
    refine lv_aload_n hx hb d_Mo_readWord_76 rfl (lv_at hl 2 rfl) ?_
    refine lv_bipush (v := 40) hx hb d_Mo_readWord_77 (by decide) ?_
    refine lv_iload_n hx hb d_Mo_readWord_79 rfl (lv_at hl 3 rfl) ?_
    refine lv_lload_n hx hb d_Mo_readWord_80 rfl (lv_at hl 0 rfl) ?_
    refine jm_cv (w := (fun u => u)) hK hP hD hS hA (va_runV (As := [.int 40, .int p0, .long v]) (rest := []) F (m_set l D T h0 ar S1 (40 : Int32) p0 v H.size (show 0 ≤ (40 : Int32).toInt ∧ (40 : Int32).toInt < 1300 by have := tI_40; omega)) (j_cV (k := 3) (C := "PageScribeModel") hts k_7_81 k_1_12 k_7_78 k_7_80 k_0_83 (by decide +kernel) ⟨Nat.le_of_ble_eq_true rfl, Nat.le_of_ble_eq_true rfl⟩) (jm_pre hK hP hD) rfl rfl hl.1 rfl (lv_room (Nat.le_of_ble_eq_true rfl)) d_Mo_readWord_81 ⟨Nat.le_of_ble_eq_true rfl, Nat.le_of_ble_eq_true rfl⟩) (fun S2 H locs hw1 hP hD hS => ?_)
    try simp only [tI_40] at hw1
    obtain rfl := hw1
    have hP : va_P D classes (mW T h0 ar ((((f_thrown S1), (upd (a_kinds S1) (40) p0), (vp_updL (a_codes S1) (40) v), (vf_upd (a_reals S1) (40) 0), (f_size S1), (f_taken S1), (a_words S1), (a_many S1)), S1.2.1, S1.2.2.1, S1.2.2.2.1, S1.2.2.2.2.1, S1.2.2.2.2.2) : MS)) H := hP
    have hD : va_D A (mW T h0 ar ((((f_thrown S1), (upd (a_kinds S1) (40) p0), (vp_updL (a_codes S1) (40) v), (vf_upd (a_reals S1) (40) 0), (f_size S1), (f_taken S1), (a_words S1), (a_many S1)), S1.2.1, S1.2.2.1, S1.2.2.2.1, S1.2.2.2.2.1, S1.2.2.2.2.2) : MS)) := hD
    have i_vals : ∀ k, k < 1300 → vOk ((upd (a_kinds S1) (40) p0) k) ((vp_updL (a_codes S1) (40) v) k) ((vf_upd (a_reals S1) (40) 0) k) := vOk_upd i_vals (vO_of p0.toInt rfl (by omega))
    have fa1 : ((upd (a_kinds S1) (40) p0) 40).toInt = p0.toInt := congrArg Int32.toInt upd_s
    refine lv_iload_n hx hb d_Mo_readWord_84 rfl (lv_at hl 1 rfl) ?_
    refine lv_bipush (v := 12) hx hb d_Mo_readWord_85 (by decide) ?_
    refine lv_icmp_ge (tgt := 101) hx hb d_Mo_readWord_87 (by decide) (fun c87_1 => ?_) (fun c87_1 => ?_)
    · have fc87_1 : 12 ≤ n.toInt := zt_le tI_12 (show n.toInt = _ from rfl) c87_1
      refine lv_iload_n hx hb d_Mo_readWord_101 rfl (lv_at hl 1 rfl) ?_
      refine lv_bipush (v := 8) hx hb d_Mo_readWord_102 (by decide) ?_
      refine lv_icmp_le (tgt := 110) hx hb d_Mo_readWord_104 (by decide) (fun c104_1 => ?_) (fun c104_1 => ?_)
      · have fc104_1 : n.toInt ≤ 8 := zt_le (show n.toInt = _ from rfl) tI_8 c104_1
        refine lv_iconst (v := 0) hx hb d_Mo_readWord_110 (by decide) ?_
        refine lv_istore (lv' := [(5, .int 0), (3, .long v), (2, .int n), (0, .ref h0), (1, .int p0)]) hx hb d_Mo_readWord_111 hl (by decide) rfl (fun ls hl => ?_)
        refine j_loop (α := Int32) (fun k x H locs ls => (0 ≤ x.toInt ∧ x.toInt ≤ 40 ∧ 40 ≤ x.toInt + ((k : Nat) : Int)) ∧ va_P D classes (mW T h0 ar ((((f_thrown S1), (upd (a_kinds S1) (40) p0), (vp_updL (a_codes S1) (40) v), (vf_upd (a_reals S1) (40) 0), (f_size S1), (f_taken S1), (a_words S1), (a_many S1)), S1.2.1, S1.2.2.1, S1.2.2.2.1, S1.2.2.2.2.1, S1.2.2.2.2.2) : MS)) H ∧ va_D A (mW T h0 ar ((((f_thrown S1), (upd (a_kinds S1) (40) p0), (vp_updL (a_codes S1) (40) v), (vf_upd (a_reals S1) (40) 0), (f_size S1), (f_taken S1), (a_words S1), (a_many S1)), S1.2.1, S1.2.2.1, S1.2.2.2.1, S1.2.2.2.2.1, S1.2.2.2.2.2) : MS)) ∧ va_S A s.heap H locs ∧ lv_has ls 6 [(5, .int x), (3, .long v), (2, .int n), (0, .ref h0), (1, .int p0)]) (fun _ _ ls => F0 m 113 ls []) (fun k2 x H locs ls hI9 ih2 => ?_) 40 (0 : Int32) _ _ _ ⟨(show 0 ≤ (0 : Int32).toInt ∧ (0 : Int32).toInt ≤ 40 ∧ 40 ≤ (0 : Int32).toInt + ((40 : Nat) : Int) by have := tI_0; omega), hP, hD, hS, lv_sub hl [0, 1, 2, 3, 4] rfl⟩
        obtain ⟨i, rfl⟩ : ∃ z, z = x := ⟨_, rfl⟩
        obtain ⟨hf2, hP, hD, hS, hl⟩ := hI9
        have hf2 : 0 ≤ i.toInt ∧ i.toInt ≤ 40 ∧ 40 ≤ i.toInt + ((k2 : Nat) : Int) := hf2
        have hP : va_P D classes (mW T h0 ar ((((f_thrown S1), (upd (a_kinds S1) (40) p0), (vp_updL (a_codes S1) (40) v), (vf_upd (a_reals S1) (40) 0), (f_size S1), (f_taken S1), (a_words S1), (a_many S1)), S1.2.1, S1.2.2.1, S1.2.2.2.1, S1.2.2.2.2.1, S1.2.2.2.2.2) : MS)) H := hP
        have hD : va_D A (mW T h0 ar ((((f_thrown S1), (upd (a_kinds S1) (40) p0), (vp_updL (a_codes S1) (40) v), (vf_upd (a_reals S1) (40) 0), (f_size S1), (f_taken S1), (a_words S1), (a_many S1)), S1.2.1, S1.2.2.1, S1.2.2.2.1, S1.2.2.2.2.1, S1.2.2.2.2.2) : MS)) := hD
        have hl : lv_has ls 6 [(5, .int i), (3, .long v), (2, .int n), (0, .ref h0), (1, .int p0)] := hl
        refine lv_iload hx hb d_Mo_readWord_113 (lv_at hl 0 rfl) ?_
        refine lv_aload_n hx hb d_Mo_readWord_115 rfl (lv_at hl 3 rfl) ?_
        refine va_get (D := D) (ci := 11) (v := .int (f_knows S1)) (C := "PageScribeModel") (T := F_Mo) (N := 45) hx hb hts i_Mo hown hK hP 0 mW_0 cl_11 30 (by decide) (hts _ k_6_190) (fun _ h9 => h9) (mg_knows _ _) d_Mo_readWord_116 ?_
        refine lv_icmp_ge (tgt := 142) hx hb d_Mo_readWord_119 (by decide) (fun c119_1 => ?_) (fun c119_1 => ?_)
        · have fc119_1 : (f_knows S1).toInt ≤ i.toInt := zt_le (show (f_knows S1).toInt = _ from rfl) (show i.toInt = _ from rfl) c119_1
          refine lv_aload_n hx hb d_Mo_readWord_142 rfl (lv_at hl 3 rfl) ?_
          refine va_get (D := D) (ci := 11) (v := .int (f_knows S1)) (C := "PageScribeModel") (T := F_Mo) (N := 45) hx hb hts i_Mo hown hK hP 0 mW_0 cl_11 30 (by decide) (hts _ k_6_190) (fun _ h9 => h9) (mg_knows _ _) d_Mo_readWord_143 ?_
          refine lv_bipush (v := 40) hx hb d_Mo_readWord_146 (by decide) ?_
          refine lv_icmp_ne (tgt := 154) hx hb d_Mo_readWord_148 (by decide) (fun c148_1 => ?_) (fun c148_1 => ?_)
          · first | have fc148_1 : (f_knows S1).toInt < 40 := (by have := zt_ne (show (f_knows S1).toInt = _ from rfl) tI_40 c148_1; omega) | have fc148_1 : 40 < (f_knows S1).toInt := (by have := zt_ne (show (f_knows S1).toInt = _ from rfl) tI_40 c148_1; omega) | skip
            refine lv_aload_n hx hb d_Mo_readWord_154 rfl (lv_at hl 3 rfl) ?_
            refine va_get (D := D) (ci := 11) (v := .ref (ar 17)) (C := "PageScribeModel") (T := F_Mo) (N := 45) hx hb hts i_Mo hown hK hP 0 mW_0 cl_11 29 (by decide) (hts _ k_6_189) (fun _ h9 => h9) (mg_known _ _) d_Mo_readWord_155 ?_
            refine lv_aload_n hx hb d_Mo_readWord_158 rfl (lv_at hl 3 rfl) ?_
            refine va_get (D := D) (ci := 11) (v := .int (f_knows S1)) (C := "PageScribeModel") (T := F_Mo) (N := 45) hx hb hts i_Mo hown hK hP 0 mW_0 cl_11 30 (by decide) (hts _ k_6_190) (fun _ h9 => h9) (mg_knows _ _) d_Mo_readWord_159 ?_
            refine lv_lload_n hx hb d_Mo_readWord_162 rfl (lv_at hl 1 rfl) ?_
            refine va_last hx hb hK hP hD hS 18 1 (ma_known _ _ _ _) rfl (zt_in (show (f_knows S1).toInt = _ from rfl) (by omega) (by omega)) d_Mo_readWord_163 (fun H locs hP hD hS => ?_)
            rw [ms_known] at hP hD
            rw [zt_ix (show (f_knows S1).toInt = _ from rfl)] at hP hD
            have hP : va_P D classes (mW T h0 ar ((((f_thrown S1), (upd (a_kinds S1) (40) p0), (vp_updL (a_codes S1) (40) v), (vf_upd (a_reals S1) (40) 0), (f_size S1), (f_taken S1), (a_words S1), (a_many S1)), S1.2.1, S1.2.2.1, ((f_length S1), (f_at S1), (f_pending S1), (f_level S1), (a_starts S1), (vp_updL (a_known S1) ((f_knows S1).toInt.toNat) v), (f_knows S1), (f_fuel S1)), S1.2.2.2.2.1, S1.2.2.2.2.2) : MS)) H := hP
            have hD : va_D A (mW T h0 ar ((((f_thrown S1), (upd (a_kinds S1) (40) p0), (vp_updL (a_codes S1) (40) v), (vf_upd (a_reals S1) (40) 0), (f_size S1), (f_taken S1), (a_words S1), (a_many S1)), S1.2.1, S1.2.2.1, ((f_length S1), (f_at S1), (f_pending S1), (f_level S1), (a_starts S1), (vp_updL (a_known S1) ((f_knows S1).toInt.toNat) v), (f_knows S1), (f_fuel S1)), S1.2.2.2.2.1, S1.2.2.2.2.2) : MS)) := hD
            refine lv_aload_n hx hb d_Mo_readWord_164 rfl (lv_at hl 3 rfl) ?_
            refine lv_dup hx hb d_Mo_readWord_165 rfl ?_
            refine va_get (D := D) (ci := 11) (v := .int (f_knows S1)) (C := "PageScribeModel") (T := F_Mo) (N := 45) hx hb hts i_Mo hown hK hP 0 mW_0 cl_11 30 (by decide) (hts _ k_6_190) (fun _ h9 => h9) (mg_knows _ _) d_Mo_readWord_166 ?_
            refine lv_iconst (v := 1) hx hb d_Mo_readWord_169 (by decide) ?_
            refine lv_iadd hx hb d_Mo_readWord_170 ?_
            refine lv_topi (fun x1 ex1 => ?_)
            have fx1 : x1.toInt = ((f_knows S1).toInt + 1) := by rw [ex1]; exact (zt_add (show (f_knows S1).toInt = _ from rfl) tI_1 (by omega) (by omega)).trans (by omega)
            refine va_put (D := D) (ci := 11) (v := .int x1) (ty := .int) (C := "PageScribeModel") (T := F_Mo) (N := 45) hx hb hts i_Mo t_Mo t_Mo_ok n_Mo hown hK hP hD hS 0 mW_0 cl_11 30 (by decide) (hts _ k_6_190) (fun _ h9 => h9) rfl (by decide +kernel) rfl rfl (Nat.le_of_ble_eq_true rfl) d_Mo_readWord_171 (fun H locs hP hD hS => ?_)
            rw [mp_knows] at hP hD
            have hP : va_P D classes (mW T h0 ar ((((f_thrown S1), (upd (a_kinds S1) (40) p0), (vp_updL (a_codes S1) (40) v), (vf_upd (a_reals S1) (40) 0), (f_size S1), (f_taken S1), (a_words S1), (a_many S1)), S1.2.1, S1.2.2.1, ((f_length S1), (f_at S1), (f_pending S1), (f_level S1), (a_starts S1), (vp_updL (a_known S1) ((f_knows S1).toInt.toNat) v), x1, (f_fuel S1)), S1.2.2.2.2.1, S1.2.2.2.2.2) : MS)) H := hP
            have hD : va_D A (mW T h0 ar ((((f_thrown S1), (upd (a_kinds S1) (40) p0), (vp_updL (a_codes S1) (40) v), (vf_upd (a_reals S1) (40) 0), (f_size S1), (f_taken S1), (a_words S1), (a_many S1)), S1.2.1, S1.2.2.1, ((f_length S1), (f_at S1), (f_pending S1), (f_level S1), (a_starts S1), (vp_updL (a_known S1) ((f_knows S1).toInt.toNat) v), x1, (f_fuel S1)), S1.2.2.2.2.1, S1.2.2.2.2.2) : MS)) := hD
            refine lv_iconst (v := 0) hx hb d_Mo_readWord_174 (by decide) ?_
            exact j_iret F hr hlocks hK hS ((((f_thrown S1), (upd (a_kinds S1) (40) p0), (vp_updL (a_codes S1) (40) v), (vf_upd (a_reals S1) (40) 0), (f_size S1), (f_taken S1), (a_words S1), (a_many S1)), S1.2.1, S1.2.2.1, ((f_length S1), (f_at S1), (f_pending S1), (f_level S1), (a_starts S1), (vp_updL (a_known S1) ((f_knows S1).toInt.toNat) v), x1, (f_fuel S1)), S1.2.2.2.2.1, S1.2.2.2.2.2) : MS) ⟨⟨i_size, i_taken, i_vals, i_room, i_dicts, i_deep, i_open, i_cells, i_points, i_part, i_length, (show 0 ≤ x1.toInt ∧ x1.toInt ≤ 40 by omega), i_page, i_text, i_pats, i_fuel, i_fr, i_ink⟩, klR_S1, klF_S1, (show 0 ≤ (0 : Int32).toInt ∧ (0 : Int32).toInt ≤ 15 ∧ 0 ≤ (f_at S1).toInt ∧ (f_at S1).toInt ≤ (f_length S).toInt ∧ ((0 : Int32).toInt = 0 → (f_at S).toInt < (f_at S1).toInt) by have := tI_0; omega)⟩ hP hD d_Mo_readWord_175
          · have fc148_1 : (f_knows S1).toInt = 40 := zt_eq (show (f_knows S1).toInt = _ from rfl) tI_40 c148_1
            refine lv_bipush (v := 7) hx hb d_Mo_readWord_151 (by decide) ?_
            exact j_iret F hr hlocks hK hS ((((f_thrown S1), (upd (a_kinds S1) (40) p0), (vp_updL (a_codes S1) (40) v), (vf_upd (a_reals S1) (40) 0), (f_size S1), (f_taken S1), (a_words S1), (a_many S1)), S1.2.1, S1.2.2.1, S1.2.2.2.1, S1.2.2.2.2.1, S1.2.2.2.2.2) : MS) ⟨⟨i_size, i_taken, i_vals, i_room, i_dicts, i_deep, i_open, i_cells, i_points, i_part, i_length, i_knows, i_page, i_text, i_pats, i_fuel, i_fr, i_ink⟩, klR_S1, klF_S1, (show 0 ≤ (7 : Int32).toInt ∧ (7 : Int32).toInt ≤ 15 ∧ 0 ≤ (f_at S1).toInt ∧ (f_at S1).toInt ≤ (f_length S).toInt ∧ ((7 : Int32).toInt = 0 → (f_at S).toInt < (f_at S1).toInt) by have := tI_7; omega)⟩ hP hD d_Mo_readWord_153
        · have fc119_1 : i.toInt < (f_knows S1).toInt := Int.not_le.mp (zt_nle (show (f_knows S1).toInt = _ from rfl) (show i.toInt = _ from rfl) c119_1)
          refine lv_aload_n hx hb d_Mo_readWord_122 rfl (lv_at hl 3 rfl) ?_
          refine va_get (D := D) (ci := 11) (v := .ref (ar 17)) (C := "PageScribeModel") (T := F_Mo) (N := 45) hx hb hts i_Mo hown hK hP 0 mW_0 cl_11 29 (by decide) (hts _ k_6_189) (fun _ h9 => h9) (mg_known _ _) d_Mo_readWord_123 ?_
          refine lv_iload hx hb d_Mo_readWord_126 (lv_at hl 0 rfl) ?_
          refine va_lald hx hb hK hP 18 1 (ma_known _ _ _ _) rfl (zt_in (show i.toInt = _ from rfl) (by omega) (by omega)) d_Mo_readWord_128 ?_
          refine lv_topl (fun x2 ex2 => ?_)
          have gx2 : x2 = (a_known S1) i.toInt.toNat := ex2.trans (congrArg _ (zt_ix (show i.toInt = _ from rfl)))
          have fx2 : x2.toInt = ((a_known S1) i.toInt.toNat).toInt := by rw [gx2]
          refine lv_lload_n hx hb d_Mo_readWord_129 rfl (lv_at hl 1 rfl) ?_
          refine W.lcmp hx hb d_Mo_readWord_130 ?_
          refine lv_topi (fun x3 ex3 => ?_)
          refine lv_if_ne (tgt := 136) hx hb d_Mo_readWord_131 (by decide) (fun c131_1 => ?_) (fun c131_1 => ?_)
          · first | have fc131_1 : x3.toInt < 0 := (by have := zt_ne (show x3.toInt = _ from rfl) tI_0 c131_1; omega) | have fc131_1 : 0 < x3.toInt := (by have := zt_ne (show x3.toInt = _ from rfl) tI_0 c131_1; omega) | skip
            have vc131_1 : ¬ x2.toInt = v.toInt := by have := zr_cmp ex3 (show x2.toInt = _ from rfl) (show v.toInt = _ from rfl); have := zt_ne (show x3.toInt = _ from rfl) tI_0 c131_1; omega
            refine lv_iinc (v := (i + 1)) (lv' := [(5, .int (i + 1)), (3, .long v), (2, .int n), (0, .ref h0), (1, .int p0)]) hx hb d_Mo_readWord_136 hl (k := 0) rfl (by first | rfl | decide) (by decide) rfl (fun ls hl => ?_)
            obtain ⟨x4, ex4⟩ : ∃ z, z = (i + 1) := ⟨_, rfl⟩
            rw [← ex4] at hl
            have fx4 : x4.toInt = (i.toInt + 1) := by rw [ex4]; exact (zt_add (show i.toInt = _ from rfl) tI_1 (by omega) (by omega)).trans (by omega)
            have hl : lv_has ls 6 [(5, .int x4), (3, .long v), (2, .int n), (0, .ref h0), (1, .int p0)] := hl
            refine lv_goto (tgt := 113) hx hb d_Mo_readWord_139 (by decide) ?_
            exact ih2 (k2 - 1) x4 _ _ _ (by omega) ⟨(show 0 ≤ x4.toInt ∧ x4.toInt ≤ 40 ∧ 40 ≤ x4.toInt + (((k2 - 1) : Nat) : Int) by omega), hP, hD, hS, lv_sub hl [0, 1, 2, 3, 4] rfl⟩
          · have fc131_1 : x3.toInt = 0 := zt_eq (show x3.toInt = _ from rfl) tI_0 c131_1
            have vc131_1 : x2.toInt = v.toInt := by have := zr_cmp ex3 (show x2.toInt = _ from rfl) (show v.toInt = _ from rfl); have := zt_eq (show x3.toInt = _ from rfl) tI_0 c131_1; omega
            refine lv_iconst (v := 0) hx hb d_Mo_readWord_134 (by decide) ?_
            exact j_iret F hr hlocks hK hS ((((f_thrown S1), (upd (a_kinds S1) (40) p0), (vp_updL (a_codes S1) (40) v), (vf_upd (a_reals S1) (40) 0), (f_size S1), (f_taken S1), (a_words S1), (a_many S1)), S1.2.1, S1.2.2.1, S1.2.2.2.1, S1.2.2.2.2.1, S1.2.2.2.2.2) : MS) ⟨⟨i_size, i_taken, i_vals, i_room, i_dicts, i_deep, i_open, i_cells, i_points, i_part, i_length, i_knows, i_page, i_text, i_pats, i_fuel, i_fr, i_ink⟩, klR_S1, klF_S1, (show 0 ≤ (0 : Int32).toInt ∧ (0 : Int32).toInt ≤ 15 ∧ 0 ≤ (f_at S1).toInt ∧ (f_at S1).toInt ≤ (f_length S).toInt ∧ ((0 : Int32).toInt = 0 → (f_at S).toInt < (f_at S1).toInt) by have := tI_0; omega)⟩ hP hD d_Mo_readWord_135
      · have fc104_1 : 8 < n.toInt := Int.not_le.mp (zt_nle (show n.toInt = _ from rfl) tI_8 c104_1)
        refine lv_bipush (v := 15) hx hb d_Mo_readWord_107 (by decide) ?_
        exact j_iret F hr hlocks hK hS ((((f_thrown S1), (upd (a_kinds S1) (40) p0), (vp_updL (a_codes S1) (40) v), (vf_upd (a_reals S1) (40) 0), (f_size S1), (f_taken S1), (a_words S1), (a_many S1)), S1.2.1, S1.2.2.1, S1.2.2.2.1, S1.2.2.2.2.1, S1.2.2.2.2.2) : MS) ⟨⟨i_size, i_taken, i_vals, i_room, i_dicts, i_deep, i_open, i_cells, i_points, i_part, i_length, i_knows, i_page, i_text, i_pats, i_fuel, i_fr, i_ink⟩, klR_S1, klF_S1, (show 0 ≤ (15 : Int32).toInt ∧ (15 : Int32).toInt ≤ 15 ∧ 0 ≤ (f_at S1).toInt ∧ (f_at S1).toInt ≤ (f_length S).toInt ∧ ((15 : Int32).toInt = 0 → (f_at S).toInt < (f_at S1).toInt) by have := tI_15; omega)⟩ hP hD d_Mo_readWord_109
    · have fc87_1 : n.toInt < 12 := Int.not_le.mp (zt_nle tI_12 (show n.toInt = _ from rfl) c87_1)
      refine lv_aload_n hx hb d_Mo_readWord_90 rfl (lv_at hl 2 rfl) ?_
      refine lv_lload_n hx hb d_Mo_readWord_91 rfl (lv_at hl 0 rfl) ?_
      refine jm_ci (w := (fun _ => ((((f_thrown S1), (upd (a_kinds S1) (40) p0), (vp_updL (a_codes S1) (40) v), (vf_upd (a_reals S1) (40) 0), (f_size S1), (f_taken S1), (a_words S1), (a_many S1)), S1.2.1, S1.2.2.1, S1.2.2.2.1, S1.2.2.2.2.1, S1.2.2.2.2.2) : MS))) hK hP hD hS hA (va_runV (As := [.long v]) (rest := []) F (m_operatorOf l D T h0 ar ((((f_thrown S1), (upd (a_kinds S1) (40) p0), (vp_updL (a_codes S1) (40) v), (vf_upd (a_reals S1) (40) 0), (f_size S1), (f_taken S1), (a_words S1), (a_many S1)), S1.2.1, S1.2.2.1, S1.2.2.2.1, S1.2.2.2.2.1, S1.2.2.2.2.2) : MS) v H.size) (j_cV (k := 1) (C := "PageScribeModel") hts k_7_121 k_1_12 k_7_118 k_7_120 k_0_90 (by decide +kernel) ⟨Nat.le_of_ble_eq_true rfl, Nat.le_of_ble_eq_true rfl⟩) (jm_pre hK hP hD) rfl rfl hl.1 rfl (lv_room (Nat.le_of_ble_eq_true rfl)) d_Mo_readWord_92 ⟨Nat.le_of_ble_eq_true rfl, Nat.le_of_ble_eq_true rfl⟩) (fun rv2 u1 H locs hw2 hP hD hS => ?_)
      have hP : va_P D classes (mW T h0 ar ((((f_thrown S1), (upd (a_kinds S1) (40) p0), (vp_updL (a_codes S1) (40) v), (vf_upd (a_reals S1) (40) 0), (f_size S1), (f_taken S1), (a_words S1), (a_many S1)), S1.2.1, S1.2.2.1, S1.2.2.2.1, S1.2.2.2.2.1, S1.2.2.2.2.2) : MS)) H := hP
      have hD : va_D A (mW T h0 ar ((((f_thrown S1), (upd (a_kinds S1) (40) p0), (vp_updL (a_codes S1) (40) v), (vf_upd (a_reals S1) (40) 0), (f_size S1), (f_taken S1), (a_words S1), (a_many S1)), S1.2.1, S1.2.2.1, S1.2.2.2.1, S1.2.2.2.2.1, S1.2.2.2.2.2) : MS)) := hD
      have qhw2 : -1 ≤ rv2.toInt ∧ rv2.toInt ≤ 71 := hw2
      refine lv_iconst (v := (-1)) hx hb d_Mo_readWord_95 (by decide) ?_
      refine lv_icmp_eq (tgt := 101) hx hb d_Mo_readWord_96 (by decide) (fun c96_1 => ?_) (fun c96_1 => ?_)
      · have fc96_1 : rv2.toInt = (-1) := zt_eq (show rv2.toInt = _ from rfl) tI_m1 c96_1
        refine lv_iload_n hx hb d_Mo_readWord_101 rfl (lv_at hl 1 rfl) ?_
        refine lv_bipush (v := 8) hx hb d_Mo_readWord_102 (by decide) ?_
        refine lv_icmp_le (tgt := 110) hx hb d_Mo_readWord_104 (by decide) (fun c104_2 => ?_) (fun c104_2 => ?_)
        · have fc104_2 : n.toInt ≤ 8 := zt_le (show n.toInt = _ from rfl) tI_8 c104_2
          refine lv_iconst (v := 0) hx hb d_Mo_readWord_110 (by decide) ?_
          refine lv_istore (lv' := [(5, .int 0), (3, .long v), (2, .int n), (0, .ref h0), (1, .int p0)]) hx hb d_Mo_readWord_111 hl (by decide) rfl (fun ls hl => ?_)
          refine j_loop (α := Int32) (fun k x H locs ls => (0 ≤ x.toInt ∧ x.toInt ≤ 40 ∧ 40 ≤ x.toInt + ((k : Nat) : Int)) ∧ va_P D classes (mW T h0 ar ((((f_thrown S1), (upd (a_kinds S1) (40) p0), (vp_updL (a_codes S1) (40) v), (vf_upd (a_reals S1) (40) 0), (f_size S1), (f_taken S1), (a_words S1), (a_many S1)), S1.2.1, S1.2.2.1, S1.2.2.2.1, S1.2.2.2.2.1, S1.2.2.2.2.2) : MS)) H ∧ va_D A (mW T h0 ar ((((f_thrown S1), (upd (a_kinds S1) (40) p0), (vp_updL (a_codes S1) (40) v), (vf_upd (a_reals S1) (40) 0), (f_size S1), (f_taken S1), (a_words S1), (a_many S1)), S1.2.1, S1.2.2.1, S1.2.2.2.1, S1.2.2.2.2.1, S1.2.2.2.2.2) : MS)) ∧ va_S A s.heap H locs ∧ lv_has ls 6 [(5, .int x), (3, .long v), (2, .int n), (0, .ref h0), (1, .int p0)]) (fun _ _ ls => F0 m 113 ls []) (fun k2 x H locs ls hI9 ih2 => ?_) 40 (0 : Int32) _ _ _ ⟨(show 0 ≤ (0 : Int32).toInt ∧ (0 : Int32).toInt ≤ 40 ∧ 40 ≤ (0 : Int32).toInt + ((40 : Nat) : Int) by have := tI_0; omega), hP, hD, hS, lv_sub hl [0, 1, 2, 3, 4] rfl⟩
          obtain ⟨i, rfl⟩ : ∃ z, z = x := ⟨_, rfl⟩
          obtain ⟨hf3, hP, hD, hS, hl⟩ := hI9
          have hf3 : 0 ≤ i.toInt ∧ i.toInt ≤ 40 ∧ 40 ≤ i.toInt + ((k2 : Nat) : Int) := hf3
          have hP : va_P D classes (mW T h0 ar ((((f_thrown S1), (upd (a_kinds S1) (40) p0), (vp_updL (a_codes S1) (40) v), (vf_upd (a_reals S1) (40) 0), (f_size S1), (f_taken S1), (a_words S1), (a_many S1)), S1.2.1, S1.2.2.1, S1.2.2.2.1, S1.2.2.2.2.1, S1.2.2.2.2.2) : MS)) H := hP
          have hD : va_D A (mW T h0 ar ((((f_thrown S1), (upd (a_kinds S1) (40) p0), (vp_updL (a_codes S1) (40) v), (vf_upd (a_reals S1) (40) 0), (f_size S1), (f_taken S1), (a_words S1), (a_many S1)), S1.2.1, S1.2.2.1, S1.2.2.2.1, S1.2.2.2.2.1, S1.2.2.2.2.2) : MS)) := hD
          have hl : lv_has ls 6 [(5, .int i), (3, .long v), (2, .int n), (0, .ref h0), (1, .int p0)] := hl
          refine lv_iload hx hb d_Mo_readWord_113 (lv_at hl 0 rfl) ?_
          refine lv_aload_n hx hb d_Mo_readWord_115 rfl (lv_at hl 3 rfl) ?_
          refine va_get (D := D) (ci := 11) (v := .int (f_knows S1)) (C := "PageScribeModel") (T := F_Mo) (N := 45) hx hb hts i_Mo hown hK hP 0 mW_0 cl_11 30 (by decide) (hts _ k_6_190) (fun _ h9 => h9) (mg_knows _ _) d_Mo_readWord_116 ?_
          refine lv_icmp_ge (tgt := 142) hx hb d_Mo_readWord_119 (by decide) (fun c119_2 => ?_) (fun c119_2 => ?_)
          · have fc119_2 : (f_knows S1).toInt ≤ i.toInt := zt_le (show (f_knows S1).toInt = _ from rfl) (show i.toInt = _ from rfl) c119_2
            refine lv_aload_n hx hb d_Mo_readWord_142 rfl (lv_at hl 3 rfl) ?_
            refine va_get (D := D) (ci := 11) (v := .int (f_knows S1)) (C := "PageScribeModel") (T := F_Mo) (N := 45) hx hb hts i_Mo hown hK hP 0 mW_0 cl_11 30 (by decide) (hts _ k_6_190) (fun _ h9 => h9) (mg_knows _ _) d_Mo_readWord_143 ?_
            refine lv_bipush (v := 40) hx hb d_Mo_readWord_146 (by decide) ?_
            refine lv_icmp_ne (tgt := 154) hx hb d_Mo_readWord_148 (by decide) (fun c148_2 => ?_) (fun c148_2 => ?_)
            · first | have fc148_2 : (f_knows S1).toInt < 40 := (by have := zt_ne (show (f_knows S1).toInt = _ from rfl) tI_40 c148_2; omega) | have fc148_2 : 40 < (f_knows S1).toInt := (by have := zt_ne (show (f_knows S1).toInt = _ from rfl) tI_40 c148_2; omega) | skip
              refine lv_aload_n hx hb d_Mo_readWord_154 rfl (lv_at hl 3 rfl) ?_
              refine va_get (D := D) (ci := 11) (v := .ref (ar 17)) (C := "PageScribeModel") (T := F_Mo) (N := 45) hx hb hts i_Mo hown hK hP 0 mW_0 cl_11 29 (by decide) (hts _ k_6_189) (fun _ h9 => h9) (mg_known _ _) d_Mo_readWord_155 ?_
              refine lv_aload_n hx hb d_Mo_readWord_158 rfl (lv_at hl 3 rfl) ?_
              refine va_get (D := D) (ci := 11) (v := .int (f_knows S1)) (C := "PageScribeModel") (T := F_Mo) (N := 45) hx hb hts i_Mo hown hK hP 0 mW_0 cl_11 30 (by decide) (hts _ k_6_190) (fun _ h9 => h9) (mg_knows _ _) d_Mo_readWord_159 ?_
              refine lv_lload_n hx hb d_Mo_readWord_162 rfl (lv_at hl 1 rfl) ?_
              refine va_last hx hb hK hP hD hS 18 1 (ma_known _ _ _ _) rfl (zt_in (show (f_knows S1).toInt = _ from rfl) (by omega) (by omega)) d_Mo_readWord_163 (fun H locs hP hD hS => ?_)
              rw [ms_known] at hP hD
              rw [zt_ix (show (f_knows S1).toInt = _ from rfl)] at hP hD
              have hP : va_P D classes (mW T h0 ar ((((f_thrown S1), (upd (a_kinds S1) (40) p0), (vp_updL (a_codes S1) (40) v), (vf_upd (a_reals S1) (40) 0), (f_size S1), (f_taken S1), (a_words S1), (a_many S1)), S1.2.1, S1.2.2.1, ((f_length S1), (f_at S1), (f_pending S1), (f_level S1), (a_starts S1), (vp_updL (a_known S1) ((f_knows S1).toInt.toNat) v), (f_knows S1), (f_fuel S1)), S1.2.2.2.2.1, S1.2.2.2.2.2) : MS)) H := hP
              have hD : va_D A (mW T h0 ar ((((f_thrown S1), (upd (a_kinds S1) (40) p0), (vp_updL (a_codes S1) (40) v), (vf_upd (a_reals S1) (40) 0), (f_size S1), (f_taken S1), (a_words S1), (a_many S1)), S1.2.1, S1.2.2.1, ((f_length S1), (f_at S1), (f_pending S1), (f_level S1), (a_starts S1), (vp_updL (a_known S1) ((f_knows S1).toInt.toNat) v), (f_knows S1), (f_fuel S1)), S1.2.2.2.2.1, S1.2.2.2.2.2) : MS)) := hD
              refine lv_aload_n hx hb d_Mo_readWord_164 rfl (lv_at hl 3 rfl) ?_
              refine lv_dup hx hb d_Mo_readWord_165 rfl ?_
              refine va_get (D := D) (ci := 11) (v := .int (f_knows S1)) (C := "PageScribeModel") (T := F_Mo) (N := 45) hx hb hts i_Mo hown hK hP 0 mW_0 cl_11 30 (by decide) (hts _ k_6_190) (fun _ h9 => h9) (mg_knows _ _) d_Mo_readWord_166 ?_
              refine lv_iconst (v := 1) hx hb d_Mo_readWord_169 (by decide) ?_
              refine lv_iadd hx hb d_Mo_readWord_170 ?_
              refine lv_topi (fun x5 ex5 => ?_)
              have fx5 : x5.toInt = ((f_knows S1).toInt + 1) := by rw [ex5]; exact (zt_add (show (f_knows S1).toInt = _ from rfl) tI_1 (by omega) (by omega)).trans (by omega)
              refine va_put (D := D) (ci := 11) (v := .int x5) (ty := .int) (C := "PageScribeModel") (T := F_Mo) (N := 45) hx hb hts i_Mo t_Mo t_Mo_ok n_Mo hown hK hP hD hS 0 mW_0 cl_11 30 (by decide) (hts _ k_6_190) (fun _ h9 => h9) rfl (by decide +kernel) rfl rfl (Nat.le_of_ble_eq_true rfl) d_Mo_readWord_171 (fun H locs hP hD hS => ?_)
              rw [mp_knows] at hP hD
              have hP : va_P D classes (mW T h0 ar ((((f_thrown S1), (upd (a_kinds S1) (40) p0), (vp_updL (a_codes S1) (40) v), (vf_upd (a_reals S1) (40) 0), (f_size S1), (f_taken S1), (a_words S1), (a_many S1)), S1.2.1, S1.2.2.1, ((f_length S1), (f_at S1), (f_pending S1), (f_level S1), (a_starts S1), (vp_updL (a_known S1) ((f_knows S1).toInt.toNat) v), x5, (f_fuel S1)), S1.2.2.2.2.1, S1.2.2.2.2.2) : MS)) H := hP
              have hD : va_D A (mW T h0 ar ((((f_thrown S1), (upd (a_kinds S1) (40) p0), (vp_updL (a_codes S1) (40) v), (vf_upd (a_reals S1) (40) 0), (f_size S1), (f_taken S1), (a_words S1), (a_many S1)), S1.2.1, S1.2.2.1, ((f_length S1), (f_at S1), (f_pending S1), (f_level S1), (a_starts S1), (vp_updL (a_known S1) ((f_knows S1).toInt.toNat) v), x5, (f_fuel S1)), S1.2.2.2.2.1, S1.2.2.2.2.2) : MS)) := hD
              refine lv_iconst (v := 0) hx hb d_Mo_readWord_174 (by decide) ?_
              exact j_iret F hr hlocks hK hS ((((f_thrown S1), (upd (a_kinds S1) (40) p0), (vp_updL (a_codes S1) (40) v), (vf_upd (a_reals S1) (40) 0), (f_size S1), (f_taken S1), (a_words S1), (a_many S1)), S1.2.1, S1.2.2.1, ((f_length S1), (f_at S1), (f_pending S1), (f_level S1), (a_starts S1), (vp_updL (a_known S1) ((f_knows S1).toInt.toNat) v), x5, (f_fuel S1)), S1.2.2.2.2.1, S1.2.2.2.2.2) : MS) ⟨⟨i_size, i_taken, i_vals, i_room, i_dicts, i_deep, i_open, i_cells, i_points, i_part, i_length, (show 0 ≤ x5.toInt ∧ x5.toInt ≤ 40 by omega), i_page, i_text, i_pats, i_fuel, i_fr, i_ink⟩, klR_S1, klF_S1, (show 0 ≤ (0 : Int32).toInt ∧ (0 : Int32).toInt ≤ 15 ∧ 0 ≤ (f_at S1).toInt ∧ (f_at S1).toInt ≤ (f_length S).toInt ∧ ((0 : Int32).toInt = 0 → (f_at S).toInt < (f_at S1).toInt) by have := tI_0; omega)⟩ hP hD d_Mo_readWord_175
            · have fc148_2 : (f_knows S1).toInt = 40 := zt_eq (show (f_knows S1).toInt = _ from rfl) tI_40 c148_2
              refine lv_bipush (v := 7) hx hb d_Mo_readWord_151 (by decide) ?_
              exact j_iret F hr hlocks hK hS ((((f_thrown S1), (upd (a_kinds S1) (40) p0), (vp_updL (a_codes S1) (40) v), (vf_upd (a_reals S1) (40) 0), (f_size S1), (f_taken S1), (a_words S1), (a_many S1)), S1.2.1, S1.2.2.1, S1.2.2.2.1, S1.2.2.2.2.1, S1.2.2.2.2.2) : MS) ⟨⟨i_size, i_taken, i_vals, i_room, i_dicts, i_deep, i_open, i_cells, i_points, i_part, i_length, i_knows, i_page, i_text, i_pats, i_fuel, i_fr, i_ink⟩, klR_S1, klF_S1, (show 0 ≤ (7 : Int32).toInt ∧ (7 : Int32).toInt ≤ 15 ∧ 0 ≤ (f_at S1).toInt ∧ (f_at S1).toInt ≤ (f_length S).toInt ∧ ((7 : Int32).toInt = 0 → (f_at S).toInt < (f_at S1).toInt) by have := tI_7; omega)⟩ hP hD d_Mo_readWord_153
          · have fc119_2 : i.toInt < (f_knows S1).toInt := Int.not_le.mp (zt_nle (show (f_knows S1).toInt = _ from rfl) (show i.toInt = _ from rfl) c119_2)
            refine lv_aload_n hx hb d_Mo_readWord_122 rfl (lv_at hl 3 rfl) ?_
            refine va_get (D := D) (ci := 11) (v := .ref (ar 17)) (C := "PageScribeModel") (T := F_Mo) (N := 45) hx hb hts i_Mo hown hK hP 0 mW_0 cl_11 29 (by decide) (hts _ k_6_189) (fun _ h9 => h9) (mg_known _ _) d_Mo_readWord_123 ?_
            refine lv_iload hx hb d_Mo_readWord_126 (lv_at hl 0 rfl) ?_
            refine va_lald hx hb hK hP 18 1 (ma_known _ _ _ _) rfl (zt_in (show i.toInt = _ from rfl) (by omega) (by omega)) d_Mo_readWord_128 ?_
            refine lv_topl (fun x6 ex6 => ?_)
            have gx6 : x6 = (a_known S1) i.toInt.toNat := ex6.trans (congrArg _ (zt_ix (show i.toInt = _ from rfl)))
            have fx6 : x6.toInt = ((a_known S1) i.toInt.toNat).toInt := by rw [gx6]
            refine lv_lload_n hx hb d_Mo_readWord_129 rfl (lv_at hl 1 rfl) ?_
            refine W.lcmp hx hb d_Mo_readWord_130 ?_
            refine lv_topi (fun x7 ex7 => ?_)
            refine lv_if_ne (tgt := 136) hx hb d_Mo_readWord_131 (by decide) (fun c131_2 => ?_) (fun c131_2 => ?_)
            · first | have fc131_2 : x7.toInt < 0 := (by have := zt_ne (show x7.toInt = _ from rfl) tI_0 c131_2; omega) | have fc131_2 : 0 < x7.toInt := (by have := zt_ne (show x7.toInt = _ from rfl) tI_0 c131_2; omega) | skip
              have vc131_2 : ¬ x6.toInt = v.toInt := by have := zr_cmp ex7 (show x6.toInt = _ from rfl) (show v.toInt = _ from rfl); have := zt_ne (show x7.toInt = _ from rfl) tI_0 c131_2; omega
              refine lv_iinc (v := (i + 1)) (lv' := [(5, .int (i + 1)), (3, .long v), (2, .int n), (0, .ref h0), (1, .int p0)]) hx hb d_Mo_readWord_136 hl (k := 0) rfl (by first | rfl | decide) (by decide) rfl (fun ls hl => ?_)
              obtain ⟨x8, ex8⟩ : ∃ z, z = (i + 1) := ⟨_, rfl⟩
              rw [← ex8] at hl
              have fx8 : x8.toInt = (i.toInt + 1) := by rw [ex8]; exact (zt_add (show i.toInt = _ from rfl) tI_1 (by omega) (by omega)).trans (by omega)
              have hl : lv_has ls 6 [(5, .int x8), (3, .long v), (2, .int n), (0, .ref h0), (1, .int p0)] := hl
              refine lv_goto (tgt := 113) hx hb d_Mo_readWord_139 (by decide) ?_
              exact ih2 (k2 - 1) x8 _ _ _ (by omega) ⟨(show 0 ≤ x8.toInt ∧ x8.toInt ≤ 40 ∧ 40 ≤ x8.toInt + (((k2 - 1) : Nat) : Int) by omega), hP, hD, hS, lv_sub hl [0, 1, 2, 3, 4] rfl⟩
            · have fc131_2 : x7.toInt = 0 := zt_eq (show x7.toInt = _ from rfl) tI_0 c131_2
              have vc131_2 : x6.toInt = v.toInt := by have := zr_cmp ex7 (show x6.toInt = _ from rfl) (show v.toInt = _ from rfl); have := zt_eq (show x7.toInt = _ from rfl) tI_0 c131_2; omega
              refine lv_iconst (v := 0) hx hb d_Mo_readWord_134 (by decide) ?_
              exact j_iret F hr hlocks hK hS ((((f_thrown S1), (upd (a_kinds S1) (40) p0), (vp_updL (a_codes S1) (40) v), (vf_upd (a_reals S1) (40) 0), (f_size S1), (f_taken S1), (a_words S1), (a_many S1)), S1.2.1, S1.2.2.1, S1.2.2.2.1, S1.2.2.2.2.1, S1.2.2.2.2.2) : MS) ⟨⟨i_size, i_taken, i_vals, i_room, i_dicts, i_deep, i_open, i_cells, i_points, i_part, i_length, i_knows, i_page, i_text, i_pats, i_fuel, i_fr, i_ink⟩, klR_S1, klF_S1, (show 0 ≤ (0 : Int32).toInt ∧ (0 : Int32).toInt ≤ 15 ∧ 0 ≤ (f_at S1).toInt ∧ (f_at S1).toInt ≤ (f_length S).toInt ∧ ((0 : Int32).toInt = 0 → (f_at S).toInt < (f_at S1).toInt) by have := tI_0; omega)⟩ hP hD d_Mo_readWord_135
        · have fc104_2 : 8 < n.toInt := Int.not_le.mp (zt_nle (show n.toInt = _ from rfl) tI_8 c104_2)
          refine lv_bipush (v := 15) hx hb d_Mo_readWord_107 (by decide) ?_
          exact j_iret F hr hlocks hK hS ((((f_thrown S1), (upd (a_kinds S1) (40) p0), (vp_updL (a_codes S1) (40) v), (vf_upd (a_reals S1) (40) 0), (f_size S1), (f_taken S1), (a_words S1), (a_many S1)), S1.2.1, S1.2.2.1, S1.2.2.2.1, S1.2.2.2.2.1, S1.2.2.2.2.2) : MS) ⟨⟨i_size, i_taken, i_vals, i_room, i_dicts, i_deep, i_open, i_cells, i_points, i_part, i_length, i_knows, i_page, i_text, i_pats, i_fuel, i_fr, i_ink⟩, klR_S1, klF_S1, (show 0 ≤ (15 : Int32).toInt ∧ (15 : Int32).toInt ≤ 15 ∧ 0 ≤ (f_at S1).toInt ∧ (f_at S1).toInt ≤ (f_length S).toInt ∧ ((15 : Int32).toInt = 0 → (f_at S).toInt < (f_at S1).toInt) by have := tI_15; omega)⟩ hP hD d_Mo_readWord_109
      · first | have fc96_1 : rv2.toInt < (-1) := (by have := zt_ne (show rv2.toInt = _ from rfl) tI_m1 c96_1; omega) | have fc96_1 : (-1) < rv2.toInt := (by have := zt_ne (show rv2.toInt = _ from rfl) tI_m1 c96_1; omega) | skip
        refine lv_iconst (v := 0) hx hb d_Mo_readWord_99 (by decide) ?_
        exact j_iret F hr hlocks hK hS ((((f_thrown S1), (upd (a_kinds S1) (40) p0), (vp_updL (a_codes S1) (40) v), (vf_upd (a_reals S1) (40) 0), (f_size S1), (f_taken S1), (a_words S1), (a_many S1)), S1.2.1, S1.2.2.1, S1.2.2.2.1, S1.2.2.2.2.1, S1.2.2.2.2.2) : MS) ⟨⟨i_size, i_taken, i_vals, i_room, i_dicts, i_deep, i_open, i_cells, i_points, i_part, i_length, i_knows, i_page, i_text, i_pats, i_fuel, i_fr, i_ink⟩, klR_S1, klF_S1, (show 0 ≤ (0 : Int32).toInt ∧ (0 : Int32).toInt ≤ 15 ∧ 0 ≤ (f_at S1).toInt ∧ (f_at S1).toInt ≤ (f_length S).toInt ∧ ((0 : Int32).toInt = 0 → (f_at S).toInt < (f_at S1).toInt) by have := tI_0; omega)⟩ hP hD d_Mo_readWord_100
  · have fc12_1 : (f_at S1).toInt < (f_length S1).toInt := Int.not_le.mp (zt_nle (show (f_length S1).toInt = _ from rfl) (show (f_at S1).toInt = _ from rfl) c12_1)
    refine lv_aload_n hx hb d_Mo_readWord_15 rfl (lv_at hl 2 rfl) ?_
    refine va_get (D := D) (ci := 11) (v := .ref (ar 15)) (C := "PageScribeModel") (T := F_Mo) (N := 45) hx hb hts i_Mo hown hK hP 0 mW_0 cl_11 23 (by decide) (hts _ k_6_183) (fun _ h9 => h9) (mg_text _ _) d_Mo_readWord_16 ?_
    refine lv_aload_n hx hb d_Mo_readWord_19 rfl (lv_at hl 2 rfl) ?_
    refine va_get (D := D) (ci := 11) (v := .int (f_at S1)) (C := "PageScribeModel") (T := F_Mo) (N := 45) hx hb hts i_Mo hown hK hP 0 mW_0 cl_11 25 (by decide) (hts _ k_6_185) (fun _ h9 => h9) (mg_at _ _) d_Mo_readWord_20 ?_
    refine va_cald hx hb hK hP 16 2 (ma_text _ _ _ _) rfl (zt_in (show (f_at S1).toInt = _ from rfl) (by omega) (by omega)) d_Mo_readWord_23 ?_
    refine lv_topi (fun x9 ex9 => ?_)
    have gx9 : x9 = (a_text S1) (f_at S1).toInt.toNat := ex9.trans (congrArg _ (zt_ix (show (f_at S1).toInt = _ from rfl)))
    have fx9 : x9.toInt = ((a_text S1) (f_at S1).toInt.toNat).toInt := by rw [gx9]
    have kx9 := i_text ((f_at S1).toInt.toNat) (by omega)
    refine j_ci (wc := []) (wr := (mW T h0 ar S1)) hK hP hD hS hA [] isc rfl isc_all isc_nd (fun _ _ => List.not_mem_nil) (va_runS (As := [.int x9]) (rest := []) F (m_isLetter l D T x9 H.size) (j_cS (k := 1) hts k_7_113 k_1_12 k_7_111 k_7_112 (by decide +kernel) ⟨Nat.le_of_ble_eq_true rfl, Nat.le_of_ble_eq_true rfl⟩) (j_preS hK hP hD [] rfl (by decide) (fun _ _ _ _ h => h) (fun _ _ _ => trivial)) rfl rfl hl.1 rfl (lv_room (Nat.le_of_ble_eq_true rfl)) d_Mo_readWord_24 ⟨Nat.le_of_ble_eq_true rfl, Nat.le_of_ble_eq_true rfl⟩) (fun rv3 u2 H locs hw3 hP hD hS => ?_)
    have hP : va_P D classes (mW T h0 ar S1) H := hP
    have hD : va_D A (mW T h0 ar S1) := hD
    have qhw3 : (rv3.toInt = 1 ∧ 97 ≤ x9.toInt ∧ x9.toInt ≤ 122) ∨ (rv3.toInt = 0 ∧ ¬ (97 ≤ x9.toInt ∧ x9.toInt ≤ 122)) := hw3
    refine lv_if_eq (tgt := 76) hx hb d_Mo_readWord_27 (by decide) (fun c27_1 => ?_) (fun c27_1 => ?_)
    · have fc27_1 : rv3.toInt = 0 := zt_eq (show rv3.toInt = _ from rfl) tI_0 c27_1
      have hlt : (f_at S).toInt < (f_at S1).toInt := by omega
      refine lv_aload_n hx hb d_Mo_readWord_76 rfl (lv_at hl 2 rfl) ?_
      refine lv_bipush (v := 40) hx hb d_Mo_readWord_77 (by decide) ?_
      refine lv_iload_n hx hb d_Mo_readWord_79 rfl (lv_at hl 3 rfl) ?_
      refine lv_lload_n hx hb d_Mo_readWord_80 rfl (lv_at hl 0 rfl) ?_
      refine jm_cv (w := (fun u => u)) hK hP hD hS hA (va_runV (As := [.int 40, .int p0, .long v]) (rest := []) F (m_set l D T h0 ar S1 (40 : Int32) p0 v H.size (show 0 ≤ (40 : Int32).toInt ∧ (40 : Int32).toInt < 1300 by have := tI_40; omega)) (j_cV (k := 3) (C := "PageScribeModel") hts k_7_81 k_1_12 k_7_78 k_7_80 k_0_83 (by decide +kernel) ⟨Nat.le_of_ble_eq_true rfl, Nat.le_of_ble_eq_true rfl⟩) (jm_pre hK hP hD) rfl rfl hl.1 rfl (lv_room (Nat.le_of_ble_eq_true rfl)) d_Mo_readWord_81 ⟨Nat.le_of_ble_eq_true rfl, Nat.le_of_ble_eq_true rfl⟩) (fun S3 H locs hw4 hP hD hS => ?_)
      try simp only [tI_40] at hw4
      obtain rfl := hw4
      have hP : va_P D classes (mW T h0 ar ((((f_thrown S1), (upd (a_kinds S1) (40) p0), (vp_updL (a_codes S1) (40) v), (vf_upd (a_reals S1) (40) 0), (f_size S1), (f_taken S1), (a_words S1), (a_many S1)), S1.2.1, S1.2.2.1, S1.2.2.2.1, S1.2.2.2.2.1, S1.2.2.2.2.2) : MS)) H := hP
      have hD : va_D A (mW T h0 ar ((((f_thrown S1), (upd (a_kinds S1) (40) p0), (vp_updL (a_codes S1) (40) v), (vf_upd (a_reals S1) (40) 0), (f_size S1), (f_taken S1), (a_words S1), (a_many S1)), S1.2.1, S1.2.2.1, S1.2.2.2.1, S1.2.2.2.2.1, S1.2.2.2.2.2) : MS)) := hD
      have i_vals : ∀ k, k < 1300 → vOk ((upd (a_kinds S1) (40) p0) k) ((vp_updL (a_codes S1) (40) v) k) ((vf_upd (a_reals S1) (40) 0) k) := vOk_upd i_vals (vO_of p0.toInt rfl (by omega))
      have fa2 : ((upd (a_kinds S1) (40) p0) 40).toInt = p0.toInt := congrArg Int32.toInt upd_s
      refine lv_iload_n hx hb d_Mo_readWord_84 rfl (lv_at hl 1 rfl) ?_
      refine lv_bipush (v := 12) hx hb d_Mo_readWord_85 (by decide) ?_
      refine lv_icmp_ge (tgt := 101) hx hb d_Mo_readWord_87 (by decide) (fun c87_2 => ?_) (fun c87_2 => ?_)
      · have fc87_2 : 12 ≤ n.toInt := zt_le tI_12 (show n.toInt = _ from rfl) c87_2
        refine lv_iload_n hx hb d_Mo_readWord_101 rfl (lv_at hl 1 rfl) ?_
        refine lv_bipush (v := 8) hx hb d_Mo_readWord_102 (by decide) ?_
        refine lv_icmp_le (tgt := 110) hx hb d_Mo_readWord_104 (by decide) (fun c104_3 => ?_) (fun c104_3 => ?_)
        · have fc104_3 : n.toInt ≤ 8 := zt_le (show n.toInt = _ from rfl) tI_8 c104_3
          refine lv_iconst (v := 0) hx hb d_Mo_readWord_110 (by decide) ?_
          refine lv_istore (lv' := [(5, .int 0), (3, .long v), (2, .int n), (0, .ref h0), (1, .int p0)]) hx hb d_Mo_readWord_111 hl (by decide) rfl (fun ls hl => ?_)
          refine j_loop (α := Int32) (fun k x H locs ls => (0 ≤ x.toInt ∧ x.toInt ≤ 40 ∧ 40 ≤ x.toInt + ((k : Nat) : Int)) ∧ va_P D classes (mW T h0 ar ((((f_thrown S1), (upd (a_kinds S1) (40) p0), (vp_updL (a_codes S1) (40) v), (vf_upd (a_reals S1) (40) 0), (f_size S1), (f_taken S1), (a_words S1), (a_many S1)), S1.2.1, S1.2.2.1, S1.2.2.2.1, S1.2.2.2.2.1, S1.2.2.2.2.2) : MS)) H ∧ va_D A (mW T h0 ar ((((f_thrown S1), (upd (a_kinds S1) (40) p0), (vp_updL (a_codes S1) (40) v), (vf_upd (a_reals S1) (40) 0), (f_size S1), (f_taken S1), (a_words S1), (a_many S1)), S1.2.1, S1.2.2.1, S1.2.2.2.1, S1.2.2.2.2.1, S1.2.2.2.2.2) : MS)) ∧ va_S A s.heap H locs ∧ lv_has ls 6 [(5, .int x), (3, .long v), (2, .int n), (0, .ref h0), (1, .int p0)]) (fun _ _ ls => F0 m 113 ls []) (fun k2 x H locs ls hI9 ih2 => ?_) 40 (0 : Int32) _ _ _ ⟨(show 0 ≤ (0 : Int32).toInt ∧ (0 : Int32).toInt ≤ 40 ∧ 40 ≤ (0 : Int32).toInt + ((40 : Nat) : Int) by have := tI_0; omega), hP, hD, hS, lv_sub hl [0, 1, 2, 3, 4] rfl⟩
          obtain ⟨i, rfl⟩ : ∃ z, z = x := ⟨_, rfl⟩
          obtain ⟨hf4, hP, hD, hS, hl⟩ := hI9
          have hf4 : 0 ≤ i.toInt ∧ i.toInt ≤ 40 ∧ 40 ≤ i.toInt + ((k2 : Nat) : Int) := hf4
          have hP : va_P D classes (mW T h0 ar ((((f_thrown S1), (upd (a_kinds S1) (40) p0), (vp_updL (a_codes S1) (40) v), (vf_upd (a_reals S1) (40) 0), (f_size S1), (f_taken S1), (a_words S1), (a_many S1)), S1.2.1, S1.2.2.1, S1.2.2.2.1, S1.2.2.2.2.1, S1.2.2.2.2.2) : MS)) H := hP
          have hD : va_D A (mW T h0 ar ((((f_thrown S1), (upd (a_kinds S1) (40) p0), (vp_updL (a_codes S1) (40) v), (vf_upd (a_reals S1) (40) 0), (f_size S1), (f_taken S1), (a_words S1), (a_many S1)), S1.2.1, S1.2.2.1, S1.2.2.2.1, S1.2.2.2.2.1, S1.2.2.2.2.2) : MS)) := hD
          have hl : lv_has ls 6 [(5, .int i), (3, .long v), (2, .int n), (0, .ref h0), (1, .int p0)] := hl
          refine lv_iload hx hb d_Mo_readWord_113 (lv_at hl 0 rfl) ?_
          refine lv_aload_n hx hb d_Mo_readWord_115 rfl (lv_at hl 3 rfl) ?_
          refine va_get (D := D) (ci := 11) (v := .int (f_knows S1)) (C := "PageScribeModel") (T := F_Mo) (N := 45) hx hb hts i_Mo hown hK hP 0 mW_0 cl_11 30 (by decide) (hts _ k_6_190) (fun _ h9 => h9) (mg_knows _ _) d_Mo_readWord_116 ?_
          refine lv_icmp_ge (tgt := 142) hx hb d_Mo_readWord_119 (by decide) (fun c119_3 => ?_) (fun c119_3 => ?_)
          · have fc119_3 : (f_knows S1).toInt ≤ i.toInt := zt_le (show (f_knows S1).toInt = _ from rfl) (show i.toInt = _ from rfl) c119_3
            refine lv_aload_n hx hb d_Mo_readWord_142 rfl (lv_at hl 3 rfl) ?_
            refine va_get (D := D) (ci := 11) (v := .int (f_knows S1)) (C := "PageScribeModel") (T := F_Mo) (N := 45) hx hb hts i_Mo hown hK hP 0 mW_0 cl_11 30 (by decide) (hts _ k_6_190) (fun _ h9 => h9) (mg_knows _ _) d_Mo_readWord_143 ?_
            refine lv_bipush (v := 40) hx hb d_Mo_readWord_146 (by decide) ?_
            refine lv_icmp_ne (tgt := 154) hx hb d_Mo_readWord_148 (by decide) (fun c148_3 => ?_) (fun c148_3 => ?_)
            · first | have fc148_3 : (f_knows S1).toInt < 40 := (by have := zt_ne (show (f_knows S1).toInt = _ from rfl) tI_40 c148_3; omega) | have fc148_3 : 40 < (f_knows S1).toInt := (by have := zt_ne (show (f_knows S1).toInt = _ from rfl) tI_40 c148_3; omega) | skip
              refine lv_aload_n hx hb d_Mo_readWord_154 rfl (lv_at hl 3 rfl) ?_
              refine va_get (D := D) (ci := 11) (v := .ref (ar 17)) (C := "PageScribeModel") (T := F_Mo) (N := 45) hx hb hts i_Mo hown hK hP 0 mW_0 cl_11 29 (by decide) (hts _ k_6_189) (fun _ h9 => h9) (mg_known _ _) d_Mo_readWord_155 ?_
              refine lv_aload_n hx hb d_Mo_readWord_158 rfl (lv_at hl 3 rfl) ?_
              refine va_get (D := D) (ci := 11) (v := .int (f_knows S1)) (C := "PageScribeModel") (T := F_Mo) (N := 45) hx hb hts i_Mo hown hK hP 0 mW_0 cl_11 30 (by decide) (hts _ k_6_190) (fun _ h9 => h9) (mg_knows _ _) d_Mo_readWord_159 ?_
              refine lv_lload_n hx hb d_Mo_readWord_162 rfl (lv_at hl 1 rfl) ?_
              refine va_last hx hb hK hP hD hS 18 1 (ma_known _ _ _ _) rfl (zt_in (show (f_knows S1).toInt = _ from rfl) (by omega) (by omega)) d_Mo_readWord_163 (fun H locs hP hD hS => ?_)
              rw [ms_known] at hP hD
              rw [zt_ix (show (f_knows S1).toInt = _ from rfl)] at hP hD
              have hP : va_P D classes (mW T h0 ar ((((f_thrown S1), (upd (a_kinds S1) (40) p0), (vp_updL (a_codes S1) (40) v), (vf_upd (a_reals S1) (40) 0), (f_size S1), (f_taken S1), (a_words S1), (a_many S1)), S1.2.1, S1.2.2.1, ((f_length S1), (f_at S1), (f_pending S1), (f_level S1), (a_starts S1), (vp_updL (a_known S1) ((f_knows S1).toInt.toNat) v), (f_knows S1), (f_fuel S1)), S1.2.2.2.2.1, S1.2.2.2.2.2) : MS)) H := hP
              have hD : va_D A (mW T h0 ar ((((f_thrown S1), (upd (a_kinds S1) (40) p0), (vp_updL (a_codes S1) (40) v), (vf_upd (a_reals S1) (40) 0), (f_size S1), (f_taken S1), (a_words S1), (a_many S1)), S1.2.1, S1.2.2.1, ((f_length S1), (f_at S1), (f_pending S1), (f_level S1), (a_starts S1), (vp_updL (a_known S1) ((f_knows S1).toInt.toNat) v), (f_knows S1), (f_fuel S1)), S1.2.2.2.2.1, S1.2.2.2.2.2) : MS)) := hD
              refine lv_aload_n hx hb d_Mo_readWord_164 rfl (lv_at hl 3 rfl) ?_
              refine lv_dup hx hb d_Mo_readWord_165 rfl ?_
              refine va_get (D := D) (ci := 11) (v := .int (f_knows S1)) (C := "PageScribeModel") (T := F_Mo) (N := 45) hx hb hts i_Mo hown hK hP 0 mW_0 cl_11 30 (by decide) (hts _ k_6_190) (fun _ h9 => h9) (mg_knows _ _) d_Mo_readWord_166 ?_
              refine lv_iconst (v := 1) hx hb d_Mo_readWord_169 (by decide) ?_
              refine lv_iadd hx hb d_Mo_readWord_170 ?_
              refine lv_topi (fun x10 ex10 => ?_)
              have fx10 : x10.toInt = ((f_knows S1).toInt + 1) := by rw [ex10]; exact (zt_add (show (f_knows S1).toInt = _ from rfl) tI_1 (by omega) (by omega)).trans (by omega)
              refine va_put (D := D) (ci := 11) (v := .int x10) (ty := .int) (C := "PageScribeModel") (T := F_Mo) (N := 45) hx hb hts i_Mo t_Mo t_Mo_ok n_Mo hown hK hP hD hS 0 mW_0 cl_11 30 (by decide) (hts _ k_6_190) (fun _ h9 => h9) rfl (by decide +kernel) rfl rfl (Nat.le_of_ble_eq_true rfl) d_Mo_readWord_171 (fun H locs hP hD hS => ?_)
              rw [mp_knows] at hP hD
              have hP : va_P D classes (mW T h0 ar ((((f_thrown S1), (upd (a_kinds S1) (40) p0), (vp_updL (a_codes S1) (40) v), (vf_upd (a_reals S1) (40) 0), (f_size S1), (f_taken S1), (a_words S1), (a_many S1)), S1.2.1, S1.2.2.1, ((f_length S1), (f_at S1), (f_pending S1), (f_level S1), (a_starts S1), (vp_updL (a_known S1) ((f_knows S1).toInt.toNat) v), x10, (f_fuel S1)), S1.2.2.2.2.1, S1.2.2.2.2.2) : MS)) H := hP
              have hD : va_D A (mW T h0 ar ((((f_thrown S1), (upd (a_kinds S1) (40) p0), (vp_updL (a_codes S1) (40) v), (vf_upd (a_reals S1) (40) 0), (f_size S1), (f_taken S1), (a_words S1), (a_many S1)), S1.2.1, S1.2.2.1, ((f_length S1), (f_at S1), (f_pending S1), (f_level S1), (a_starts S1), (vp_updL (a_known S1) ((f_knows S1).toInt.toNat) v), x10, (f_fuel S1)), S1.2.2.2.2.1, S1.2.2.2.2.2) : MS)) := hD
              refine lv_iconst (v := 0) hx hb d_Mo_readWord_174 (by decide) ?_
              exact j_iret F hr hlocks hK hS ((((f_thrown S1), (upd (a_kinds S1) (40) p0), (vp_updL (a_codes S1) (40) v), (vf_upd (a_reals S1) (40) 0), (f_size S1), (f_taken S1), (a_words S1), (a_many S1)), S1.2.1, S1.2.2.1, ((f_length S1), (f_at S1), (f_pending S1), (f_level S1), (a_starts S1), (vp_updL (a_known S1) ((f_knows S1).toInt.toNat) v), x10, (f_fuel S1)), S1.2.2.2.2.1, S1.2.2.2.2.2) : MS) ⟨⟨i_size, i_taken, i_vals, i_room, i_dicts, i_deep, i_open, i_cells, i_points, i_part, i_length, (show 0 ≤ x10.toInt ∧ x10.toInt ≤ 40 by omega), i_page, i_text, i_pats, i_fuel, i_fr, i_ink⟩, klR_S1, klF_S1, (show 0 ≤ (0 : Int32).toInt ∧ (0 : Int32).toInt ≤ 15 ∧ 0 ≤ (f_at S1).toInt ∧ (f_at S1).toInt ≤ (f_length S).toInt ∧ ((0 : Int32).toInt = 0 → (f_at S).toInt < (f_at S1).toInt) by have := tI_0; omega)⟩ hP hD d_Mo_readWord_175
            · have fc148_3 : (f_knows S1).toInt = 40 := zt_eq (show (f_knows S1).toInt = _ from rfl) tI_40 c148_3
              refine lv_bipush (v := 7) hx hb d_Mo_readWord_151 (by decide) ?_
              exact j_iret F hr hlocks hK hS ((((f_thrown S1), (upd (a_kinds S1) (40) p0), (vp_updL (a_codes S1) (40) v), (vf_upd (a_reals S1) (40) 0), (f_size S1), (f_taken S1), (a_words S1), (a_many S1)), S1.2.1, S1.2.2.1, S1.2.2.2.1, S1.2.2.2.2.1, S1.2.2.2.2.2) : MS) ⟨⟨i_size, i_taken, i_vals, i_room, i_dicts, i_deep, i_open, i_cells, i_points, i_part, i_length, i_knows, i_page, i_text, i_pats, i_fuel, i_fr, i_ink⟩, klR_S1, klF_S1, (show 0 ≤ (7 : Int32).toInt ∧ (7 : Int32).toInt ≤ 15 ∧ 0 ≤ (f_at S1).toInt ∧ (f_at S1).toInt ≤ (f_length S).toInt ∧ ((7 : Int32).toInt = 0 → (f_at S).toInt < (f_at S1).toInt) by have := tI_7; omega)⟩ hP hD d_Mo_readWord_153
          · have fc119_3 : i.toInt < (f_knows S1).toInt := Int.not_le.mp (zt_nle (show (f_knows S1).toInt = _ from rfl) (show i.toInt = _ from rfl) c119_3)
            refine lv_aload_n hx hb d_Mo_readWord_122 rfl (lv_at hl 3 rfl) ?_
            refine va_get (D := D) (ci := 11) (v := .ref (ar 17)) (C := "PageScribeModel") (T := F_Mo) (N := 45) hx hb hts i_Mo hown hK hP 0 mW_0 cl_11 29 (by decide) (hts _ k_6_189) (fun _ h9 => h9) (mg_known _ _) d_Mo_readWord_123 ?_
            refine lv_iload hx hb d_Mo_readWord_126 (lv_at hl 0 rfl) ?_
            refine va_lald hx hb hK hP 18 1 (ma_known _ _ _ _) rfl (zt_in (show i.toInt = _ from rfl) (by omega) (by omega)) d_Mo_readWord_128 ?_
            refine lv_topl (fun x11 ex11 => ?_)
            have gx11 : x11 = (a_known S1) i.toInt.toNat := ex11.trans (congrArg _ (zt_ix (show i.toInt = _ from rfl)))
            have fx11 : x11.toInt = ((a_known S1) i.toInt.toNat).toInt := by rw [gx11]
            refine lv_lload_n hx hb d_Mo_readWord_129 rfl (lv_at hl 1 rfl) ?_
            refine W.lcmp hx hb d_Mo_readWord_130 ?_
            refine lv_topi (fun x12 ex12 => ?_)
            refine lv_if_ne (tgt := 136) hx hb d_Mo_readWord_131 (by decide) (fun c131_3 => ?_) (fun c131_3 => ?_)
            · first | have fc131_3 : x12.toInt < 0 := (by have := zt_ne (show x12.toInt = _ from rfl) tI_0 c131_3; omega) | have fc131_3 : 0 < x12.toInt := (by have := zt_ne (show x12.toInt = _ from rfl) tI_0 c131_3; omega) | skip
              have vc131_3 : ¬ x11.toInt = v.toInt := by have := zr_cmp ex12 (show x11.toInt = _ from rfl) (show v.toInt = _ from rfl); have := zt_ne (show x12.toInt = _ from rfl) tI_0 c131_3; omega
              refine lv_iinc (v := (i + 1)) (lv' := [(5, .int (i + 1)), (3, .long v), (2, .int n), (0, .ref h0), (1, .int p0)]) hx hb d_Mo_readWord_136 hl (k := 0) rfl (by first | rfl | decide) (by decide) rfl (fun ls hl => ?_)
              obtain ⟨x13, ex13⟩ : ∃ z, z = (i + 1) := ⟨_, rfl⟩
              rw [← ex13] at hl
              have fx13 : x13.toInt = (i.toInt + 1) := by rw [ex13]; exact (zt_add (show i.toInt = _ from rfl) tI_1 (by omega) (by omega)).trans (by omega)
              have hl : lv_has ls 6 [(5, .int x13), (3, .long v), (2, .int n), (0, .ref h0), (1, .int p0)] := hl
              refine lv_goto (tgt := 113) hx hb d_Mo_readWord_139 (by decide) ?_
              exact ih2 (k2 - 1) x13 _ _ _ (by omega) ⟨(show 0 ≤ x13.toInt ∧ x13.toInt ≤ 40 ∧ 40 ≤ x13.toInt + (((k2 - 1) : Nat) : Int) by omega), hP, hD, hS, lv_sub hl [0, 1, 2, 3, 4] rfl⟩
            · have fc131_3 : x12.toInt = 0 := zt_eq (show x12.toInt = _ from rfl) tI_0 c131_3
              have vc131_3 : x11.toInt = v.toInt := by have := zr_cmp ex12 (show x11.toInt = _ from rfl) (show v.toInt = _ from rfl); have := zt_eq (show x12.toInt = _ from rfl) tI_0 c131_3; omega
              refine lv_iconst (v := 0) hx hb d_Mo_readWord_134 (by decide) ?_
              exact j_iret F hr hlocks hK hS ((((f_thrown S1), (upd (a_kinds S1) (40) p0), (vp_updL (a_codes S1) (40) v), (vf_upd (a_reals S1) (40) 0), (f_size S1), (f_taken S1), (a_words S1), (a_many S1)), S1.2.1, S1.2.2.1, S1.2.2.2.1, S1.2.2.2.2.1, S1.2.2.2.2.2) : MS) ⟨⟨i_size, i_taken, i_vals, i_room, i_dicts, i_deep, i_open, i_cells, i_points, i_part, i_length, i_knows, i_page, i_text, i_pats, i_fuel, i_fr, i_ink⟩, klR_S1, klF_S1, (show 0 ≤ (0 : Int32).toInt ∧ (0 : Int32).toInt ≤ 15 ∧ 0 ≤ (f_at S1).toInt ∧ (f_at S1).toInt ≤ (f_length S).toInt ∧ ((0 : Int32).toInt = 0 → (f_at S).toInt < (f_at S1).toInt) by have := tI_0; omega)⟩ hP hD d_Mo_readWord_135
        · have fc104_3 : 8 < n.toInt := Int.not_le.mp (zt_nle (show n.toInt = _ from rfl) tI_8 c104_3)
          refine lv_bipush (v := 15) hx hb d_Mo_readWord_107 (by decide) ?_
          exact j_iret F hr hlocks hK hS ((((f_thrown S1), (upd (a_kinds S1) (40) p0), (vp_updL (a_codes S1) (40) v), (vf_upd (a_reals S1) (40) 0), (f_size S1), (f_taken S1), (a_words S1), (a_many S1)), S1.2.1, S1.2.2.1, S1.2.2.2.1, S1.2.2.2.2.1, S1.2.2.2.2.2) : MS) ⟨⟨i_size, i_taken, i_vals, i_room, i_dicts, i_deep, i_open, i_cells, i_points, i_part, i_length, i_knows, i_page, i_text, i_pats, i_fuel, i_fr, i_ink⟩, klR_S1, klF_S1, (show 0 ≤ (15 : Int32).toInt ∧ (15 : Int32).toInt ≤ 15 ∧ 0 ≤ (f_at S1).toInt ∧ (f_at S1).toInt ≤ (f_length S).toInt ∧ ((15 : Int32).toInt = 0 → (f_at S).toInt < (f_at S1).toInt) by have := tI_15; omega)⟩ hP hD d_Mo_readWord_109
      · have fc87_2 : n.toInt < 12 := Int.not_le.mp (zt_nle tI_12 (show n.toInt = _ from rfl) c87_2)
        refine lv_aload_n hx hb d_Mo_readWord_90 rfl (lv_at hl 2 rfl) ?_
        refine lv_lload_n hx hb d_Mo_readWord_91 rfl (lv_at hl 0 rfl) ?_
        refine jm_ci (w := (fun _ => ((((f_thrown S1), (upd (a_kinds S1) (40) p0), (vp_updL (a_codes S1) (40) v), (vf_upd (a_reals S1) (40) 0), (f_size S1), (f_taken S1), (a_words S1), (a_many S1)), S1.2.1, S1.2.2.1, S1.2.2.2.1, S1.2.2.2.2.1, S1.2.2.2.2.2) : MS))) hK hP hD hS hA (va_runV (As := [.long v]) (rest := []) F (m_operatorOf l D T h0 ar ((((f_thrown S1), (upd (a_kinds S1) (40) p0), (vp_updL (a_codes S1) (40) v), (vf_upd (a_reals S1) (40) 0), (f_size S1), (f_taken S1), (a_words S1), (a_many S1)), S1.2.1, S1.2.2.1, S1.2.2.2.1, S1.2.2.2.2.1, S1.2.2.2.2.2) : MS) v H.size) (j_cV (k := 1) (C := "PageScribeModel") hts k_7_121 k_1_12 k_7_118 k_7_120 k_0_90 (by decide +kernel) ⟨Nat.le_of_ble_eq_true rfl, Nat.le_of_ble_eq_true rfl⟩) (jm_pre hK hP hD) rfl rfl hl.1 rfl (lv_room (Nat.le_of_ble_eq_true rfl)) d_Mo_readWord_92 ⟨Nat.le_of_ble_eq_true rfl, Nat.le_of_ble_eq_true rfl⟩) (fun rv5 u3 H locs hw5 hP hD hS => ?_)
        have hP : va_P D classes (mW T h0 ar ((((f_thrown S1), (upd (a_kinds S1) (40) p0), (vp_updL (a_codes S1) (40) v), (vf_upd (a_reals S1) (40) 0), (f_size S1), (f_taken S1), (a_words S1), (a_many S1)), S1.2.1, S1.2.2.1, S1.2.2.2.1, S1.2.2.2.2.1, S1.2.2.2.2.2) : MS)) H := hP
        have hD : va_D A (mW T h0 ar ((((f_thrown S1), (upd (a_kinds S1) (40) p0), (vp_updL (a_codes S1) (40) v), (vf_upd (a_reals S1) (40) 0), (f_size S1), (f_taken S1), (a_words S1), (a_many S1)), S1.2.1, S1.2.2.1, S1.2.2.2.1, S1.2.2.2.2.1, S1.2.2.2.2.2) : MS)) := hD
        have qhw5 : -1 ≤ rv5.toInt ∧ rv5.toInt ≤ 71 := hw5
        refine lv_iconst (v := (-1)) hx hb d_Mo_readWord_95 (by decide) ?_
        refine lv_icmp_eq (tgt := 101) hx hb d_Mo_readWord_96 (by decide) (fun c96_2 => ?_) (fun c96_2 => ?_)
        · have fc96_2 : rv5.toInt = (-1) := zt_eq (show rv5.toInt = _ from rfl) tI_m1 c96_2
          refine lv_iload_n hx hb d_Mo_readWord_101 rfl (lv_at hl 1 rfl) ?_
          refine lv_bipush (v := 8) hx hb d_Mo_readWord_102 (by decide) ?_
          refine lv_icmp_le (tgt := 110) hx hb d_Mo_readWord_104 (by decide) (fun c104_4 => ?_) (fun c104_4 => ?_)
          · have fc104_4 : n.toInt ≤ 8 := zt_le (show n.toInt = _ from rfl) tI_8 c104_4
            refine lv_iconst (v := 0) hx hb d_Mo_readWord_110 (by decide) ?_
            refine lv_istore (lv' := [(5, .int 0), (3, .long v), (2, .int n), (0, .ref h0), (1, .int p0)]) hx hb d_Mo_readWord_111 hl (by decide) rfl (fun ls hl => ?_)
            refine j_loop (α := Int32) (fun k x H locs ls => (0 ≤ x.toInt ∧ x.toInt ≤ 40 ∧ 40 ≤ x.toInt + ((k : Nat) : Int)) ∧ va_P D classes (mW T h0 ar ((((f_thrown S1), (upd (a_kinds S1) (40) p0), (vp_updL (a_codes S1) (40) v), (vf_upd (a_reals S1) (40) 0), (f_size S1), (f_taken S1), (a_words S1), (a_many S1)), S1.2.1, S1.2.2.1, S1.2.2.2.1, S1.2.2.2.2.1, S1.2.2.2.2.2) : MS)) H ∧ va_D A (mW T h0 ar ((((f_thrown S1), (upd (a_kinds S1) (40) p0), (vp_updL (a_codes S1) (40) v), (vf_upd (a_reals S1) (40) 0), (f_size S1), (f_taken S1), (a_words S1), (a_many S1)), S1.2.1, S1.2.2.1, S1.2.2.2.1, S1.2.2.2.2.1, S1.2.2.2.2.2) : MS)) ∧ va_S A s.heap H locs ∧ lv_has ls 6 [(5, .int x), (3, .long v), (2, .int n), (0, .ref h0), (1, .int p0)]) (fun _ _ ls => F0 m 113 ls []) (fun k2 x H locs ls hI9 ih2 => ?_) 40 (0 : Int32) _ _ _ ⟨(show 0 ≤ (0 : Int32).toInt ∧ (0 : Int32).toInt ≤ 40 ∧ 40 ≤ (0 : Int32).toInt + ((40 : Nat) : Int) by have := tI_0; omega), hP, hD, hS, lv_sub hl [0, 1, 2, 3, 4] rfl⟩
            obtain ⟨i, rfl⟩ : ∃ z, z = x := ⟨_, rfl⟩
            obtain ⟨hf5, hP, hD, hS, hl⟩ := hI9
            have hf5 : 0 ≤ i.toInt ∧ i.toInt ≤ 40 ∧ 40 ≤ i.toInt + ((k2 : Nat) : Int) := hf5
            have hP : va_P D classes (mW T h0 ar ((((f_thrown S1), (upd (a_kinds S1) (40) p0), (vp_updL (a_codes S1) (40) v), (vf_upd (a_reals S1) (40) 0), (f_size S1), (f_taken S1), (a_words S1), (a_many S1)), S1.2.1, S1.2.2.1, S1.2.2.2.1, S1.2.2.2.2.1, S1.2.2.2.2.2) : MS)) H := hP
            have hD : va_D A (mW T h0 ar ((((f_thrown S1), (upd (a_kinds S1) (40) p0), (vp_updL (a_codes S1) (40) v), (vf_upd (a_reals S1) (40) 0), (f_size S1), (f_taken S1), (a_words S1), (a_many S1)), S1.2.1, S1.2.2.1, S1.2.2.2.1, S1.2.2.2.2.1, S1.2.2.2.2.2) : MS)) := hD
            have hl : lv_has ls 6 [(5, .int i), (3, .long v), (2, .int n), (0, .ref h0), (1, .int p0)] := hl
            refine lv_iload hx hb d_Mo_readWord_113 (lv_at hl 0 rfl) ?_
            refine lv_aload_n hx hb d_Mo_readWord_115 rfl (lv_at hl 3 rfl) ?_
            refine va_get (D := D) (ci := 11) (v := .int (f_knows S1)) (C := "PageScribeModel") (T := F_Mo) (N := 45) hx hb hts i_Mo hown hK hP 0 mW_0 cl_11 30 (by decide) (hts _ k_6_190) (fun _ h9 => h9) (mg_knows _ _) d_Mo_readWord_116 ?_
            refine lv_icmp_ge (tgt := 142) hx hb d_Mo_readWord_119 (by decide) (fun c119_4 => ?_) (fun c119_4 => ?_)
            · have fc119_4 : (f_knows S1).toInt ≤ i.toInt := zt_le (show (f_knows S1).toInt = _ from rfl) (show i.toInt = _ from rfl) c119_4
              refine lv_aload_n hx hb d_Mo_readWord_142 rfl (lv_at hl 3 rfl) ?_
              refine va_get (D := D) (ci := 11) (v := .int (f_knows S1)) (C := "PageScribeModel") (T := F_Mo) (N := 45) hx hb hts i_Mo hown hK hP 0 mW_0 cl_11 30 (by decide) (hts _ k_6_190) (fun _ h9 => h9) (mg_knows _ _) d_Mo_readWord_143 ?_
              refine lv_bipush (v := 40) hx hb d_Mo_readWord_146 (by decide) ?_
              refine lv_icmp_ne (tgt := 154) hx hb d_Mo_readWord_148 (by decide) (fun c148_4 => ?_) (fun c148_4 => ?_)
              · first | have fc148_4 : (f_knows S1).toInt < 40 := (by have := zt_ne (show (f_knows S1).toInt = _ from rfl) tI_40 c148_4; omega) | have fc148_4 : 40 < (f_knows S1).toInt := (by have := zt_ne (show (f_knows S1).toInt = _ from rfl) tI_40 c148_4; omega) | skip
                refine lv_aload_n hx hb d_Mo_readWord_154 rfl (lv_at hl 3 rfl) ?_
                refine va_get (D := D) (ci := 11) (v := .ref (ar 17)) (C := "PageScribeModel") (T := F_Mo) (N := 45) hx hb hts i_Mo hown hK hP 0 mW_0 cl_11 29 (by decide) (hts _ k_6_189) (fun _ h9 => h9) (mg_known _ _) d_Mo_readWord_155 ?_
                refine lv_aload_n hx hb d_Mo_readWord_158 rfl (lv_at hl 3 rfl) ?_
                refine va_get (D := D) (ci := 11) (v := .int (f_knows S1)) (C := "PageScribeModel") (T := F_Mo) (N := 45) hx hb hts i_Mo hown hK hP 0 mW_0 cl_11 30 (by decide) (hts _ k_6_190) (fun _ h9 => h9) (mg_knows _ _) d_Mo_readWord_159 ?_
                refine lv_lload_n hx hb d_Mo_readWord_162 rfl (lv_at hl 1 rfl) ?_
                refine va_last hx hb hK hP hD hS 18 1 (ma_known _ _ _ _) rfl (zt_in (show (f_knows S1).toInt = _ from rfl) (by omega) (by omega)) d_Mo_readWord_163 (fun H locs hP hD hS => ?_)
                rw [ms_known] at hP hD
                rw [zt_ix (show (f_knows S1).toInt = _ from rfl)] at hP hD
                have hP : va_P D classes (mW T h0 ar ((((f_thrown S1), (upd (a_kinds S1) (40) p0), (vp_updL (a_codes S1) (40) v), (vf_upd (a_reals S1) (40) 0), (f_size S1), (f_taken S1), (a_words S1), (a_many S1)), S1.2.1, S1.2.2.1, ((f_length S1), (f_at S1), (f_pending S1), (f_level S1), (a_starts S1), (vp_updL (a_known S1) ((f_knows S1).toInt.toNat) v), (f_knows S1), (f_fuel S1)), S1.2.2.2.2.1, S1.2.2.2.2.2) : MS)) H := hP
                have hD : va_D A (mW T h0 ar ((((f_thrown S1), (upd (a_kinds S1) (40) p0), (vp_updL (a_codes S1) (40) v), (vf_upd (a_reals S1) (40) 0), (f_size S1), (f_taken S1), (a_words S1), (a_many S1)), S1.2.1, S1.2.2.1, ((f_length S1), (f_at S1), (f_pending S1), (f_level S1), (a_starts S1), (vp_updL (a_known S1) ((f_knows S1).toInt.toNat) v), (f_knows S1), (f_fuel S1)), S1.2.2.2.2.1, S1.2.2.2.2.2) : MS)) := hD
                refine lv_aload_n hx hb d_Mo_readWord_164 rfl (lv_at hl 3 rfl) ?_
                refine lv_dup hx hb d_Mo_readWord_165 rfl ?_
                refine va_get (D := D) (ci := 11) (v := .int (f_knows S1)) (C := "PageScribeModel") (T := F_Mo) (N := 45) hx hb hts i_Mo hown hK hP 0 mW_0 cl_11 30 (by decide) (hts _ k_6_190) (fun _ h9 => h9) (mg_knows _ _) d_Mo_readWord_166 ?_
                refine lv_iconst (v := 1) hx hb d_Mo_readWord_169 (by decide) ?_
                refine lv_iadd hx hb d_Mo_readWord_170 ?_
                refine lv_topi (fun x14 ex14 => ?_)
                have fx14 : x14.toInt = ((f_knows S1).toInt + 1) := by rw [ex14]; exact (zt_add (show (f_knows S1).toInt = _ from rfl) tI_1 (by omega) (by omega)).trans (by omega)
                refine va_put (D := D) (ci := 11) (v := .int x14) (ty := .int) (C := "PageScribeModel") (T := F_Mo) (N := 45) hx hb hts i_Mo t_Mo t_Mo_ok n_Mo hown hK hP hD hS 0 mW_0 cl_11 30 (by decide) (hts _ k_6_190) (fun _ h9 => h9) rfl (by decide +kernel) rfl rfl (Nat.le_of_ble_eq_true rfl) d_Mo_readWord_171 (fun H locs hP hD hS => ?_)
                rw [mp_knows] at hP hD
                have hP : va_P D classes (mW T h0 ar ((((f_thrown S1), (upd (a_kinds S1) (40) p0), (vp_updL (a_codes S1) (40) v), (vf_upd (a_reals S1) (40) 0), (f_size S1), (f_taken S1), (a_words S1), (a_many S1)), S1.2.1, S1.2.2.1, ((f_length S1), (f_at S1), (f_pending S1), (f_level S1), (a_starts S1), (vp_updL (a_known S1) ((f_knows S1).toInt.toNat) v), x14, (f_fuel S1)), S1.2.2.2.2.1, S1.2.2.2.2.2) : MS)) H := hP
                have hD : va_D A (mW T h0 ar ((((f_thrown S1), (upd (a_kinds S1) (40) p0), (vp_updL (a_codes S1) (40) v), (vf_upd (a_reals S1) (40) 0), (f_size S1), (f_taken S1), (a_words S1), (a_many S1)), S1.2.1, S1.2.2.1, ((f_length S1), (f_at S1), (f_pending S1), (f_level S1), (a_starts S1), (vp_updL (a_known S1) ((f_knows S1).toInt.toNat) v), x14, (f_fuel S1)), S1.2.2.2.2.1, S1.2.2.2.2.2) : MS)) := hD
                refine lv_iconst (v := 0) hx hb d_Mo_readWord_174 (by decide) ?_
                exact j_iret F hr hlocks hK hS ((((f_thrown S1), (upd (a_kinds S1) (40) p0), (vp_updL (a_codes S1) (40) v), (vf_upd (a_reals S1) (40) 0), (f_size S1), (f_taken S1), (a_words S1), (a_many S1)), S1.2.1, S1.2.2.1, ((f_length S1), (f_at S1), (f_pending S1), (f_level S1), (a_starts S1), (vp_updL (a_known S1) ((f_knows S1).toInt.toNat) v), x14, (f_fuel S1)), S1.2.2.2.2.1, S1.2.2.2.2.2) : MS) ⟨⟨i_size, i_taken, i_vals, i_room, i_dicts, i_deep, i_open, i_cells, i_points, i_part, i_length, (show 0 ≤ x14.toInt ∧ x14.toInt ≤ 40 by omega), i_page, i_text, i_pats, i_fuel, i_fr, i_ink⟩, klR_S1, klF_S1, (show 0 ≤ (0 : Int32).toInt ∧ (0 : Int32).toInt ≤ 15 ∧ 0 ≤ (f_at S1).toInt ∧ (f_at S1).toInt ≤ (f_length S).toInt ∧ ((0 : Int32).toInt = 0 → (f_at S).toInt < (f_at S1).toInt) by have := tI_0; omega)⟩ hP hD d_Mo_readWord_175
              · have fc148_4 : (f_knows S1).toInt = 40 := zt_eq (show (f_knows S1).toInt = _ from rfl) tI_40 c148_4
                refine lv_bipush (v := 7) hx hb d_Mo_readWord_151 (by decide) ?_
                exact j_iret F hr hlocks hK hS ((((f_thrown S1), (upd (a_kinds S1) (40) p0), (vp_updL (a_codes S1) (40) v), (vf_upd (a_reals S1) (40) 0), (f_size S1), (f_taken S1), (a_words S1), (a_many S1)), S1.2.1, S1.2.2.1, S1.2.2.2.1, S1.2.2.2.2.1, S1.2.2.2.2.2) : MS) ⟨⟨i_size, i_taken, i_vals, i_room, i_dicts, i_deep, i_open, i_cells, i_points, i_part, i_length, i_knows, i_page, i_text, i_pats, i_fuel, i_fr, i_ink⟩, klR_S1, klF_S1, (show 0 ≤ (7 : Int32).toInt ∧ (7 : Int32).toInt ≤ 15 ∧ 0 ≤ (f_at S1).toInt ∧ (f_at S1).toInt ≤ (f_length S).toInt ∧ ((7 : Int32).toInt = 0 → (f_at S).toInt < (f_at S1).toInt) by have := tI_7; omega)⟩ hP hD d_Mo_readWord_153
            · have fc119_4 : i.toInt < (f_knows S1).toInt := Int.not_le.mp (zt_nle (show (f_knows S1).toInt = _ from rfl) (show i.toInt = _ from rfl) c119_4)
              refine lv_aload_n hx hb d_Mo_readWord_122 rfl (lv_at hl 3 rfl) ?_
              refine va_get (D := D) (ci := 11) (v := .ref (ar 17)) (C := "PageScribeModel") (T := F_Mo) (N := 45) hx hb hts i_Mo hown hK hP 0 mW_0 cl_11 29 (by decide) (hts _ k_6_189) (fun _ h9 => h9) (mg_known _ _) d_Mo_readWord_123 ?_
              refine lv_iload hx hb d_Mo_readWord_126 (lv_at hl 0 rfl) ?_
              refine va_lald hx hb hK hP 18 1 (ma_known _ _ _ _) rfl (zt_in (show i.toInt = _ from rfl) (by omega) (by omega)) d_Mo_readWord_128 ?_
              refine lv_topl (fun x15 ex15 => ?_)
              have gx15 : x15 = (a_known S1) i.toInt.toNat := ex15.trans (congrArg _ (zt_ix (show i.toInt = _ from rfl)))
              have fx15 : x15.toInt = ((a_known S1) i.toInt.toNat).toInt := by rw [gx15]
              refine lv_lload_n hx hb d_Mo_readWord_129 rfl (lv_at hl 1 rfl) ?_
              refine W.lcmp hx hb d_Mo_readWord_130 ?_
              refine lv_topi (fun x16 ex16 => ?_)
              refine lv_if_ne (tgt := 136) hx hb d_Mo_readWord_131 (by decide) (fun c131_4 => ?_) (fun c131_4 => ?_)
              · first | have fc131_4 : x16.toInt < 0 := (by have := zt_ne (show x16.toInt = _ from rfl) tI_0 c131_4; omega) | have fc131_4 : 0 < x16.toInt := (by have := zt_ne (show x16.toInt = _ from rfl) tI_0 c131_4; omega) | skip
                have vc131_4 : ¬ x15.toInt = v.toInt := by have := zr_cmp ex16 (show x15.toInt = _ from rfl) (show v.toInt = _ from rfl); have := zt_ne (show x16.toInt = _ from rfl) tI_0 c131_4; omega
                refine lv_iinc (v := (i + 1)) (lv' := [(5, .int (i + 1)), (3, .long v), (2, .int n), (0, .ref h0), (1, .int p0)]) hx hb d_Mo_readWord_136 hl (k := 0) rfl (by first | rfl | decide) (by decide) rfl (fun ls hl => ?_)
                obtain ⟨x17, ex17⟩ : ∃ z, z = (i + 1) := ⟨_, rfl⟩
                rw [← ex17] at hl
                have fx17 : x17.toInt = (i.toInt + 1) := by rw [ex17]; exact (zt_add (show i.toInt = _ from rfl) tI_1 (by omega) (by omega)).trans (by omega)
                have hl : lv_has ls 6 [(5, .int x17), (3, .long v), (2, .int n), (0, .ref h0), (1, .int p0)] := hl
                refine lv_goto (tgt := 113) hx hb d_Mo_readWord_139 (by decide) ?_
                exact ih2 (k2 - 1) x17 _ _ _ (by omega) ⟨(show 0 ≤ x17.toInt ∧ x17.toInt ≤ 40 ∧ 40 ≤ x17.toInt + (((k2 - 1) : Nat) : Int) by omega), hP, hD, hS, lv_sub hl [0, 1, 2, 3, 4] rfl⟩
              · have fc131_4 : x16.toInt = 0 := zt_eq (show x16.toInt = _ from rfl) tI_0 c131_4
                have vc131_4 : x15.toInt = v.toInt := by have := zr_cmp ex16 (show x15.toInt = _ from rfl) (show v.toInt = _ from rfl); have := zt_eq (show x16.toInt = _ from rfl) tI_0 c131_4; omega
                refine lv_iconst (v := 0) hx hb d_Mo_readWord_134 (by decide) ?_
                exact j_iret F hr hlocks hK hS ((((f_thrown S1), (upd (a_kinds S1) (40) p0), (vp_updL (a_codes S1) (40) v), (vf_upd (a_reals S1) (40) 0), (f_size S1), (f_taken S1), (a_words S1), (a_many S1)), S1.2.1, S1.2.2.1, S1.2.2.2.1, S1.2.2.2.2.1, S1.2.2.2.2.2) : MS) ⟨⟨i_size, i_taken, i_vals, i_room, i_dicts, i_deep, i_open, i_cells, i_points, i_part, i_length, i_knows, i_page, i_text, i_pats, i_fuel, i_fr, i_ink⟩, klR_S1, klF_S1, (show 0 ≤ (0 : Int32).toInt ∧ (0 : Int32).toInt ≤ 15 ∧ 0 ≤ (f_at S1).toInt ∧ (f_at S1).toInt ≤ (f_length S).toInt ∧ ((0 : Int32).toInt = 0 → (f_at S).toInt < (f_at S1).toInt) by have := tI_0; omega)⟩ hP hD d_Mo_readWord_135
          · have fc104_4 : 8 < n.toInt := Int.not_le.mp (zt_nle (show n.toInt = _ from rfl) tI_8 c104_4)
            refine lv_bipush (v := 15) hx hb d_Mo_readWord_107 (by decide) ?_
            exact j_iret F hr hlocks hK hS ((((f_thrown S1), (upd (a_kinds S1) (40) p0), (vp_updL (a_codes S1) (40) v), (vf_upd (a_reals S1) (40) 0), (f_size S1), (f_taken S1), (a_words S1), (a_many S1)), S1.2.1, S1.2.2.1, S1.2.2.2.1, S1.2.2.2.2.1, S1.2.2.2.2.2) : MS) ⟨⟨i_size, i_taken, i_vals, i_room, i_dicts, i_deep, i_open, i_cells, i_points, i_part, i_length, i_knows, i_page, i_text, i_pats, i_fuel, i_fr, i_ink⟩, klR_S1, klF_S1, (show 0 ≤ (15 : Int32).toInt ∧ (15 : Int32).toInt ≤ 15 ∧ 0 ≤ (f_at S1).toInt ∧ (f_at S1).toInt ≤ (f_length S).toInt ∧ ((15 : Int32).toInt = 0 → (f_at S).toInt < (f_at S1).toInt) by have := tI_15; omega)⟩ hP hD d_Mo_readWord_109
        · first | have fc96_2 : rv5.toInt < (-1) := (by have := zt_ne (show rv5.toInt = _ from rfl) tI_m1 c96_2; omega) | have fc96_2 : (-1) < rv5.toInt := (by have := zt_ne (show rv5.toInt = _ from rfl) tI_m1 c96_2; omega) | skip
          refine lv_iconst (v := 0) hx hb d_Mo_readWord_99 (by decide) ?_
          exact j_iret F hr hlocks hK hS ((((f_thrown S1), (upd (a_kinds S1) (40) p0), (vp_updL (a_codes S1) (40) v), (vf_upd (a_reals S1) (40) 0), (f_size S1), (f_taken S1), (a_words S1), (a_many S1)), S1.2.1, S1.2.2.1, S1.2.2.2.1, S1.2.2.2.2.1, S1.2.2.2.2.2) : MS) ⟨⟨i_size, i_taken, i_vals, i_room, i_dicts, i_deep, i_open, i_cells, i_points, i_part, i_length, i_knows, i_page, i_text, i_pats, i_fuel, i_fr, i_ink⟩, klR_S1, klF_S1, (show 0 ≤ (0 : Int32).toInt ∧ (0 : Int32).toInt ≤ 15 ∧ 0 ≤ (f_at S1).toInt ∧ (f_at S1).toInt ≤ (f_length S).toInt ∧ ((0 : Int32).toInt = 0 → (f_at S).toInt < (f_at S1).toInt) by have := tI_0; omega)⟩ hP hD d_Mo_readWord_100
    · first | have fc27_1 : rv3.toInt < 0 := (by have := zt_ne (show rv3.toInt = _ from rfl) tI_0 c27_1; omega) | have fc27_1 : 0 < rv3.toInt := (by have := zt_ne (show rv3.toInt = _ from rfl) tI_0 c27_1; omega) | skip
      refine j_joinH (α := Int64) (fun x H locs ls => (True) ∧ va_P D classes (mW T h0 ar S1) H ∧ va_D A (mW T h0 ar S1) ∧ va_S A s.heap H locs ∧ lv_has ls 6 [(3, .long v), (2, .int n), (0, .ref h0), (1, .int p0)]) (fun x ls => F0 m 59 ls (.long x :: [])) (fun x H locs ls hI9 => ?_) (fun key1 => ?_)
      · obtain ⟨j1, rfl⟩ : ∃ z, z = x := ⟨_, rfl⟩
        obtain ⟨hj1, hP, hD, hS, hl⟩ := hI9
        have hP : va_P D classes (mW T h0 ar S1) H := hP
        have hD : va_D A (mW T h0 ar S1) := hD
        have hl : lv_has ls 6 [(3, .long v), (2, .int n), (0, .ref h0), (1, .int p0)] := hl
        refine lv_lstore_n (lv' := [(3, .long j1), (2, .int n), (0, .ref h0), (1, .int p0)]) hx hb d_Mo_readWord_59 rfl hl (by decide) rfl (fun ls hl => ?_)
        refine lv_iinc (v := (n + 1)) (lv' := [(2, .int (n + 1)), (3, .long j1), (0, .ref h0), (1, .int p0)]) hx hb d_Mo_readWord_60 hl (k := 1) rfl (by first | rfl | decide) (by decide) rfl (fun ls hl => ?_)
        obtain ⟨x18, ex18⟩ : ∃ z, z = (n + 1) := ⟨_, rfl⟩
        rw [← ex18] at hl
        have fx18 : x18.toInt = (n.toInt + 1) := by rw [ex18]; exact (zt_add (show n.toInt = _ from rfl) tI_1 (by omega) (by omega)).trans (by omega)
        have hl : lv_has ls 6 [(2, .int x18), (3, .long j1), (0, .ref h0), (1, .int p0)] := hl
        refine lv_aload_n hx hb d_Mo_readWord_63 rfl (lv_at hl 2 rfl) ?_
        refine lv_dup hx hb d_Mo_readWord_64 rfl ?_
        refine va_get (D := D) (ci := 11) (v := .int (f_at S1)) (C := "PageScribeModel") (T := F_Mo) (N := 45) hx hb hts i_Mo hown hK hP 0 mW_0 cl_11 25 (by decide) (hts _ k_6_185) (fun _ h9 => h9) (mg_at _ _) d_Mo_readWord_65 ?_
        refine lv_iconst (v := 1) hx hb d_Mo_readWord_68 (by decide) ?_
        refine lv_iadd hx hb d_Mo_readWord_69 ?_
        refine lv_topi (fun x19 ex19 => ?_)
        have fx19 : x19.toInt = ((f_at S1).toInt + 1) := by rw [ex19]; exact (zt_add (show (f_at S1).toInt = _ from rfl) tI_1 (by omega) (by omega)).trans (by omega)
        refine va_put (D := D) (ci := 11) (v := .int x19) (ty := .int) (C := "PageScribeModel") (T := F_Mo) (N := 45) hx hb hts i_Mo t_Mo t_Mo_ok n_Mo hown hK hP hD hS 0 mW_0 cl_11 25 (by decide) (hts _ k_6_185) (fun _ h9 => h9) rfl (by decide +kernel) rfl rfl (Nat.le_of_ble_eq_true rfl) d_Mo_readWord_70 (fun H locs hP hD hS => ?_)
        rw [mp_at] at hP hD
        have hP : va_P D classes (mW T h0 ar ((S1.1, S1.2.1, S1.2.2.1, ((f_length S1), x19, (f_pending S1), (f_level S1), (a_starts S1), (a_known S1), (f_knows S1), (f_fuel S1)), S1.2.2.2.2.1, S1.2.2.2.2.2) : MS)) H := hP
        have hD : va_D A (mW T h0 ar ((S1.1, S1.2.1, S1.2.2.1, ((f_length S1), x19, (f_pending S1), (f_level S1), (a_starts S1), (a_known S1), (f_knows S1), (f_fuel S1)), S1.2.2.2.2.1, S1.2.2.2.2.2) : MS)) := hD
        refine lv_goto (tgt := 4) hx hb d_Mo_readWord_73 (by decide) ?_
        exact ih (k - 1) (((S1.1, S1.2.1, S1.2.2.1, ((f_length S1), x19, (f_pending S1), (f_level S1), (a_starts S1), (a_known S1), (f_knows S1), (f_fuel S1)), S1.2.2.2.2.1, S1.2.2.2.2.2) : MS), x18, j1) _ _ _ (by omega) ⟨(show 0 ≤ x18.toInt ∧ x18.toInt ≤ x19.toInt ∧ x19.toInt ≤ (f_length S).toInt ∧ 120 ≤ x19.toInt + (((k - 1) : Nat) : Int) ∧ (f_at S).toInt ≤ x19.toInt ∧ (f_length S).toInt ≤ 120 ∧ (f_length S1).toInt = (f_length S).toInt by omega), ⟨i_size, i_taken, i_vals, i_room, i_dicts, i_deep, i_open, i_cells, i_points, i_part, i_length, i_knows, i_page, i_text, i_pats, i_fuel, i_fr, i_ink⟩, (show kR S ((S1.1, S1.2.1, S1.2.2.1, ((f_length S1), x19, (f_pending S1), (f_level S1), (a_starts S1), (a_known S1), (f_knows S1), (f_fuel S1)), S1.2.2.2.2.1, S1.2.2.2.2.2) : MS) from klR_S1), (show kF S ((S1.1, S1.2.1, S1.2.2.1, ((f_length S1), x19, (f_pending S1), (f_level S1), (a_starts S1), (a_known S1), (f_knows S1), (f_fuel S1)), S1.2.2.2.2.1, S1.2.2.2.2.2) : MS) from klF_S1), hP, hD, hS, lv_sub hl [1, 0, 2, 3] rfl⟩
      · refine lv_iload_n hx hb d_Mo_readWord_30 rfl (lv_at hl 1 rfl) ?_
        refine lv_bipush (v := 12) hx hb d_Mo_readWord_31 (by decide) ?_
        refine lv_icmp_ge (tgt := 58) hx hb d_Mo_readWord_33 (by decide) (fun c33_1 => ?_) (fun c33_1 => ?_)
        · have fc33_1 : 12 ≤ n.toInt := zt_le tI_12 (show n.toInt = _ from rfl) c33_1
          refine lv_lload_n hx hb d_Mo_readWord_58 rfl (lv_at hl 0 rfl) ?_
          exact key1 (v) _ _ _ ⟨trivial, hP, hD, hS, lv_sub hl [0, 1, 2, 3] rfl⟩
        · have fc33_1 : n.toInt < 12 := Int.not_le.mp (zt_nle tI_12 (show n.toInt = _ from rfl) c33_1)
          refine lv_lload_n hx hb d_Mo_readWord_36 rfl (lv_at hl 0 rfl) ?_
          refine lv_aload_n hx hb d_Mo_readWord_37 rfl (lv_at hl 2 rfl) ?_
          refine va_get (D := D) (ci := 11) (v := .ref (ar 15)) (C := "PageScribeModel") (T := F_Mo) (N := 45) hx hb hts i_Mo hown hK hP 0 mW_0 cl_11 23 (by decide) (hts _ k_6_183) (fun _ h9 => h9) (mg_text _ _) d_Mo_readWord_38 ?_
          refine lv_aload_n hx hb d_Mo_readWord_41 rfl (lv_at hl 2 rfl) ?_
          refine va_get (D := D) (ci := 11) (v := .int (f_at S1)) (C := "PageScribeModel") (T := F_Mo) (N := 45) hx hb hts i_Mo hown hK hP 0 mW_0 cl_11 25 (by decide) (hts _ k_6_185) (fun _ h9 => h9) (mg_at _ _) d_Mo_readWord_42 ?_
          refine va_cald hx hb hK hP 16 2 (ma_text _ _ _ _) rfl (zt_in (show (f_at S1).toInt = _ from rfl) (by omega) (by omega)) d_Mo_readWord_45 ?_
          refine j_eqi (y := x9) ex9.symm ?_
          refine lv_bipush (v := 96) hx hb d_Mo_readWord_46 (by decide) ?_
          refine lv_isub hx hb d_Mo_readWord_48 ?_
          refine lv_topi (fun x20 ex20 => ?_)
          have fx20 : x20.toInt = (x9.toInt - 96) := by rw [ex20]; exact (zt_sub (show x9.toInt = _ from rfl) tI_96 (by omega) (by omega)).trans (by omega)
          refine lv_i2l (v := (x20).toInt64) hx hb d_Mo_readWord_49 rfl ?_
          refine lv_topl (fun x21 ex21 => ?_)
          have fx21 : x21.toInt = (x9.toInt - 96) := by rw [ex21]; exact zu_i2l fx20
          refine lv_iconst (v := 5) hx hb d_Mo_readWord_50 (by decide) ?_
          refine lv_iload_n hx hb d_Mo_readWord_51 rfl (lv_at hl 1 rfl) ?_
          refine lv_imul hx hb d_Mo_readWord_52 ?_
          refine lv_topi (fun x22 ex22 => ?_)
          refine lv_lshl (v := (x21 <<< ((x22 : Int32).toInt64 &&& 63))) hx hb d_Mo_readWord_53 rfl ?_
          refine lv_topl (fun x23 ex23 => ?_)
          refine lv_lor hx hb d_Mo_readWord_54 ?_
          refine lv_topl (fun x24 ex24 => ?_)
          refine lv_goto (tgt := 59) hx hb d_Mo_readWord_55 (by decide) ?_
          exact key1 (x24) _ _ _ ⟨trivial, hP, hD, hS, lv_sub hl [0, 1, 2, 3] rfl⟩
