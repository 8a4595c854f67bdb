theorem d_Mo_token_0 : decode prog_15_method_27_code 0 = .ok (.aload_n 0, 1) := by decide +kernel
theorem d_Mo_token_1 : decode prog_15_method_27_code 1 = .ok (.iconst 0, 1) := by decide +kernel
theorem d_Mo_token_2 : decode prog_15_method_27_code 2 = .ok (.putfield 330, 3) := by decide +kernel
theorem d_Mo_token_5 : decode prog_15_method_27_code 5 = .ok (.aload_n 0, 1) := by decide +kernel
theorem d_Mo_token_6 : decode prog_15_method_27_code 6 = .ok (.iconst 0, 1) := by decide +kernel
theorem d_Mo_token_7 : decode prog_15_method_27_code 7 = .ok (.putfield 333, 3) := by decide +kernel
theorem d_Mo_token_10 : decode prog_15_method_27_code 10 = .ok (.iconst 0, 1) := by decide +kernel
theorem d_Mo_token_11 : decode prog_15_method_27_code 11 = .ok (.istore_n 1, 1) := by decide +kernel
theorem d_Mo_token_12 : decode prog_15_method_27_code 12 = .ok (.iload_n 1, 1) := by decide +kernel
theorem d_Mo_token_13 : decode prog_15_method_27_code 13 = .ok (.sipush 300, 3) := by decide +kernel
theorem d_Mo_token_16 : decode prog_15_method_27_code 16 = .ok (.if_icmp .ge 196, 3) := by decide +kernel
theorem tI_300 : (300 : Int32).toInt = 300 := by decide +kernel
theorem d_Mo_token_212 : decode prog_15_method_27_code 212 = .ok (.bipush 15, 2) := by decide +kernel
theorem d_Mo_token_214 : decode prog_15_method_27_code 214 = .ok (.ireturn, 1) := by decide +kernel
theorem d_Mo_token_19 : decode prog_15_method_27_code 19 = .ok (.aload_n 0, 1) := by decide +kernel
theorem d_Mo_token_20 : decode prog_15_method_27_code 20 = .ok (.getfield 281, 3) := by decide +kernel
theorem d_Mo_token_23 : decode prog_15_method_27_code 23 = .ok (.aload_n 0, 1) := by decide +kernel
theorem d_Mo_token_24 : decode prog_15_method_27_code 24 = .ok (.getfield 270, 3) := by decide +kernel
theorem d_Mo_token_27 : decode prog_15_method_27_code 27 = .ok (.if_icmp .ge 30, 3) := by decide +kernel
theorem d_Mo_token_57 : decode prog_15_method_27_code 57 = .ok (.aload_n 0, 1) := by decide +kernel
theorem d_Mo_token_58 : decode prog_15_method_27_code 58 = .ok (.getfield 281, 3) := by decide +kernel
theorem d_Mo_token_61 : decode prog_15_method_27_code 61 = .ok (.aload_n 0, 1) := by decide +kernel
theorem d_Mo_token_62 : decode prog_15_method_27_code 62 = .ok (.getfield 270, 3) := by decide +kernel
theorem d_Mo_token_65 : decode prog_15_method_27_code 65 = .ok (.if_icmp .ne 17, 3) := by decide +kernel
theorem d_Mo_token_82 : decode prog_15_method_27_code 82 = .ok (.aload_n 0, 1) := by decide +kernel
theorem d_Mo_token_83 : decode prog_15_method_27_code 83 = .ok (.getfield 61, 3) := by decide +kernel
theorem d_Mo_token_86 : decode prog_15_method_27_code 86 = .ok (.aload_n 0, 1) := by decide +kernel
theorem d_Mo_token_87 : decode prog_15_method_27_code 87 = .ok (.getfield 281, 3) := by decide +kernel
theorem d_Mo_token_90 : decode prog_15_method_27_code 90 = .ok (.caload, 1) := by decide +kernel
theorem d_Mo_token_91 : decode prog_15_method_27_code 91 = .ok (.bipush 123, 2) := by decide +kernel
theorem d_Mo_token_93 : decode prog_15_method_27_code 93 = .ok (.if_icmp .ne 50, 3) := by decide +kernel
theorem tI_123 : (123 : Int32).toInt = 123 := by decide +kernel
theorem d_Mo_token_168 : decode prog_15_method_27_code 168 = .ok (.istore_n 2, 1) := by decide +kernel
theorem d_Mo_token_169 : decode prog_15_method_27_code 169 = .ok (.iload_n 2, 1) := by decide +kernel
theorem d_Mo_token_170 : decode prog_15_method_27_code 170 = .ok (.ifCond .ne 10, 3) := by decide +kernel
theorem d_Mo_token_180 : decode prog_15_method_27_code 180 = .ok (.iload_n 2, 1) := by decide +kernel
theorem d_Mo_token_181 : decode prog_15_method_27_code 181 = .ok (.ireturn, 1) := by decide +kernel
theorem d_Mo_token_173 : decode prog_15_method_27_code 173 = .ok (.aload_n 0, 1) := by decide +kernel
theorem d_Mo_token_174 : decode prog_15_method_27_code 174 = .ok (.getfield 330, 3) := by decide +kernel
theorem d_Mo_token_177 : decode prog_15_method_27_code 177 = .ok (.ifCond .ne 5, 3) := by decide +kernel
theorem d_Mo_token_182 : decode prog_15_method_27_code 182 = .ok (.aload_n 0, 1) := by decide +kernel
theorem d_Mo_token_183 : decode prog_15_method_27_code 183 = .ok (.sipush 1170, 3) := by decide +kernel
theorem d_Mo_token_186 : decode prog_15_method_27_code 186 = .ok (.aload_n 0, 1) := by decide +kernel
theorem d_Mo_token_187 : decode prog_15_method_27_code 187 = .ok (.getfield 333, 3) := by decide +kernel
theorem d_Mo_token_190 : decode prog_15_method_27_code 190 = .ok (.iadd, 1) := by decide +kernel
theorem d_Mo_token_191 : decode prog_15_method_27_code 191 = .ok (.bipush 40, 2) := by decide +kernel
theorem d_Mo_token_193 : decode prog_15_method_27_code 193 = .ok (.invokevirtual 254, 3) := by decide +kernel
theorem d_Mo_token_196 : decode prog_15_method_27_code 196 = .ok (.aload_n 0, 1) := by decide +kernel
theorem d_Mo_token_197 : decode prog_15_method_27_code 197 = .ok (.dup, 1) := by decide +kernel
theorem d_Mo_token_198 : decode prog_15_method_27_code 198 = .ok (.getfield 333, 3) := by decide +kernel
theorem d_Mo_token_201 : decode prog_15_method_27_code 201 = .ok (.iconst 1, 1) := by decide +kernel
theorem d_Mo_token_202 : decode prog_15_method_27_code 202 = .ok (.iadd, 1) := by decide +kernel
theorem d_Mo_token_203 : decode prog_15_method_27_code 203 = .ok (.putfield 333, 3) := by decide +kernel
theorem d_Mo_token_206 : decode prog_15_method_27_code 206 = .ok (.iinc 1 1, 3) := by decide +kernel
theorem d_Mo_token_209 : decode prog_15_method_27_code 209 = .ok (.goto (-197), 3) := by decide +kernel
theorem d_Mo_token_143 : decode prog_15_method_27_code 143 = .ok (.aload_n 0, 1) := by decide +kernel
theorem d_Mo_token_144 : decode prog_15_method_27_code 144 = .ok (.getfield 61, 3) := by decide +kernel
theorem d_Mo_token_147 : decode prog_15_method_27_code 147 = .ok (.aload_n 0, 1) := by decide +kernel
theorem d_Mo_token_148 : decode prog_15_method_27_code 148 = .ok (.getfield 281, 3) := by decide +kernel
theorem d_Mo_token_151 : decode prog_15_method_27_code 151 = .ok (.caload, 1) := by decide +kernel
theorem d_Mo_token_152 : decode prog_15_method_27_code 152 = .ok (.bipush 125, 2) := by decide +kernel
theorem d_Mo_token_154 : decode prog_15_method_27_code 154 = .ok (.if_icmp .ne 10, 3) := by decide +kernel
theorem tI_125 : (125 : Int32).toInt = 125 := by decide +kernel
theorem d_Mo_token_164 : decode prog_15_method_27_code 164 = .ok (.aload_n 0, 1) := by decide +kernel
theorem d_Mo_token_165 : decode prog_15_method_27_code 165 = .ok (.invokevirtual 343, 3) := by decide +kernel
theorem k_7_85 : Cond.code ⟨"PageScribeModel", "readSimple", "()I"⟩ prog_15_method_24_code 2 (some .int) ∈ gw := gw_of (tb_7 (List.mem_of_getElem? (i := 85) (by decide +kernel))) (by decide +kernel)
theorem k_7_82 : Cond.methodLink "PageScribeModel" 343 ⟨"PageScribeModel", "readSimple", "()I"⟩ ∈ gw := gw_of (tb_7 (List.mem_of_getElem? (i := 82) (by decide +kernel))) (by decide +kernel)
theorem k_7_84 : Cond.instanceMethod ⟨"PageScribeModel", "readSimple", "()I"⟩ ∈ gw := gw_of (tb_7 (List.mem_of_getElem? (i := 84) (by decide +kernel))) (by decide +kernel)
theorem k_0_84 : Cond.selects "PageScribeModel" ⟨"PageScribeModel", "readSimple", "()I"⟩ ⟨"PageScribeModel", "readSimple", "()I"⟩ ∈ gw := gw_of (tb_0 (List.mem_of_getElem? (i := 84) (by decide +kernel))) (by decide +kernel)
theorem d_Mo_token_157 : decode prog_15_method_27_code 157 = .ok (.aload_n 0, 1) := by decide +kernel
theorem d_Mo_token_158 : decode prog_15_method_27_code 158 = .ok (.invokevirtual 340, 3) := by decide +kernel
theorem k_7_68 : Cond.code ⟨"PageScribeModel", "close", "()I"⟩ prog_15_method_26_code 3 (some .int) ∈ gw := gw_of (tb_7 (List.mem_of_getElem? (i := 68) (by decide +kernel))) (by decide +kernel)
theorem k_7_65 : Cond.methodLink "PageScribeModel" 340 ⟨"PageScribeModel", "close", "()I"⟩ ∈ gw := gw_of (tb_7 (List.mem_of_getElem? (i := 65) (by decide +kernel))) (by decide +kernel)
theorem k_7_67 : Cond.instanceMethod ⟨"PageScribeModel", "close", "()I"⟩ ∈ gw := gw_of (tb_7 (List.mem_of_getElem? (i := 67) (by decide +kernel))) (by decide +kernel)
theorem k_0_80 : Cond.selects "PageScribeModel" ⟨"PageScribeModel", "close", "()I"⟩ ⟨"PageScribeModel", "close", "()I"⟩ ∈ gw := gw_of (tb_0 (List.mem_of_getElem? (i := 80) (by decide +kernel))) (by decide +kernel)
theorem d_Mo_token_161 : decode prog_15_method_27_code 161 = .ok (.goto 7, 3) := by decide +kernel
theorem d_Mo_token_96 : decode prog_15_method_27_code 96 = .ok (.aload_n 0, 1) := by decide +kernel
theorem d_Mo_token_97 : decode prog_15_method_27_code 97 = .ok (.getfield 330, 3) := by decide +kernel
theorem d_Mo_token_100 : decode prog_15_method_27_code 100 = .ok (.iconst 4, 1) := by decide +kernel
theorem d_Mo_token_101 : decode prog_15_method_27_code 101 = .ok (.if_icmp .ne 6, 3) := by decide +kernel
theorem d_Mo_token_107 : decode prog_15_method_27_code 107 = .ok (.aload_n 0, 1) := by decide +kernel
theorem d_Mo_token_108 : decode prog_15_method_27_code 108 = .ok (.getfield 65, 3) := by decide +kernel
theorem d_Mo_token_111 : decode prog_15_method_27_code 111 = .ok (.aload_n 0, 1) := by decide +kernel
theorem d_Mo_token_112 : decode prog_15_method_27_code 112 = .ok (.getfield 330, 3) := by decide +kernel
theorem d_Mo_token_115 : decode prog_15_method_27_code 115 = .ok (.aload_n 0, 1) := by decide +kernel
theorem d_Mo_token_116 : decode prog_15_method_27_code 116 = .ok (.getfield 333, 3) := by decide +kernel
theorem d_Mo_token_119 : decode prog_15_method_27_code 119 = .ok (.iastore, 1) := by decide +kernel
theorem d_Mo_token_120 : decode prog_15_method_27_code 120 = .ok (.aload_n 0, 1) := by decide +kernel
theorem d_Mo_token_121 : decode prog_15_method_27_code 121 = .ok (.dup, 1) := by decide +kernel
theorem d_Mo_token_122 : decode prog_15_method_27_code 122 = .ok (.getfield 330, 3) := by decide +kernel
theorem d_Mo_token_125 : decode prog_15_method_27_code 125 = .ok (.iconst 1, 1) := by decide +kernel
theorem d_Mo_token_126 : decode prog_15_method_27_code 126 = .ok (.iadd, 1) := by decide +kernel
theorem d_Mo_token_127 : decode prog_15_method_27_code 127 = .ok (.putfield 330, 3) := by decide +kernel
theorem d_Mo_token_130 : decode prog_15_method_27_code 130 = .ok (.aload_n 0, 1) := by decide +kernel
theorem d_Mo_token_131 : decode prog_15_method_27_code 131 = .ok (.dup, 1) := by decide +kernel
theorem d_Mo_token_132 : decode prog_15_method_27_code 132 = .ok (.getfield 281, 3) := by decide +kernel
theorem d_Mo_token_135 : decode prog_15_method_27_code 135 = .ok (.iconst 1, 1) := by decide +kernel
theorem d_Mo_token_136 : decode prog_15_method_27_code 136 = .ok (.iadd, 1) := by decide +kernel
theorem d_Mo_token_137 : decode prog_15_method_27_code 137 = .ok (.putfield 281, 3) := by decide +kernel
theorem d_Mo_token_140 : decode prog_15_method_27_code 140 = .ok (.goto 66, 3) := by decide +kernel
theorem d_Mo_token_104 : decode prog_15_method_27_code 104 = .ok (.bipush 12, 2) := by decide +kernel
theorem d_Mo_token_106 : decode prog_15_method_27_code 106 = .ok (.ireturn, 1) := by decide +kernel
theorem d_Mo_token_68 : decode prog_15_method_27_code 68 = .ok (.aload_n 0, 1) := by decide +kernel
theorem d_Mo_token_69 : decode prog_15_method_27_code 69 = .ok (.getfield 330, 3) := by decide +kernel
theorem d_Mo_token_72 : decode prog_15_method_27_code 72 = .ok (.ifCond .ne 7, 3) := by decide +kernel
theorem d_Mo_token_79 : decode prog_15_method_27_code 79 = .ok (.bipush 15, 2) := by decide +kernel
theorem d_Mo_token_81 : decode prog_15_method_27_code 81 = .ok (.ireturn, 1) := by decide +kernel
theorem d_Mo_token_75 : decode prog_15_method_27_code 75 = .ok (.iconst (-1), 1) := by decide +kernel
theorem d_Mo_token_76 : decode prog_15_method_27_code 76 = .ok (.goto 5, 3) := by decide +kernel
theorem d_Mo_token_30 : decode prog_15_method_27_code 30 = .ok (.aload_n 0, 1) := by decide +kernel
theorem d_Mo_token_31 : decode prog_15_method_27_code 31 = .ok (.getfield 61, 3) := by decide +kernel
theorem d_Mo_token_34 : decode prog_15_method_27_code 34 = .ok (.aload_n 0, 1) := by decide +kernel
theorem d_Mo_token_35 : decode prog_15_method_27_code 35 = .ok (.getfield 281, 3) := by decide +kernel
theorem d_Mo_token_38 : decode prog_15_method_27_code 38 = .ok (.caload, 1) := by decide +kernel
theorem d_Mo_token_39 : decode prog_15_method_27_code 39 = .ok (.bipush 32, 2) := by decide +kernel
theorem d_Mo_token_41 : decode prog_15_method_27_code 41 = .ok (.if_icmp .ne 16, 3) := by decide +kernel
theorem d_Mo_token_44 : decode prog_15_method_27_code 44 = .ok (.aload_n 0, 1) := by decide +kernel
theorem d_Mo_token_45 : decode prog_15_method_27_code 45 = .ok (.dup, 1) := by decide +kernel
theorem d_Mo_token_46 : decode prog_15_method_27_code 46 = .ok (.getfield 281, 3) := by decide +kernel
theorem d_Mo_token_49 : decode prog_15_method_27_code 49 = .ok (.iconst 1, 1) := by decide +kernel
theorem d_Mo_token_50 : decode prog_15_method_27_code 50 = .ok (.iadd, 1) := by decide +kernel
theorem d_Mo_token_51 : decode prog_15_method_27_code 51 = .ok (.putfield 281, 3) := by decide +kernel
theorem d_Mo_token_54 : decode prog_15_method_27_code 54 = .ok (.goto (-35), 3) := by decide +kernel
set_option maxHeartbeats 4000000 in
set_option maxRecDepth 100000 in
theorem m_token (l : Launch) (D : va_G) (T : Nat → ClassId) (h0 : Nat) (ar : Nat → Nat) (S : MS)  (sz : Nat) (hI : MI S) (h1 : 0 ≤ (f_at S).toInt ∧ (f_at S).toInt ≤ (f_length S).toInt) : Met l ⟨"PageScribeModel", "token", "()I"⟩ (wy ⟨"PageScribeModel", "token", "()I"⟩ prog_15_method_27_code 3 (some .int)) ({ frames := 4, cells := 0, slots := 0, locals := 280 }) (va_Pc [.ref h0] (Pw D T (mW T h0 ar S) sz E0)) (va_Qi (fun (r : Int32) (u : MS) => MI u ∧ kC S u ∧ kF S u ∧ (-1 ≤ r.toInt ∧ r.toInt ≤ 15 ∧ 0 ≤ (f_at u).toInt ∧ (f_at u).toInt ≤ (f_length S).toInt)) (fun u t => Bw D T (va_A (mW T h0 ar S) sz) (mW T h0 ar u) t) (va_A (mW T h0 ar S) sz)) 0 0 (va_A (mW T h0 ar S) sz) := by
  refine j_met (y := ⟨"PageScribeModel", "token", "()I"⟩) (b := prog_15_method_27_code) (n := 3) (ret := (some .int)) (av := [.ref h0]) (Qc := fun A => va_Qi (fun (r : Int32) (u : MS) => MI u ∧ kC S u ∧ kF S u ∧ (-1 ≤ r.toInt ∧ r.toInt ≤ 15 ∧ 0 ≤ (f_at u).toInt ∧ (f_at u).toInt ≤ (f_length S).toInt)) (fun u t => Bw D T A (mW T h0 ar u) t) A) (by decide +kernel) (Nat.le_of_ble_eq_true rfl) (fun p e s m args below meth c A ls F hr hlocks hnm hK hP hD hS hA hN hE hl => ?_)
  obtain ⟨hx, hb, hml, hown, hts⟩ := id F
  have hl : lv_has ls 3 [(0, .ref h0)] := hl
  obtain ⟨i_size, i_taken, i_vals, i_room, i_dicts, i_deep, i_open, i_cells, i_points, i_part, i_length, i_knows, i_page, i_text, i_pats, i_fuel, i_fr, i_ink⟩ := id hI
  refine lv_aload_n hx hb d_Mo_token_0 rfl (lv_at hl 0 rfl) ?_
  refine lv_iconst (v := 0) hx hb d_Mo_token_1 (by decide) ?_
  refine va_put (D := D) (ci := 11) (v := .int 0) (ty := .int) (C := "PageScribeModel") (T := F_Mo) (N := 45) hx hb hts i_Mo t_Mo t_Mo_ok n_Mo hown hK hP hD hS 0 mW_0 cl_11 27 (by decide) (hts _ k_6_187) (fun _ h9 => h9) rfl (by decide +kernel) rfl rfl (Nat.le_of_ble_eq_true rfl) d_Mo_token_2 (fun H locs hP hD hS => ?_)
  rw [mp_level] at hP hD
  have hP : va_P D classes (mW T h0 ar ((S.1, S.2.1, S.2.2.1, ((f_length S), (f_at S), (f_pending S), 0, (a_starts S), (a_known S), (f_knows S), (f_fuel S)), S.2.2.2.2.1, S.2.2.2.2.2) : MS)) H := hP
  have hD : va_D A (mW T h0 ar ((S.1, S.2.1, S.2.2.1, ((f_length S), (f_at S), (f_pending S), 0, (a_starts S), (a_known S), (f_knows S), (f_fuel S)), S.2.2.2.2.1, S.2.2.2.2.2) : MS)) := hD
  refine lv_aload_n hx hb d_Mo_token_5 rfl (lv_at hl 0 rfl) ?_
  refine lv_iconst (v := 0) hx hb d_Mo_token_6 (by decide) ?_
  refine va_put (D := D) (ci := 11) (v := .int 0) (ty := .int) (C := "PageScribeModel") (T := F_Mo) (N := 45) hx hb hts i_Mo t_Mo t_Mo_ok n_Mo hown hK hP hD hS 0 mW_0 cl_11 26 (by decide) (hts _ k_6_186) (fun _ h9 => h9) rfl (by decide +kernel) rfl rfl (Nat.le_of_ble_eq_true rfl) d_Mo_token_7 (fun H locs hP hD hS => ?_)
  rw [mp_pending] at hP hD
  have hP : va_P D classes (mW T h0 ar ((S.1, S.2.1, S.2.2.1, ((f_length S), (f_at S), 0, 0, (a_starts S), (a_known S), (f_knows S), (f_fuel S)), S.2.2.2.2.1, S.2.2.2.2.2) : MS)) H := hP
  have hD : va_D A (mW T h0 ar ((S.1, S.2.1, S.2.2.1, ((f_length S), (f_at S), 0, 0, (a_starts S), (a_known S), (f_knows S), (f_fuel S)), S.2.2.2.2.1, S.2.2.2.2.2) : MS)) := hD
  refine lv_iconst (v := 0) hx hb d_Mo_token_10 (by decide) ?_
  refine lv_istore_n (lv' := [(1, .int 0), (0, .ref h0)]) hx hb d_Mo_token_11 rfl hl (by decide) rfl (fun ls hl => ?_)
  refine j_loop (α := MS × Int32) (fun k x H locs ls => (0 ≤ x.2.toInt ∧ x.2.toInt ≤ 300 ∧ 300 ≤ x.2.toInt + ((k : Nat) : Int) ∧ 0 ≤ (f_at x.1).toInt ∧ (f_at x.1).toInt ≤ (f_length S).toInt ∧ (f_length x.1).toInt = (f_length S).toInt ∧ 0 ≤ (f_level x.1).toInt ∧ (f_level x.1).toInt ≤ 4 ∧ 0 ≤ (f_pending x.1).toInt ∧ (f_pending x.1).toInt ≤ (f_at x.1).toInt ∧ stI (a_starts x.1) (f_level x.1).toInt (f_pending x.1).toInt) ∧ MI x.1 ∧ kC S x.1 ∧ kF S x.1 ∧ va_P D classes (mW T h0 ar x.1) H ∧ va_D A (mW T h0 ar x.1) ∧ va_S A s.heap H locs ∧ lv_has ls 3 [(1, .int x.2), (0, .ref h0)]) (fun _ _ ls => F0 m 12 ls []) (fun k x H locs ls hI9 ih => ?_) 300 (((S.1, S.2.1, S.2.2.1, ((f_length S), (f_at S), 0, 0, (a_starts S), (a_known S), (f_knows S), (f_fuel S)), S.2.2.2.2.1, S.2.2.2.2.2) : MS), (0 : Int32)) _ _ _ ⟨(show 0 ≤ (0 : Int32).toInt ∧ (0 : Int32).toInt ≤ 300 ∧ 300 ≤ (0 : Int32).toInt + ((300 : Nat) : Int) ∧ 0 ≤ (f_at S).toInt ∧ (f_at S).toInt ≤ (f_length S).toInt ∧ (f_length S).toInt = (f_length S).toInt ∧ 0 ≤ (0 : Int32).toInt ∧ (0 : Int32).toInt ≤ 4 ∧ 0 ≤ (0 : Int32).toInt ∧ (0 : Int32).toInt ≤ (f_at S).toInt ∧ stI (a_starts S) (0 : Int32).toInt (0 : Int32).toInt by have := tI_0; have := tI_0; have := tI_0; exact ⟨by omega, by omega, by omega, by omega, by omega, by omega, by omega, by omega, by omega, by omega, (by first | assumption | exact st_0 (by omega) | exact st_up (by assumption) (by omega) | exact st_push (by assumption) (by omega) (by omega) rfl (by omega))⟩), ⟨i_size, i_taken, i_vals, i_room, i_dicts, i_deep, i_open, i_cells, i_points, i_part, i_length, i_knows, i_page, i_text, i_pats, i_fuel, i_fr, i_ink⟩, (show kC S ((S.1, S.2.1, S.2.2.1, ((f_length S), (f_at S), 0, 0, (a_starts S), (a_known S), (f_knows S), (f_fuel S)), S.2.2.2.2.1, S.2.2.2.2.2) : MS) from (kC_r S)), (show kF S ((S.1, S.2.1, S.2.2.1, ((f_length S), (f_at S), 0, 0, (a_starts S), (a_known S), (f_knows S), (f_fuel S)), S.2.2.2.2.1, S.2.2.2.2.2) : MS) from (kF_r S)), hP, hD, hS, lv_sub hl [0, 1] rfl⟩
  obtain ⟨S1, i⟩ := x
  obtain ⟨hf1, hIx, klC_S1, klF_S1, hP, hD, hS, hl⟩ := hI9
  obtain ⟨i_size, i_taken, i_vals, i_room, i_dicts, i_deep, i_open, i_cells, i_points, i_part, i_length, i_knows, i_page, i_text, i_pats, i_fuel, i_fr, i_ink⟩ := (show MI S1 from hIx)
  have klC_S1 : kC S S1 := klC_S1
  have klF_S1 : kF S S1 := klF_S1
  have hf1 : 0 ≤ i.toInt ∧ i.toInt ≤ 300 ∧ 300 ≤ i.toInt + ((k : Nat) : Int) ∧ 0 ≤ (f_at S1).toInt ∧ (f_at S1).toInt ≤ (f_length S).toInt ∧ (f_length S1).toInt = (f_length S).toInt ∧ 0 ≤ (f_level S1).toInt ∧ (f_level S1).toInt ≤ 4 ∧ 0 ≤ (f_pending S1).toInt ∧ (f_pending S1).toInt ≤ (f_at S1).toInt ∧ stI (a_starts S1) (f_level S1).toInt (f_pending S1).toInt := hf1
  have hP : va_P D classes (mW T h0 ar S1) H := hP
  have hD : va_D A (mW T h0 ar S1) := hD
  have hl : lv_has ls 3 [(1, .int i), (0, .ref h0)] := hl
  have hs1 := hf1.2.2.2.2.2.2.2.2.2.2
  refine lv_iload_n hx hb d_Mo_token_12 rfl (lv_at hl 0 rfl) ?_
  refine lv_sipush (v := 300) hx hb d_Mo_token_13 (by decide) ?_
  refine lv_icmp_ge (tgt := 212) hx hb d_Mo_token_16 (by decide) (fun c16_1 => ?_) (fun c16_1 => ?_)
  · have fc16_1 : 300 ≤ i.toInt := zt_le tI_300 (show i.toInt = _ from rfl) c16_1
    refine lv_bipush (v := 15) hx hb d_Mo_token_212 (by decide) ?_
    exact j_iret F hr hlocks hK hS S1 ⟨⟨i_size, i_taken, i_vals, i_room, i_dicts, i_deep, i_open, i_cells, i_points, i_part, i_length, i_knows, i_page, i_text, i_pats, i_fuel, i_fr, i_ink⟩, klC_S1, klF_S1, (show -1 ≤ (15 : Int32).toInt ∧ (15 : Int32).toInt ≤ 15 ∧ 0 ≤ (f_at S1).toInt ∧ (f_at S1).toInt ≤ (f_length S).toInt by have := tI_15; omega)⟩ hP hD d_Mo_token_214
  · have fc16_1 : i.toInt < 300 := Int.not_le.mp (zt_nle tI_300 (show i.toInt = _ from rfl) c16_1)
    refine j_loop (α := MS) (fun k x H locs ls => (120 ≤ (f_at x).toInt + ((k : Nat) : Int) ∧ 0 ≤ (f_at x).toInt ∧ (f_at x).toInt ≤ (f_length S).toInt ∧ (f_length x).toInt = (f_length S).toInt ∧ 0 ≤ (f_level x).toInt ∧ (f_level x).toInt ≤ 4 ∧ 0 ≤ (f_pending x).toInt ∧ (f_pending x).toInt ≤ (f_at x).toInt ∧ stI (a_starts x) (f_level x).toInt (f_pending x).toInt) ∧ MI x ∧ kC S x ∧ kF S x ∧ va_P D classes (mW T h0 ar x) H ∧ va_D A (mW T h0 ar x) ∧ va_S A s.heap H locs ∧ lv_has ls 3 [(1, .int i), (0, .ref h0)]) (fun _ _ ls => F0 m 19 ls []) (fun k2 x H locs ls hI9 ih2 => ?_) 120 S1 _ _ _ ⟨(show 120 ≤ (f_at S1).toInt + ((120 : Nat) : Int) ∧ 0 ≤ (f_at S1).toInt ∧ (f_at S1).toInt ≤ (f_length S).toInt ∧ (f_length S1).toInt = (f_length S).toInt ∧ 0 ≤ (f_level S1).toInt ∧ (f_level S1).toInt ≤ 4 ∧ 0 ≤ (f_pending S1).toInt ∧ (f_pending S1).toInt ≤ (f_at S1).toInt ∧ stI (a_starts S1) (f_level S1).toInt (f_pending S1).toInt by exact ⟨by omega, by omega, by omega, by omega, by omega, by omega, by omega, by omega, (by first | assumption | exact st_0 (by omega) | exact st_up (by assumption) (by omega) | exact st_push (by assumption) (by omega) (by omega) rfl (by omega))⟩), ⟨i_size, i_taken, i_vals, i_room, i_dicts, i_deep, i_open, i_cells, i_points, i_part, i_length, i_knows, i_page, i_text, i_pats, i_fuel, i_fr, i_ink⟩, (show kC S S1 from klC_S1), (show kF S S1 from klF_S1), hP, hD, hS, lv_sub hl [0, 1] rfl⟩
    obtain ⟨S2, rfl⟩ : ∃ z, z = x := ⟨_, rfl⟩
    obtain ⟨hf2, hIx, klC_S2, klF_S2, hP, hD, hS, hl⟩ := hI9
    obtain ⟨i_size, i_taken, i_vals, i_room, i_dicts, i_deep, i_open, i_cells, i_points, i_part, i_length, i_knows, i_page, i_text, i_pats, i_fuel, i_fr, i_ink⟩ := (show MI S2 from hIx)
    have klC_S2 : kC S S2 := klC_S2
    have klF_S2 : kF S S2 := klF_S2
    have hf2 : 120 ≤ (f_at S2).toInt + ((k2 : Nat) : Int) ∧ 0 ≤ (f_at S2).toInt ∧ (f_at S2).toInt ≤ (f_length S).toInt ∧ (f_length S2).toInt = (f_length S).toInt ∧ 0 ≤ (f_level S2).toInt ∧ (f_level S2).toInt ≤ 4 ∧ 0 ≤ (f_pending S2).toInt ∧ (f_pending S2).toInt ≤ (f_at S2).toInt ∧ stI (a_starts S2) (f_level S2).toInt (f_pending S2).toInt := hf2
    have hP : va_P D classes (mW T h0 ar S2) H := hP
    have hD : va_D A (mW T h0 ar S2) := hD
    have hl : lv_has ls 3 [(1, .int i), (0, .ref h0)] := hl
    have hs2 := hf2.2.2.2.2.2.2.2.2
    refine lv_aload_n hx hb d_Mo_token_19 rfl (lv_at hl 1 rfl) ?_
    refine va_get (D := D) (ci := 11) (v := .int (f_at S2)) (C := "PageScribeModel") (T := F_Mo) (N := 45) hx hb hts i_Mo hown hK hP 0 mW_0 cl_11 25 (by decide) (hts _ k_6_185) (fun _ h9 => h9) (mg_at _ _) d_Mo_token_20 ?_
    refine lv_aload_n hx hb d_Mo_token_23 rfl (lv_at hl 1 rfl) ?_
    refine va_get (D := D) (ci := 11) (v := .int (f_length S2)) (C := "PageScribeModel") (T := F_Mo) (N := 45) hx hb hts i_Mo hown hK hP 0 mW_0 cl_11 24 (by decide) (hts _ k_6_184) (fun _ h9 => h9) (mg_length _ _) d_Mo_token_24 ?_
    refine lv_icmp_ge (tgt := 57) hx hb d_Mo_token_27 (by decide) (fun c27_1 => ?_) (fun c27_1 => ?_)
    · have fc27_1 : (f_length S2).toInt ≤ (f_at S2).toInt := zt_le (show (f_length S2).toInt = _ from rfl) (show (f_at S2).toInt = _ from rfl) c27_1
      refine lv_aload_n hx hb d_Mo_token_57 rfl (lv_at hl 1 rfl) ?_
      refine va_get (D := D) (ci := 11) (v := .int (f_at S2)) (C := "PageScribeModel") (T := F_Mo) (N := 45) hx hb hts i_Mo hown hK hP 0 mW_0 cl_11 25 (by decide) (hts _ k_6_185) (fun _ h9 => h9) (mg_at _ _) d_Mo_token_58 ?_
      refine lv_aload_n hx hb d_Mo_token_61 rfl (lv_at hl 1 rfl) ?_
      refine va_get (D := D) (ci := 11) (v := .int (f_length S2)) (C := "PageScribeModel") (T := F_Mo) (N := 45) hx hb hts i_Mo hown hK hP 0 mW_0 cl_11 24 (by decide) (hts _ k_6_184) (fun _ h9 => h9) (mg_length _ _) d_Mo_token_62 ?_
      refine lv_icmp_ne (tgt := 82) hx hb d_Mo_token_65 (by decide) (fun c65_1 => ?_) (fun c65_1 => ?_)
      · first | have fc65_1 : (f_at S2).toInt < (f_length S2).toInt := (by have := zt_ne (show (f_at S2).toInt = _ from rfl) (show (f_length S2).toInt = _ from rfl) c65_1; omega) | have fc65_1 : (f_length S2).toInt < (f_at S2).toInt := (by have := zt_ne (show (f_at S2).toInt = _ from rfl) (show (f_length S2).toInt = _ from rfl) c65_1; omega) | skip
        refine lv_aload_n hx hb d_Mo_token_82 rfl (lv_at hl 1 rfl) ?_
        refine va_get (D := D) (ci := 11) (v := .ref (ar 15)) (C := "PageScribeModel") (T := F_Mo) (N := 45) hx hb hts i_Mo hown hK hP 0 mW_0 cl_11 23 (by decide) (hts _ k_6_183) (fun _ h9 => h9) (mg_text _ _) d_Mo_token_83 ?_
        refine lv_aload_n hx hb d_Mo_token_86 rfl (lv_at hl 1 rfl) ?_
        refine va_get (D := D) (ci := 11) (v := .int (f_at S2)) (C := "PageScribeModel") (T := F_Mo) (N := 45) hx hb hts i_Mo hown hK hP 0 mW_0 cl_11 25 (by decide) (hts _ k_6_185) (fun _ h9 => h9) (mg_at _ _) d_Mo_token_87 ?_
        refine va_cald hx hb hK hP 16 2 (ma_text _ _ _ _) rfl (zt_in (show (f_at S2).toInt = _ from rfl) (by omega) (by omega)) d_Mo_token_90 ?_
        refine lv_topi (fun x1 ex1 => ?_)
        have gx1 : x1 = (a_text S2) (f_at S2).toInt.toNat := ex1.trans (congrArg _ (zt_ix (show (f_at S2).toInt = _ from rfl)))
        have fx1 : x1.toInt = ((a_text S2) (f_at S2).toInt.toNat).toInt := by rw [gx1]
        have kx1 := i_text ((f_at S2).toInt.toNat) (by omega)
        refine lv_bipush (v := 123) hx hb d_Mo_token_91 (by decide) ?_
        refine lv_icmp_ne (tgt := 143) hx hb d_Mo_token_93 (by decide) (fun c93_1 => ?_) (fun c93_1 => ?_)
        · first | have fc93_1 : x1.toInt < 123 := (by have := zt_ne (show x1.toInt = _ from rfl) tI_123 c93_1; omega) | have fc93_1 : 123 < x1.toInt := (by have := zt_ne (show x1.toInt = _ from rfl) tI_123 c93_1; omega) | skip
          refine j_joinH (α := MS × Int32) (fun x H locs ls => (0 ≤ x.2.toInt ∧ x.2.toInt ≤ 15 ∧ 0 ≤ (f_at x.1).toInt ∧ (f_at x.1).toInt ≤ (f_length S).toInt ∧ (f_length x.1).toInt = (f_length S).toInt ∧ (x.2.toInt = 0 → 0 ≤ (f_level x.1).toInt ∧ (f_level x.1).toInt ≤ 4 ∧ 0 ≤ (f_pending x.1).toInt ∧ (f_pending x.1).toInt + 1 ≤ (f_at x.1).toInt ∧ stI (a_starts x.1) (f_level x.1).toInt (f_pending x.1).toInt)) ∧ MI x.1 ∧ kC S x.1 ∧ kF S x.1 ∧ va_P D classes (mW T h0 ar x.1) H ∧ va_D A (mW T h0 ar x.1) ∧ va_S A s.heap H locs ∧ lv_has ls 3 [(1, .int i), (0, .ref h0)]) (fun x ls => F0 m 168 ls (.int x.2 :: [])) (fun x H locs ls hI9 => ?_) (fun key1 => ?_)
          · obtain ⟨S3, j1⟩ := x
            obtain ⟨hj1, hIx, klC_S3, klF_S3, hP, hD, hS, hl⟩ := hI9
            obtain ⟨i_size, i_taken, i_vals, i_room, i_dicts, i_deep, i_open, i_cells, i_points, i_part, i_length, i_knows, i_page, i_text, i_pats, i_fuel, i_fr, i_ink⟩ := (show MI S3 from hIx)
            have klC_S3 : kC S S3 := klC_S3
            have klF_S3 : kF S S3 := klF_S3
            have hj1 : 0 ≤ j1.toInt ∧ j1.toInt ≤ 15 ∧ 0 ≤ (f_at S3).toInt ∧ (f_at S3).toInt ≤ (f_length S).toInt ∧ (f_length S3).toInt = (f_length S).toInt ∧ (j1.toInt = 0 → 0 ≤ (f_level S3).toInt ∧ (f_level S3).toInt ≤ 4 ∧ 0 ≤ (f_pending S3).toInt ∧ (f_pending S3).toInt + 1 ≤ (f_at S3).toInt ∧ stI (a_starts S3) (f_level S3).toInt (f_pending S3).toInt) := hj1
            have hP : va_P D classes (mW T h0 ar S3) H := hP
            have hD : va_D A (mW T h0 ar S3) := hD
            have hl : lv_has ls 3 [(1, .int i), (0, .ref h0)] := hl
            refine lv_istore_n (lv' := [(2, .int j1), (1, .int i), (0, .ref h0)]) hx hb d_Mo_token_168 rfl hl (by decide) rfl (fun ls hl => ?_)
            refine lv_iload_n hx hb d_Mo_token_169 rfl (lv_at hl 0 rfl) ?_
            refine lv_if_ne (tgt := 180) hx hb d_Mo_token_170 (by decide) (fun c170_1 => ?_) (fun c170_1 => ?_)
            · first | have fc170_1 : j1.toInt < 0 := (by have := zt_ne (show j1.toInt = _ from rfl) tI_0 c170_1; omega) | have fc170_1 : 0 < j1.toInt := (by have := zt_ne (show j1.toInt = _ from rfl) tI_0 c170_1; omega) | skip
              refine lv_iload_n hx hb d_Mo_token_180 rfl (lv_at hl 0 rfl) ?_
              exact j_iret F hr hlocks hK hS S3 ⟨⟨i_size, i_taken, i_vals, i_room, i_dicts, i_deep, i_open, i_cells, i_points, i_part, i_length, i_knows, i_page, i_text, i_pats, i_fuel, i_fr, i_ink⟩, klC_S3, klF_S3, (show -1 ≤ j1.toInt ∧ j1.toInt ≤ 15 ∧ 0 ≤ (f_at S3).toInt ∧ (f_at S3).toInt ≤ (f_length S).toInt by omega)⟩ hP hD d_Mo_token_181
            · have fc170_1 : j1.toInt = 0 := zt_eq (show j1.toInt = _ from rfl) tI_0 c170_1
              refine lv_aload_n hx hb d_Mo_token_173 rfl (lv_at hl 2 rfl) ?_
              refine va_get (D := D) (ci := 11) (v := .int (f_level S3)) (C := "PageScribeModel") (T := F_Mo) (N := 45) hx hb hts i_Mo hown hK hP 0 mW_0 cl_11 27 (by decide) (hts _ k_6_187) (fun _ h9 => h9) (mg_level _ _) d_Mo_token_174 ?_
              refine lv_if_ne (tgt := 182) hx hb d_Mo_token_177 (by decide) (fun c177_1 => ?_) (fun c177_1 => ?_)
              · first | have fc177_1 : (f_level S3).toInt < 0 := (by have := zt_ne (show (f_level S3).toInt = _ from rfl) tI_0 c177_1; omega) | have fc177_1 : 0 < (f_level S3).toInt := (by have := zt_ne (show (f_level S3).toInt = _ from rfl) tI_0 c177_1; omega) | skip
                obtain ⟨ha1, ha2, ha3, ha4, hs3⟩ := hj1.2.2.2.2.2 (by omega)
                refine lv_aload_n hx hb d_Mo_token_182 rfl (lv_at hl 2 rfl) ?_
                refine lv_sipush (v := 1170) hx hb d_Mo_token_183 (by decide) ?_
                refine lv_aload_n hx hb d_Mo_token_186 rfl (lv_at hl 2 rfl) ?_
                refine va_get (D := D) (ci := 11) (v := .int (f_pending S3)) (C := "PageScribeModel") (T := F_Mo) (N := 45) hx hb hts i_Mo hown hK hP 0 mW_0 cl_11 26 (by decide) (hts _ k_6_186) (fun _ h9 => h9) (mg_pending _ _) d_Mo_token_187 ?_
                refine lv_iadd hx hb d_Mo_token_190 ?_
                refine lv_topi (fun x2 ex2 => ?_)
                have fx2 : x2.toInt = ((f_pending S3).toInt + 1170) := by rw [ex2]; exact (zt_add tI_1170 (show (f_pending S3).toInt = _ from rfl) (by omega) (by omega)).trans (by omega)
                refine lv_bipush (v := 40) hx hb d_Mo_token_191 (by decide) ?_
                refine jm_cv (w := (fun u => u)) hK hP hD hS hA (va_runV (As := [.int x2, .int 40]) (rest := []) F (m_move l D T h0 ar S3 x2 (40 : Int32) H.size (show 0 ≤ x2.toInt ∧ x2.toInt < 1300 by have := tI_40; first | omega | (simp only [fx2]; omega)) (show 0 ≤ (40 : Int32).toInt ∧ (40 : Int32).toInt < 1300 by have := tI_40; first | omega | (simp only [fx2]; omega))) (j_cV (k := 2) (C := "PageScribeModel") hts k_7_76 k_1_12 k_7_73 k_7_75 k_0_82 (by decide +kernel) ⟨Nat.le_of_ble_eq_true rfl, Nat.le_of_ble_eq_true rfl⟩) (jm_pre hK hP hD) rfl rfl hl.1 rfl (lv_room (Nat.le_of_ble_eq_true rfl)) d_Mo_token_193 ⟨Nat.le_of_ble_eq_true rfl, Nat.le_of_ble_eq_true rfl⟩) (fun S4 H locs hw1 hP hD hS => ?_)
                try simp only [fx2, tI_40] at hw1
                obtain rfl := hw1
                have hP : va_P D classes (mW T h0 ar ((((f_thrown S3), (upd (a_kinds S3) (((f_pending S3).toInt + 1170).toNat) ((a_kinds S3) (40))), (vp_updL (a_codes S3) (((f_pending S3).toInt + 1170).toNat) ((a_codes S3) (40))), (vf_upd (a_reals S3) (((f_pending S3).toInt + 1170).toNat) ((a_reals S3) (40))), (f_size S3), (f_taken S3), (a_words S3), (a_many S3)), S3.2.1, S3.2.2.1, S3.2.2.2.1, S3.2.2.2.2.1, S3.2.2.2.2.2) : MS)) H := hP
                have hD : va_D A (mW T h0 ar ((((f_thrown S3), (upd (a_kinds S3) (((f_pending S3).toInt + 1170).toNat) ((a_kinds S3) (40))), (vp_updL (a_codes S3) (((f_pending S3).toInt + 1170).toNat) ((a_codes S3) (40))), (vf_upd (a_reals S3) (((f_pending S3).toInt + 1170).toNat) ((a_reals S3) (40))), (f_size S3), (f_taken S3), (a_words S3), (a_many S3)), S3.2.1, S3.2.2.1, S3.2.2.2.1, S3.2.2.2.2.1, S3.2.2.2.2.2) : MS)) := hD
                have i_vals : ∀ k, k < 1300 → vOk ((upd (a_kinds S3) (((f_pending S3).toInt + 1170).toNat) ((a_kinds S3) (40))) k) ((vp_updL (a_codes S3) (((f_pending S3).toInt + 1170).toNat) ((a_codes S3) (40))) k) ((vf_upd (a_reals S3) (((f_pending S3).toInt + 1170).toNat) ((a_reals S3) (40))) k) := vOk_upd i_vals (i_vals 40 (by omega))
                have fa1 : ((upd (a_kinds S3) (((f_pending S3).toInt + 1170).toNat) ((a_kinds S3) (40))) (((f_pending S3).toInt + 1170).toNat)).toInt = ((a_kinds S3) 40).toInt := congrArg Int32.toInt upd_s
                have fa2 : ((vp_updL (a_codes S3) (((f_pending S3).toInt + 1170).toNat) ((a_codes S3) (40))) (((f_pending S3).toInt + 1170).toNat)).toInt = ((a_codes S3) 40).toInt := congrArg Int64.toInt updL_s
                refine lv_aload_n hx hb d_Mo_token_196 rfl (lv_at hl 2 rfl) ?_
                refine lv_dup hx hb d_Mo_token_197 rfl ?_
                refine va_get (D := D) (ci := 11) (v := .int (f_pending S3)) (C := "PageScribeModel") (T := F_Mo) (N := 45) hx hb hts i_Mo hown hK hP 0 mW_0 cl_11 26 (by decide) (hts _ k_6_186) (fun _ h9 => h9) (mg_pending _ _) d_Mo_token_198 ?_
                refine lv_iconst (v := 1) hx hb d_Mo_token_201 (by decide) ?_
                refine lv_iadd hx hb d_Mo_token_202 ?_
                refine lv_topi (fun x3 ex3 => ?_)
                have fx3 : x3.toInt = ((f_pending S3).toInt + 1) := by rw [ex3]; exact (zt_add (show (f_pending S3).toInt = _ from rfl) tI_1 (by omega) (by omega)).trans (by omega)
                refine va_put (D := D) (ci := 11) (v := .int x3) (ty := .int) (C := "PageScribeModel") (T := F_Mo) (N := 45) hx hb hts i_Mo t_Mo t_Mo_ok n_Mo hown hK hP hD hS 0 mW_0 cl_11 26 (by decide) (hts _ k_6_186) (fun _ h9 => h9) rfl (by decide +kernel) rfl rfl (Nat.le_of_ble_eq_true rfl) d_Mo_token_203 (fun H locs hP hD hS => ?_)
                rw [mp_pending] at hP hD
                have hP : va_P D classes (mW T h0 ar ((((f_thrown S3), (upd (a_kinds S3) (((f_pending S3).toInt + 1170).toNat) ((a_kinds S3) (40))), (vp_updL (a_codes S3) (((f_pending S3).toInt + 1170).toNat) ((a_codes S3) (40))), (vf_upd (a_reals S3) (((f_pending S3).toInt + 1170).toNat) ((a_reals S3) (40))), (f_size S3), (f_taken S3), (a_words S3), (a_many S3)), S3.2.1, S3.2.2.1, ((f_length S3), (f_at S3), x3, (f_level S3), (a_starts S3), (a_known S3), (f_knows S3), (f_fuel S3)), S3.2.2.2.2.1, S3.2.2.2.2.2) : MS)) H := hP
                have hD : va_D A (mW T h0 ar ((((f_thrown S3), (upd (a_kinds S3) (((f_pending S3).toInt + 1170).toNat) ((a_kinds S3) (40))), (vp_updL (a_codes S3) (((f_pending S3).toInt + 1170).toNat) ((a_codes S3) (40))), (vf_upd (a_reals S3) (((f_pending S3).toInt + 1170).toNat) ((a_reals S3) (40))), (f_size S3), (f_taken S3), (a_words S3), (a_many S3)), S3.2.1, S3.2.2.1, ((f_length S3), (f_at S3), x3, (f_level S3), (a_starts S3), (a_known S3), (f_knows S3), (f_fuel S3)), S3.2.2.2.2.1, S3.2.2.2.2.2) : MS)) := hD
                refine lv_iinc (v := (i + 1)) (lv' := [(1, .int (i + 1)), (2, .int j1), (0, .ref h0)]) hx hb d_Mo_token_206 hl (k := 1) rfl (by first | rfl | decide) (by decide) rfl (fun ls hl => ?_)
                obtain ⟨x4, ex4⟩ : ∃ z, z = (i + 1) := ⟨_, rfl⟩
                rw [← ex4] at hl
                have fx4 : x4.toInt = (i.toInt + 1) := by rw [ex4]; exact (zt_add (show i.toInt = _ from rfl) tI_1 (by omega) (by omega)).trans (by omega)
                have hl : lv_has ls 3 [(1, .int x4), (2, .int j1), (0, .ref h0)] := hl
                refine lv_goto (tgt := 12) hx hb d_Mo_token_209 (by decide) ?_
                exact ih (k - 1) (((((f_thrown S3), (upd (a_kinds S3) (((f_pending S3).toInt + 1170).toNat) ((a_kinds S3) (40))), (vp_updL (a_codes S3) (((f_pending S3).toInt + 1170).toNat) ((a_codes S3) (40))), (vf_upd (a_reals S3) (((f_pending S3).toInt + 1170).toNat) ((a_reals S3) (40))), (f_size S3), (f_taken S3), (a_words S3), (a_many S3)), S3.2.1, S3.2.2.1, ((f_length S3), (f_at S3), x3, (f_level S3), (a_starts S3), (a_known S3), (f_knows S3), (f_fuel S3)), S3.2.2.2.2.1, S3.2.2.2.2.2) : MS), x4) _ _ _ (by omega) ⟨(show 0 ≤ x4.toInt ∧ x4.toInt ≤ 300 ∧ 300 ≤ x4.toInt + (((k - 1) : Nat) : Int) ∧ 0 ≤ (f_at S3).toInt ∧ (f_at S3).toInt ≤ (f_length S).toInt ∧ (f_length S3).toInt = (f_length S).toInt ∧ 0 ≤ (f_level S3).toInt ∧ (f_level S3).toInt ≤ 4 ∧ 0 ≤ x3.toInt ∧ x3.toInt ≤ (f_at S3).toInt ∧ stI (a_starts S3) (f_level S3).toInt x3.toInt by exact ⟨by omega, by omega, by omega, by omega, by omega, by omega, by omega, by omega, by omega, by omega, (by first | assumption | exact st_0 (by omega) | exact st_up (by assumption) (by omega) | exact st_push (by assumption) (by omega) (by omega) rfl (by omega))⟩), ⟨i_size, i_taken, i_vals, i_room, i_dicts, i_deep, i_open, i_cells, i_points, i_part, i_length, i_knows, i_page, i_text, i_pats, i_fuel, i_fr, i_ink⟩, (show kC S ((((f_thrown S3), (upd (a_kinds S3) (((f_pending S3).toInt + 1170).toNat) ((a_kinds S3) (40))), (vp_updL (a_codes S3) (((f_pending S3).toInt + 1170).toNat) ((a_codes S3) (40))), (vf_upd (a_reals S3) (((f_pending S3).toInt + 1170).toNat) ((a_reals S3) (40))), (f_size S3), (f_taken S3), (a_words S3), (a_many S3)), S3.2.1, S3.2.2.1, ((f_length S3), (f_at S3), x3, (f_level S3), (a_starts S3), (a_known S3), (f_knows S3), (f_fuel S3)), S3.2.2.2.2.1, S3.2.2.2.2.2) : MS) from klC_S3), (show kF S ((((f_thrown S3), (upd (a_kinds S3) (((f_pending S3).toInt + 1170).toNat) ((a_kinds S3) (40))), (vp_updL (a_codes S3) (((f_pending S3).toInt + 1170).toNat) ((a_codes S3) (40))), (vf_upd (a_reals S3) (((f_pending S3).toInt + 1170).toNat) ((a_reals S3) (40))), (f_size S3), (f_taken S3), (a_words S3), (a_many S3)), S3.2.1, S3.2.2.1, ((f_length S3), (f_at S3), x3, (f_level S3), (a_starts S3), (a_known S3), (f_knows S3), (f_fuel S3)), S3.2.2.2.2.1, S3.2.2.2.2.2) : MS) from klF_S3), hP, hD, hS, lv_sub hl [0, 2] rfl⟩
              · have fc177_1 : (f_level S3).toInt = 0 := zt_eq (show (f_level S3).toInt = _ from rfl) tI_0 c177_1
                refine lv_iload_n hx hb d_Mo_token_180 rfl (lv_at hl 0 rfl) ?_
                exact j_iret F hr hlocks hK hS S3 ⟨⟨i_size, i_taken, i_vals, i_room, i_dicts, i_deep, i_open, i_cells, i_points, i_part, i_length, i_knows, i_page, i_text, i_pats, i_fuel, i_fr, i_ink⟩, klC_S3, klF_S3, (show -1 ≤ j1.toInt ∧ j1.toInt ≤ 15 ∧ 0 ≤ (f_at S3).toInt ∧ (f_at S3).toInt ≤ (f_length S).toInt by omega)⟩ hP hD d_Mo_token_181
          · refine lv_aload_n hx hb d_Mo_token_143 rfl (lv_at hl 1 rfl) ?_
            refine va_get (D := D) (ci := 11) (v := .ref (ar 15)) (C := "PageScribeModel") (T := F_Mo) (N := 45) hx hb hts i_Mo hown hK hP 0 mW_0 cl_11 23 (by decide) (hts _ k_6_183) (fun _ h9 => h9) (mg_text _ _) d_Mo_token_144 ?_
            refine lv_aload_n hx hb d_Mo_token_147 rfl (lv_at hl 1 rfl) ?_
            refine va_get (D := D) (ci := 11) (v := .int (f_at S2)) (C := "PageScribeModel") (T := F_Mo) (N := 45) hx hb hts i_Mo hown hK hP 0 mW_0 cl_11 25 (by decide) (hts _ k_6_185) (fun _ h9 => h9) (mg_at _ _) d_Mo_token_148 ?_
            refine va_cald hx hb hK hP 16 2 (ma_text _ _ _ _) rfl (zt_in (show (f_at S2).toInt = _ from rfl) (by omega) (by omega)) d_Mo_token_151 ?_
            refine j_eqi (y := x1) ex1.symm ?_
            refine lv_bipush (v := 125) hx hb d_Mo_token_152 (by decide) ?_
            refine lv_icmp_ne (tgt := 164) hx hb d_Mo_token_154 (by decide) (fun c154_1 => ?_) (fun c154_1 => ?_)
            · first | have fc154_1 : x1.toInt < 125 := (by have := zt_ne (show x1.toInt = _ from rfl) tI_125 c154_1; omega) | have fc154_1 : 125 < x1.toInt := (by have := zt_ne (show x1.toInt = _ from rfl) tI_125 c154_1; omega) | skip
              refine lv_aload_n hx hb d_Mo_token_164 rfl (lv_at hl 1 rfl) ?_
              refine jm_ci (w := (fun u => u)) hK hP hD hS hA (va_runV (As := []) (rest := []) F (m_readSimple l D T h0 ar S2  H.size ⟨i_size, i_taken, i_vals, i_room, i_dicts, i_deep, i_open, i_cells, i_points, i_part, i_length, i_knows, i_page, i_text, i_pats, i_fuel, i_fr, i_ink⟩ (show 0 ≤ (f_at S2).toInt ∧ (f_at S2).toInt < (f_length S2).toInt by omega)) (j_cV (k := 0) (C := "PageScribeModel") hts k_7_85 k_1_12 k_7_82 k_7_84 k_0_84 (by decide +kernel) ⟨Nat.le_of_ble_eq_true rfl, Nat.le_of_ble_eq_true rfl⟩) (jm_pre hK hP hD) rfl rfl hl.1 rfl (lv_room (Nat.le_of_ble_eq_true rfl)) d_Mo_token_165 ⟨Nat.le_of_ble_eq_true rfl, Nat.le_of_ble_eq_true rfl⟩) (fun rv2 S5 H locs hw2 hP hD hS => ?_)
              have hP : va_P D classes (mW T h0 ar S5) H := hP
              have hD : va_D A (mW T h0 ar S5) := hD
              obtain ⟨⟨i_size, i_taken, i_vals, i_room, i_dicts, i_deep, i_open, i_cells, i_points, i_part, i_length, i_knows, i_page, i_text, i_pats, i_fuel, i_fr, i_ink⟩, kpR_S5, kpF_S5, qqhw2⟩ := hw2
              have kSF_S5 : kF S S5 := kF_t (show kF S S2 from klF_S2) kpF_S5
              have kSC_S5 : kC S S5 := kC_t (show kC S S2 from klC_S2) (kC_R kpR_S5)
              have nframes_S5 : (f_frames S5).toInt = (f_frames S2).toInt := congrArg Int32.toInt kpF_S5.1
              have nunder_S5 : (f_under S5).toInt = (f_under S2).toInt := congrArg Int32.toInt kpF_S5.2.1
              have nsteps_S5 : (f_steps S5).toInt = (f_steps S2).toInt := congrArg Int32.toInt kpR_S5.2.2.2.2.2.2
              have nfuel_S5 : (f_fuel S5).toInt = (f_fuel S2).toInt := congrArg Int32.toInt kpR_S5.2.2.2.2.2.1
              have nlevel_S5 : (f_level S5).toInt = (f_level S2).toInt := congrArg Int32.toInt kpR_S5.2.2.1
              have npending_S5 : (f_pending S5).toInt = (f_pending S2).toInt := congrArg Int32.toInt kpR_S5.2.2.2.1
              have nlength_S5 : (f_length S5).toInt = (f_length S2).toInt := congrArg Int32.toInt kpR_S5.1
              have qhw2 : 0 ≤ rv2.toInt ∧ rv2.toInt ≤ 15 ∧ 0 ≤ (f_at S5).toInt ∧ (f_at S5).toInt ≤ (f_length S2).toInt ∧ (rv2.toInt = 0 → (f_at S2).toInt < (f_at S5).toInt) := qqhw2
              have hst : stI (a_starts S5) (f_level S5).toInt (f_pending S5).toInt := by rw [kpR_S5.2.2.1, kpR_S5.2.2.2.1, kpR_S5.2.2.2.2.1]; exact hs2
              exact key1 (S5, rv2) _ _ _ ⟨(show 0 ≤ rv2.toInt ∧ rv2.toInt ≤ 15 ∧ 0 ≤ (f_at S5).toInt ∧ (f_at S5).toInt ≤ (f_length S).toInt ∧ (f_length S5).toInt = (f_length S).toInt ∧ (rv2.toInt = 0 → 0 ≤ (f_level S5).toInt ∧ (f_level S5).toInt ≤ 4 ∧ 0 ≤ (f_pending S5).toInt ∧ (f_pending S5).toInt + 1 ≤ (f_at S5).toInt ∧ stI (a_starts S5) (f_level S5).toInt (f_pending S5).toInt) by refine ⟨by omega, by omega, by omega, by omega, by omega, fun q => ⟨by omega, by omega, by omega, by omega, ?_⟩⟩; first | exact hst | exact (hcl.2.2.2.resolve_left (by omega)).2.2.2.2), ⟨i_size, i_taken, i_vals, i_room, i_dicts, i_deep, i_open, i_cells, i_points, i_part, i_length, i_knows, i_page, i_text, i_pats, i_fuel, i_fr, i_ink⟩, (show kC S S5 from kSC_S5), (show kF S S5 from kSF_S5), hP, hD, hS, lv_sub hl [0, 1] rfl⟩
            · have fc154_1 : x1.toInt = 125 := zt_eq (show x1.toInt = _ from rfl) tI_125 c154_1
              refine lv_aload_n hx hb d_Mo_token_157 rfl (lv_at hl 1 rfl) ?_
              refine jm_ci (w := (fun u => u)) hK hP hD hS hA (va_runV (As := []) (rest := []) F (m_close l D T h0 ar S2  H.size ⟨i_size, i_taken, i_vals, i_room, i_dicts, i_deep, i_open, i_cells, i_points, i_part, i_length, i_knows, i_page, i_text, i_pats, i_fuel, i_fr, i_ink⟩ (show 0 ≤ (f_at S2).toInt ∧ (f_at S2).toInt < (f_length S2).toInt ∧ 0 ≤ (f_level S2).toInt ∧ (f_level S2).toInt ≤ 4 ∧ 0 ≤ (f_pending S2).toInt ∧ (f_pending S2).toInt ≤ 120 by omega) hs2) (j_cV (k := 0) (C := "PageScribeModel") hts k_7_68 k_1_12 k_7_65 k_7_67 k_0_80 (by decide +kernel) ⟨Nat.le_of_ble_eq_true rfl, Nat.le_of_ble_eq_true rfl⟩) (jm_pre hK hP hD) rfl rfl hl.1 rfl (lv_room (Nat.le_of_ble_eq_true rfl)) d_Mo_token_158 ⟨Nat.le_of_ble_eq_true rfl, Nat.le_of_ble_eq_true rfl⟩) (fun rv3 S6 H locs hw3 hP hD hS => ?_)
              have hP : va_P D classes (mW T h0 ar S6) H := hP
              have hD : va_D A (mW T h0 ar S6) := hD
              obtain ⟨⟨i_size, i_taken, i_vals, i_room, i_dicts, i_deep, i_open, i_cells, i_points, i_part, i_length, i_knows, i_page, i_text, i_pats, i_fuel, i_fr, i_ink⟩, kpC_S6, kpF_S6, qqhw3⟩ := hw3
              have kSF_S6 : kF S S6 := kF_t (show kF S S2 from klF_S2) kpF_S6
              have kSC_S6 : kC S S6 := kC_t (show kC S S2 from klC_S2) kpC_S6
              have nframes_S6 : (f_frames S6).toInt = (f_frames S2).toInt := congrArg Int32.toInt kpF_S6.1
              have nunder_S6 : (f_under S6).toInt = (f_under S2).toInt := congrArg Int32.toInt kpF_S6.2.1
              have nsteps_S6 : (f_steps S6).toInt = (f_steps S2).toInt := congrArg Int32.toInt kpC_S6.2.2.2
              have nfuel_S6 : (f_fuel S6).toInt = (f_fuel S2).toInt := congrArg Int32.toInt kpC_S6.2.2.1
              have nlength_S6 : (f_length S6).toInt = (f_length S2).toInt := congrArg Int32.toInt kpC_S6.1
              have qhw3 : (f_at S6).toInt = (f_at S2).toInt + 1 ∧ 0 ≤ rv3.toInt ∧ rv3.toInt ≤ 15 ∧ (rv3.toInt = 15 ∨ ((f_level S6).toInt = (f_level S2).toInt - 1 ∧ 0 ≤ (f_level S6).toInt ∧ 0 ≤ (f_pending S6).toInt ∧ (f_pending S6).toInt ≤ (f_pending S2).toInt ∧ stI (a_starts S6) (f_level S6).toInt (f_pending S6).toInt)) := qqhw3
              have hcl := qhw3
              refine lv_goto (tgt := 168) hx hb d_Mo_token_161 (by decide) ?_
              exact key1 (S6, rv3) _ _ _ ⟨(show 0 ≤ rv3.toInt ∧ rv3.toInt ≤ 15 ∧ 0 ≤ (f_at S6).toInt ∧ (f_at S6).toInt ≤ (f_length S).toInt ∧ (f_length S6).toInt = (f_length S).toInt ∧ (rv3.toInt = 0 → 0 ≤ (f_level S6).toInt ∧ (f_level S6).toInt ≤ 4 ∧ 0 ≤ (f_pending S6).toInt ∧ (f_pending S6).toInt + 1 ≤ (f_at S6).toInt ∧ stI (a_starts S6) (f_level S6).toInt (f_pending S6).toInt) by refine ⟨by omega, by omega, by omega, by omega, by omega, fun q => ⟨by omega, by omega, by omega, by omega, ?_⟩⟩; first | exact hst | exact (hcl.2.2.2.resolve_left (by omega)).2.2.2.2), ⟨i_size, i_taken, i_vals, i_room, i_dicts, i_deep, i_open, i_cells, i_points, i_part, i_length, i_knows, i_page, i_text, i_pats, i_fuel, i_fr, i_ink⟩, (show kC S S6 from kSC_S6), (show kF S S6 from kSF_S6), hP, hD, hS, lv_sub hl [0, 1] rfl⟩
        · have fc93_1 : x1.toInt = 123 := zt_eq (show x1.toInt = _ from rfl) tI_123 c93_1
          refine lv_aload_n hx hb d_Mo_token_96 rfl (lv_at hl 1 rfl) ?_
          refine va_get (D := D) (ci := 11) (v := .int (f_level S2)) (C := "PageScribeModel") (T := F_Mo) (N := 45) hx hb hts i_Mo hown hK hP 0 mW_0 cl_11 27 (by decide) (hts _ k_6_187) (fun _ h9 => h9) (mg_level _ _) d_Mo_token_97 ?_
          refine lv_iconst (v := 4) hx hb d_Mo_token_100 (by decide) ?_
          refine lv_icmp_ne (tgt := 107) hx hb d_Mo_token_101 (by decide) (fun c101_1 => ?_) (fun c101_1 => ?_)
          · first | have fc101_1 : (f_level S2).toInt < 4 := (by have := zt_ne (show (f_level S2).toInt = _ from rfl) tI_4 c101_1; omega) | have fc101_1 : 4 < (f_level S2).toInt := (by have := zt_ne (show (f_level S2).toInt = _ from rfl) tI_4 c101_1; omega) | skip
            refine lv_aload_n hx hb d_Mo_token_107 rfl (lv_at hl 1 rfl) ?_
            refine va_get (D := D) (ci := 11) (v := .ref (ar 16)) (C := "PageScribeModel") (T := F_Mo) (N := 45) hx hb hts i_Mo hown hK hP 0 mW_0 cl_11 28 (by decide) (hts _ k_6_188) (fun _ h9 => h9) (mg_starts _ _) d_Mo_token_108 ?_
            refine lv_aload_n hx hb d_Mo_token_111 rfl (lv_at hl 1 rfl) ?_
            refine va_get (D := D) (ci := 11) (v := .int (f_level S2)) (C := "PageScribeModel") (T := F_Mo) (N := 45) hx hb hts i_Mo hown hK hP 0 mW_0 cl_11 27 (by decide) (hts _ k_6_187) (fun _ h9 => h9) (mg_level _ _) d_Mo_token_112 ?_
            refine lv_aload_n hx hb d_Mo_token_115 rfl (lv_at hl 1 rfl) ?_
            refine va_get (D := D) (ci := 11) (v := .int (f_pending S2)) (C := "PageScribeModel") (T := F_Mo) (N := 45) hx hb hts i_Mo hown hK hP 0 mW_0 cl_11 26 (by decide) (hts _ k_6_186) (fun _ h9 => h9) (mg_pending _ _) d_Mo_token_116 ?_
            refine va_iast hx hb hK hP hD hS 17 0 (ma_starts _ _ _ _) rfl (zt_in (show (f_level S2).toInt = _ from rfl) (by omega) (by omega)) d_Mo_token_119 (fun H locs hP hD hS => ?_)
            rw [ms_starts] at hP hD
            rw [zt_ix (show (f_level S2).toInt = _ from rfl)] at hP hD
            have hP : va_P D classes (mW T h0 ar ((S2.1, S2.2.1, S2.2.2.1, ((f_length S2), (f_at S2), (f_pending S2), (f_level S2), (upd (a_starts S2) ((f_level S2).toInt.toNat) (f_pending S2)), (a_known S2), (f_knows S2), (f_fuel S2)), S2.2.2.2.2.1, S2.2.2.2.2.2) : MS)) H := hP
            have hD : va_D A (mW T h0 ar ((S2.1, S2.2.1, S2.2.2.1, ((f_length S2), (f_at S2), (f_pending S2), (f_level S2), (upd (a_starts S2) ((f_level S2).toInt.toNat) (f_pending S2)), (a_known S2), (f_knows S2), (f_fuel S2)), S2.2.2.2.2.1, S2.2.2.2.2.2) : MS)) := hD
            refine lv_aload_n hx hb d_Mo_token_120 rfl (lv_at hl 1 rfl) ?_
            refine lv_dup hx hb d_Mo_token_121 rfl ?_
            refine va_get (D := D) (ci := 11) (v := .int (f_level S2)) (C := "PageScribeModel") (T := F_Mo) (N := 45) hx hb hts i_Mo hown hK hP 0 mW_0 cl_11 27 (by decide) (hts _ k_6_187) (fun _ h9 => h9) (mg_level _ _) d_Mo_token_122 ?_
            refine lv_iconst (v := 1) hx hb d_Mo_token_125 (by decide) ?_
            refine lv_iadd hx hb d_Mo_token_126 ?_
            refine lv_topi (fun x5 ex5 => ?_)
            have fx5 : x5.toInt = ((f_level S2).toInt + 1) := by rw [ex5]; exact (zt_add (show (f_level S2).toInt = _ from rfl) tI_1 (by omega) (by omega)).trans (by omega)
            refine va_put (D := D) (ci := 11) (v := .int x5) (ty := .int) (C := "PageScribeModel") (T := F_Mo) (N := 45) hx hb hts i_Mo t_Mo t_Mo_ok n_Mo hown hK hP hD hS 0 mW_0 cl_11 27 (by decide) (hts _ k_6_187) (fun _ h9 => h9) rfl (by decide +kernel) rfl rfl (Nat.le_of_ble_eq_true rfl) d_Mo_token_127 (fun H locs hP hD hS => ?_)
            rw [mp_level] at hP hD
            have hP : va_P D classes (mW T h0 ar ((S2.1, S2.2.1, S2.2.2.1, ((f_length S2), (f_at S2), (f_pending S2), x5, (upd (a_starts S2) ((f_level S2).toInt.toNat) (f_pending S2)), (a_known S2), (f_knows S2), (f_fuel S2)), S2.2.2.2.2.1, S2.2.2.2.2.2) : MS)) H := hP
            have hD : va_D A (mW T h0 ar ((S2.1, S2.2.1, S2.2.2.1, ((f_length S2), (f_at S2), (f_pending S2), x5, (upd (a_starts S2) ((f_level S2).toInt.toNat) (f_pending S2)), (a_known S2), (f_knows S2), (f_fuel S2)), S2.2.2.2.2.1, S2.2.2.2.2.2) : MS)) := hD
            refine lv_aload_n hx hb d_Mo_token_130 rfl (lv_at hl 1 rfl) ?_
            refine lv_dup hx hb d_Mo_token_131 rfl ?_
            refine va_get (D := D) (ci := 11) (v := .int (f_at S2)) (C := "PageScribeModel") (T := F_Mo) (N := 45) hx hb hts i_Mo hown hK hP 0 mW_0 cl_11 25 (by decide) (hts _ k_6_185) (fun _ h9 => h9) (mg_at _ _) d_Mo_token_132 ?_
            refine lv_iconst (v := 1) hx hb d_Mo_token_135 (by decide) ?_
            refine lv_iadd hx hb d_Mo_token_136 ?_
            refine lv_topi (fun x6 ex6 => ?_)
            have fx6 : x6.toInt = ((f_at S2).toInt + 1) := by rw [ex6]; exact (zt_add (show (f_at S2).toInt = _ from rfl) tI_1 (by omega) (by omega)).trans (by omega)
            refine va_put (D := D) (ci := 11) (v := .int x6) (ty := .int) (C := "PageScribeModel") (T := F_Mo) (N := 45) hx hb hts i_Mo t_Mo t_Mo_ok n_Mo hown hK hP hD hS 0 mW_0 cl_11 25 (by decide) (hts _ k_6_185) (fun _ h9 => h9) rfl (by decide +kernel) rfl rfl (Nat.le_of_ble_eq_true rfl) d_Mo_token_137 (fun H locs hP hD hS => ?_)
            rw [mp_at] at hP hD
            have hP : va_P D classes (mW T h0 ar ((S2.1, S2.2.1, S2.2.2.1, ((f_length S2), x6, (f_pending S2), x5, (upd (a_starts S2) ((f_level S2).toInt.toNat) (f_pending S2)), (a_known S2), (f_knows S2), (f_fuel S2)), S2.2.2.2.2.1, S2.2.2.2.2.2) : MS)) H := hP
            have hD : va_D A (mW T h0 ar ((S2.1, S2.2.1, S2.2.2.1, ((f_length S2), x6, (f_pending S2), x5, (upd (a_starts S2) ((f_level S2).toInt.toNat) (f_pending S2)), (a_known S2), (f_knows S2), (f_fuel S2)), S2.2.2.2.2.1, S2.2.2.2.2.2) : MS)) := hD
            refine lv_goto (tgt := 206) hx hb d_Mo_token_140 (by decide) ?_
            refine lv_iinc (v := (i + 1)) (lv' := [(1, .int (i + 1)), (0, .ref h0)]) hx hb d_Mo_token_206 hl (k := 0) rfl (by first | rfl | decide) (by decide) rfl (fun ls hl => ?_)
            obtain ⟨x7, ex7⟩ : ∃ z, z = (i + 1) := ⟨_, rfl⟩
            rw [← ex7] at hl
            have fx7 : x7.toInt = (i.toInt + 1) := by rw [ex7]; exact (zt_add (show i.toInt = _ from rfl) tI_1 (by omega) (by omega)).trans (by omega)
            have hl : lv_has ls 3 [(1, .int x7), (0, .ref h0)] := hl
            refine lv_goto (tgt := 12) hx hb d_Mo_token_209 (by decide) ?_
            exact ih (k - 1) (((S2.1, S2.2.1, S2.2.2.1, ((f_length S2), x6, (f_pending S2), x5, (upd (a_starts S2) ((f_level S2).toInt.toNat) (f_pending S2)), (a_known S2), (f_knows S2), (f_fuel S2)), S2.2.2.2.2.1, S2.2.2.2.2.2) : MS), x7) _ _ _ (by omega) ⟨(show 0 ≤ x7.toInt ∧ x7.toInt ≤ 300 ∧ 300 ≤ x7.toInt + (((k - 1) : Nat) : Int) ∧ 0 ≤ x6.toInt ∧ x6.toInt ≤ (f_length S).toInt ∧ (f_length S2).toInt = (f_length S).toInt ∧ 0 ≤ x5.toInt ∧ x5.toInt ≤ 4 ∧ 0 ≤ (f_pending S2).toInt ∧ (f_pending S2).toInt ≤ x6.toInt ∧ stI (upd (a_starts S2) ((f_level S2).toInt.toNat) (f_pending S2)) x5.toInt (f_pending S2).toInt by exact ⟨by omega, by omega, by omega, by omega, by omega, by omega, by omega, by omega, by omega, by omega, (by first | assumption | exact st_0 (by omega) | exact st_up (by assumption) (by omega) | exact st_push (by assumption) (by omega) (by omega) rfl (by omega))⟩), ⟨i_size, i_taken, i_vals, i_room, i_dicts, i_deep, i_open, i_cells, i_points, i_part, i_length, i_knows, i_page, i_text, i_pats, i_fuel, i_fr, i_ink⟩, (show kC S ((S2.1, S2.2.1, S2.2.2.1, ((f_length S2), x6, (f_pending S2), x5, (upd (a_starts S2) ((f_level S2).toInt.toNat) (f_pending S2)), (a_known S2), (f_knows S2), (f_fuel S2)), S2.2.2.2.2.1, S2.2.2.2.2.2) : MS) from klC_S2), (show kF S ((S2.1, S2.2.1, S2.2.2.1, ((f_length S2), x6, (f_pending S2), x5, (upd (a_starts S2) ((f_level S2).toInt.toNat) (f_pending S2)), (a_known S2), (f_knows S2), (f_fuel S2)), S2.2.2.2.2.1, S2.2.2.2.2.2) : MS) from klF_S2), hP, hD, hS, lv_sub hl [0, 1] rfl⟩
          · have fc101_1 : (f_level S2).toInt = 4 := zt_eq (show (f_level S2).toInt = _ from rfl) tI_4 c101_1
            refine lv_bipush (v := 12) hx hb d_Mo_token_104 (by decide) ?_
            exact j_iret F hr hlocks hK hS S2 ⟨⟨i_size, i_taken, i_vals, i_room, i_dicts, i_deep, i_open, i_cells, i_points, i_part, i_length, i_knows, i_page, i_text, i_pats, i_fuel, i_fr, i_ink⟩, klC_S2, klF_S2, (show -1 ≤ (12 : Int32).toInt ∧ (12 : Int32).toInt ≤ 15 ∧ 0 ≤ (f_at S2).toInt ∧ (f_at S2).toInt ≤ (f_length S).toInt by have := tI_12; omega)⟩ hP hD d_Mo_token_106
      · have fc65_1 : (f_at S2).toInt = (f_length S2).toInt := zt_eq (show (f_at S2).toInt = _ from rfl) (show (f_length S2).toInt = _ from rfl) c65_1
        refine lv_aload_n hx hb d_Mo_token_68 rfl (lv_at hl 1 rfl) ?_
        refine va_get (D := D) (ci := 11) (v := .int (f_level S2)) (C := "PageScribeModel") (T := F_Mo) (N := 45) hx hb hts i_Mo hown hK hP 0 mW_0 cl_11 27 (by decide) (hts _ k_6_187) (fun _ h9 => h9) (mg_level _ _) d_Mo_token_69 ?_
        refine lv_if_ne (tgt := 79) hx hb d_Mo_token_72 (by decide) (fun c72_1 => ?_) (fun c72_1 => ?_)
        · first | have fc72_1 : (f_level S2).toInt < 0 := (by have := zt_ne (show (f_level S2).toInt = _ from rfl) tI_0 c72_1; omega) | have fc72_1 : 0 < (f_level S2).toInt := (by have := zt_ne (show (f_level S2).toInt = _ from rfl) tI_0 c72_1; omega) | skip
          refine lv_bipush (v := 15) hx hb d_Mo_token_79 (by decide) ?_
          exact j_iret F hr hlocks hK hS S2 ⟨⟨i_size, i_taken, i_vals, i_room, i_dicts, i_deep, i_open, i_cells, i_points, i_part, i_length, i_knows, i_page, i_text, i_pats, i_fuel, i_fr, i_ink⟩, klC_S2, klF_S2, (show -1 ≤ (15 : Int32).toInt ∧ (15 : Int32).toInt ≤ 15 ∧ 0 ≤ (f_at S2).toInt ∧ (f_at S2).toInt ≤ (f_length S).toInt by have := tI_15; omega)⟩ hP hD d_Mo_token_81
        · have fc72_1 : (f_level S2).toInt = 0 := zt_eq (show (f_level S2).toInt = _ from rfl) tI_0 c72_1
          refine lv_iconst (v := (-1)) hx hb d_Mo_token_75 (by decide) ?_
          refine lv_goto (tgt := 81) hx hb d_Mo_token_76 (by decide) ?_
          exact j_iret F hr hlocks hK hS S2 ⟨⟨i_size, i_taken, i_vals, i_room, i_dicts, i_deep, i_open, i_cells, i_points, i_part, i_length, i_knows, i_page, i_text, i_pats, i_fuel, i_fr, i_ink⟩, klC_S2, klF_S2, (show -1 ≤ (-1 : Int32).toInt ∧ (-1 : Int32).toInt ≤ 15 ∧ 0 ≤ (f_at S2).toInt ∧ (f_at S2).toInt ≤ (f_length S).toInt by have := tI_m1; omega)⟩ hP hD d_Mo_token_81
    · have fc27_1 : (f_at S2).toInt < (f_length S2).toInt := Int.not_le.mp (zt_nle (show (f_length S2).toInt = _ from rfl) (show (f_at S2).toInt = _ from rfl) c27_1)
      refine lv_aload_n hx hb d_Mo_token_30 rfl (lv_at hl 1 rfl) ?_
      refine va_get (D := D) (ci := 11) (v := .ref (ar 15)) (C := "PageScribeModel") (T := F_Mo) (N := 45) hx hb hts i_Mo hown hK hP 0 mW_0 cl_11 23 (by decide) (hts _ k_6_183) (fun _ h9 => h9) (mg_text _ _) d_Mo_token_31 ?_
      refine lv_aload_n hx hb d_Mo_token_34 rfl (lv_at hl 1 rfl) ?_
      refine va_get (D := D) (ci := 11) (v := .int (f_at S2)) (C := "PageScribeModel") (T := F_Mo) (N := 45) hx hb hts i_Mo hown hK hP 0 mW_0 cl_11 25 (by decide) (hts _ k_6_185) (fun _ h9 => h9) (mg_at _ _) d_Mo_token_35 ?_
      refine va_cald hx hb hK hP 16 2 (ma_text _ _ _ _) rfl (zt_in (show (f_at S2).toInt = _ from rfl) (by omega) (by omega)) d_Mo_token_38 ?_
      refine lv_topi (fun x8 ex8 => ?_)
      have gx8 : x8 = (a_text S2) (f_at S2).toInt.toNat := ex8.trans (congrArg _ (zt_ix (show (f_at S2).toInt = _ from rfl)))
      have fx8 : x8.toInt = ((a_text S2) (f_at S2).toInt.toNat).toInt := by rw [gx8]
      have kx8 := i_text ((f_at S2).toInt.toNat) (by omega)
      refine lv_bipush (v := 32) hx hb d_Mo_token_39 (by decide) ?_
      refine lv_icmp_ne (tgt := 57) hx hb d_Mo_token_41 (by decide) (fun c41_1 => ?_) (fun c41_1 => ?_)
      · first | have fc41_1 : x8.toInt < 32 := (by have := zt_ne (show x8.toInt = _ from rfl) tI_32 c41_1; omega) | have fc41_1 : 32 < x8.toInt := (by have := zt_ne (show x8.toInt = _ from rfl) tI_32 c41_1; omega) | skip
        refine lv_aload_n hx hb d_Mo_token_57 rfl (lv_at hl 1 rfl) ?_
        refine va_get (D := D) (ci := 11) (v := .int (f_at S2)) (C := "PageScribeModel") (T := F_Mo) (N := 45) hx hb hts i_Mo hown hK hP 0 mW_0 cl_11 25 (by decide) (hts _ k_6_185) (fun _ h9 => h9) (mg_at _ _) d_Mo_token_58 ?_
        refine lv_aload_n hx hb d_Mo_token_61 rfl (lv_at hl 1 rfl) ?_
        refine va_get (D := D) (ci := 11) (v := .int (f_length S2)) (C := "PageScribeModel") (T := F_Mo) (N := 45) hx hb hts i_Mo hown hK hP 0 mW_0 cl_11 24 (by decide) (hts _ k_6_184) (fun _ h9 => h9) (mg_length _ _) d_Mo_token_62 ?_
        refine lv_icmp_ne (tgt := 82) hx hb d_Mo_token_65 (by decide) (fun c65_2 => ?_) (fun c65_2 => ?_)
        · first | have fc65_2 : (f_at S2).toInt < (f_length S2).toInt := (by have := zt_ne (show (f_at S2).toInt = _ from rfl) (show (f_length S2).toInt = _ from rfl) c65_2; omega) | have fc65_2 : (f_length S2).toInt < (f_at S2).toInt := (by have := zt_ne (show (f_at S2).toInt = _ from rfl) (show (f_length S2).toInt = _ from rfl) c65_2; omega) | skip
          refine lv_aload_n hx hb d_Mo_token_82 rfl (lv_at hl 1 rfl) ?_
          refine va_get (D := D) (ci := 11) (v := .ref (ar 15)) (C := "PageScribeModel") (T := F_Mo) (N := 45) hx hb hts i_Mo hown hK hP 0 mW_0 cl_11 23 (by decide) (hts _ k_6_183) (fun _ h9 => h9) (mg_text _ _) d_Mo_token_83 ?_
          refine lv_aload_n hx hb d_Mo_token_86 rfl (lv_at hl 1 rfl) ?_
          refine va_get (D := D) (ci := 11) (v := .int (f_at S2)) (C := "PageScribeModel") (T := F_Mo) (N := 45) hx hb hts i_Mo hown hK hP 0 mW_0 cl_11 25 (by decide) (hts _ k_6_185) (fun _ h9 => h9) (mg_at _ _) d_Mo_token_87 ?_
          refine va_cald hx hb hK hP 16 2 (ma_text _ _ _ _) rfl (zt_in (show (f_at S2).toInt = _ from rfl) (by omega) (by omega)) d_Mo_token_90 ?_
          refine j_eqi (y := x8) ex8.symm ?_
          refine lv_bipush (v := 123) hx hb d_Mo_token_91 (by decide) ?_
          refine lv_icmp_ne (tgt := 143) hx hb d_Mo_token_93 (by decide) (fun c93_2 => ?_) (fun c93_2 => ?_)
          · first | have fc93_2 : x8.toInt < 123 := (by have := zt_ne (show x8.toInt = _ from rfl) tI_123 c93_2; omega) | have fc93_2 : 123 < x8.toInt := (by have := zt_ne (show x8.toInt = _ from rfl) tI_123 c93_2; omega) | skip
            refine j_joinH (α := MS × Int32) (fun x H locs ls => (0 ≤ x.2.toInt ∧ x.2.toInt ≤ 15 ∧ 0 ≤ (f_at x.1).toInt ∧ (f_at x.1).toInt ≤ (f_length S).toInt ∧ (f_length x.1).toInt = (f_length S).toInt ∧ (x.2.toInt = 0 → 0 ≤ (f_level x.1).toInt ∧ (f_level x.1).toInt ≤ 4 ∧ 0 ≤ (f_pending x.1).toInt ∧ (f_pending x.1).toInt + 1 ≤ (f_at x.1).toInt ∧ stI (a_starts x.1) (f_level x.1).toInt (f_pending x.1).toInt)) ∧ MI x.1 ∧ kC S x.1 ∧ kF S x.1 ∧ va_P D classes (mW T h0 ar x.1) H ∧ va_D A (mW T h0 ar x.1) ∧ va_S A s.heap H locs ∧ lv_has ls 3 [(1, .int i), (0, .ref h0)]) (fun x ls => F0 m 168 ls (.int x.2 :: [])) (fun x H locs ls hI9 => ?_) (fun key2 => ?_)
            · obtain ⟨S7, j2⟩ := x
              obtain ⟨hj2, hIx, klC_S7, klF_S7, hP, hD, hS, hl⟩ := hI9
              obtain ⟨i_size, i_taken, i_vals, i_room, i_dicts, i_deep, i_open, i_cells, i_points, i_part, i_length, i_knows, i_page, i_text, i_pats, i_fuel, i_fr, i_ink⟩ := (show MI S7 from hIx)
              have klC_S7 : kC S S7 := klC_S7
              have klF_S7 : kF S S7 := klF_S7
              have hj2 : 0 ≤ j2.toInt ∧ j2.toInt ≤ 15 ∧ 0 ≤ (f_at S7).toInt ∧ (f_at S7).toInt ≤ (f_length S).toInt ∧ (f_length S7).toInt = (f_length S).toInt ∧ (j2.toInt = 0 → 0 ≤ (f_level S7).toInt ∧ (f_level S7).toInt ≤ 4 ∧ 0 ≤ (f_pending S7).toInt ∧ (f_pending S7).toInt + 1 ≤ (f_at S7).toInt ∧ stI (a_starts S7) (f_level S7).toInt (f_pending S7).toInt) := hj2
              have hP : va_P D classes (mW T h0 ar S7) H := hP
              have hD : va_D A (mW T h0 ar S7) := hD
              have hl : lv_has ls 3 [(1, .int i), (0, .ref h0)] := hl
              refine lv_istore_n (lv' := [(2, .int j2), (1, .int i), (0, .ref h0)]) hx hb d_Mo_token_168 rfl hl (by decide) rfl (fun ls hl => ?_)
              refine lv_iload_n hx hb d_Mo_token_169 rfl (lv_at hl 0 rfl) ?_
              refine lv_if_ne (tgt := 180) hx hb d_Mo_token_170 (by decide) (fun c170_2 => ?_) (fun c170_2 => ?_)
              · first | have fc170_2 : j2.toInt < 0 := (by have := zt_ne (show j2.toInt = _ from rfl) tI_0 c170_2; omega) | have fc170_2 : 0 < j2.toInt := (by have := zt_ne (show j2.toInt = _ from rfl) tI_0 c170_2; omega) | skip
                refine lv_iload_n hx hb d_Mo_token_180 rfl (lv_at hl 0 rfl) ?_
                exact j_iret F hr hlocks hK hS S7 ⟨⟨i_size, i_taken, i_vals, i_room, i_dicts, i_deep, i_open, i_cells, i_points, i_part, i_length, i_knows, i_page, i_text, i_pats, i_fuel, i_fr, i_ink⟩, klC_S7, klF_S7, (show -1 ≤ j2.toInt ∧ j2.toInt ≤ 15 ∧ 0 ≤ (f_at S7).toInt ∧ (f_at S7).toInt ≤ (f_length S).toInt by omega)⟩ hP hD d_Mo_token_181
              · have fc170_2 : j2.toInt = 0 := zt_eq (show j2.toInt = _ from rfl) tI_0 c170_2
                refine lv_aload_n hx hb d_Mo_token_173 rfl (lv_at hl 2 rfl) ?_
                refine va_get (D := D) (ci := 11) (v := .int (f_level S7)) (C := "PageScribeModel") (T := F_Mo) (N := 45) hx hb hts i_Mo hown hK hP 0 mW_0 cl_11 27 (by decide) (hts _ k_6_187) (fun _ h9 => h9) (mg_level _ _) d_Mo_token_174 ?_
                refine lv_if_ne (tgt := 182) hx hb d_Mo_token_177 (by decide) (fun c177_2 => ?_) (fun c177_2 => ?_)
                · first | have fc177_2 : (f_level S7).toInt < 0 := (by have := zt_ne (show (f_level S7).toInt = _ from rfl) tI_0 c177_2; omega) | have fc177_2 : 0 < (f_level S7).toInt := (by have := zt_ne (show (f_level S7).toInt = _ from rfl) tI_0 c177_2; omega) | skip
                  obtain ⟨ha1, ha2, ha3, ha4, hs3⟩ := hj2.2.2.2.2.2 (by omega)
                  refine lv_aload_n hx hb d_Mo_token_182 rfl (lv_at hl 2 rfl) ?_
                  refine lv_sipush (v := 1170) hx hb d_Mo_token_183 (by decide) ?_
                  refine lv_aload_n hx hb d_Mo_token_186 rfl (lv_at hl 2 rfl) ?_
                  refine va_get (D := D) (ci := 11) (v := .int (f_pending S7)) (C := "PageScribeModel") (T := F_Mo) (N := 45) hx hb hts i_Mo hown hK hP 0 mW_0 cl_11 26 (by decide) (hts _ k_6_186) (fun _ h9 => h9) (mg_pending _ _) d_Mo_token_187 ?_
                  refine lv_iadd hx hb d_Mo_token_190 ?_
                  refine lv_topi (fun x9 ex9 => ?_)
                  have fx9 : x9.toInt = ((f_pending S7).toInt + 1170) := by rw [ex9]; exact (zt_add tI_1170 (show (f_pending S7).toInt = _ from rfl) (by omega) (by omega)).trans (by omega)
                  refine lv_bipush (v := 40) hx hb d_Mo_token_191 (by decide) ?_
                  refine jm_cv (w := (fun u => u)) hK hP hD hS hA (va_runV (As := [.int x9, .int 40]) (rest := []) F (m_move l D T h0 ar S7 x9 (40 : Int32) H.size (show 0 ≤ x9.toInt ∧ x9.toInt < 1300 by have := tI_40; first | omega | (simp only [fx9]; omega)) (show 0 ≤ (40 : Int32).toInt ∧ (40 : Int32).toInt < 1300 by have := tI_40; first | omega | (simp only [fx9]; omega))) (j_cV (k := 2) (C := "PageScribeModel") hts k_7_76 k_1_12 k_7_73 k_7_75 k_0_82 (by decide +kernel) ⟨Nat.le_of_ble_eq_true rfl, Nat.le_of_ble_eq_true rfl⟩) (jm_pre hK hP hD) rfl rfl hl.1 rfl (lv_room (Nat.le_of_ble_eq_true rfl)) d_Mo_token_193 ⟨Nat.le_of_ble_eq_true rfl, Nat.le_of_ble_eq_true rfl⟩) (fun S8 H locs hw4 hP hD hS => ?_)
                  try simp only [fx9, tI_40] at hw4
                  obtain rfl := hw4
                  have hP : va_P D classes (mW T h0 ar ((((f_thrown S7), (upd (a_kinds S7) (((f_pending S7).toInt + 1170).toNat) ((a_kinds S7) (40))), (vp_updL (a_codes S7) (((f_pending S7).toInt + 1170).toNat) ((a_codes S7) (40))), (vf_upd (a_reals S7) (((f_pending S7).toInt + 1170).toNat) ((a_reals S7) (40))), (f_size S7), (f_taken S7), (a_words S7), (a_many S7)), S7.2.1, S7.2.2.1, S7.2.2.2.1, S7.2.2.2.2.1, S7.2.2.2.2.2) : MS)) H := hP
                  have hD : va_D A (mW T h0 ar ((((f_thrown S7), (upd (a_kinds S7) (((f_pending S7).toInt + 1170).toNat) ((a_kinds S7) (40))), (vp_updL (a_codes S7) (((f_pending S7).toInt + 1170).toNat) ((a_codes S7) (40))), (vf_upd (a_reals S7) (((f_pending S7).toInt + 1170).toNat) ((a_reals S7) (40))), (f_size S7), (f_taken S7), (a_words S7), (a_many S7)), S7.2.1, S7.2.2.1, S7.2.2.2.1, S7.2.2.2.2.1, S7.2.2.2.2.2) : MS)) := hD
                  have i_vals : ∀ k, k < 1300 → vOk ((upd (a_kinds S7) (((f_pending S7).toInt + 1170).toNat) ((a_kinds S7) (40))) k) ((vp_updL (a_codes S7) (((f_pending S7).toInt + 1170).toNat) ((a_codes S7) (40))) k) ((vf_upd (a_reals S7) (((f_pending S7).toInt + 1170).toNat) ((a_reals S7) (40))) k) := vOk_upd i_vals (i_vals 40 (by omega))
                  have fa3 : ((upd (a_kinds S7) (((f_pending S7).toInt + 1170).toNat) ((a_kinds S7) (40))) (((f_pending S7).toInt + 1170).toNat)).toInt = ((a_kinds S7) 40).toInt := congrArg Int32.toInt upd_s
                  have fa4 : ((vp_updL (a_codes S7) (((f_pending S7).toInt + 1170).toNat) ((a_codes S7) (40))) (((f_pending S7).toInt + 1170).toNat)).toInt = ((a_codes S7) 40).toInt := congrArg Int64.toInt updL_s
                  refine lv_aload_n hx hb d_Mo_token_196 rfl (lv_at hl 2 rfl) ?_
                  refine lv_dup hx hb d_Mo_token_197 rfl ?_
                  refine va_get (D := D) (ci := 11) (v := .int (f_pending S7)) (C := "PageScribeModel") (T := F_Mo) (N := 45) hx hb hts i_Mo hown hK hP 0 mW_0 cl_11 26 (by decide) (hts _ k_6_186) (fun _ h9 => h9) (mg_pending _ _) d_Mo_token_198 ?_
                  refine lv_iconst (v := 1) hx hb d_Mo_token_201 (by decide) ?_
                  refine lv_iadd hx hb d_Mo_token_202 ?_
                  refine lv_topi (fun x10 ex10 => ?_)
                  have fx10 : x10.toInt = ((f_pending S7).toInt + 1) := by rw [ex10]; exact (zt_add (show (f_pending S7).toInt = _ from rfl) tI_1 (by omega) (by omega)).trans (by omega)
                  refine va_put (D := D) (ci := 11) (v := .int x10) (ty := .int) (C := "PageScribeModel") (T := F_Mo) (N := 45) hx hb hts i_Mo t_Mo t_Mo_ok n_Mo hown hK hP hD hS 0 mW_0 cl_11 26 (by decide) (hts _ k_6_186) (fun _ h9 => h9) rfl (by decide +kernel) rfl rfl (Nat.le_of_ble_eq_true rfl) d_Mo_token_203 (fun H locs hP hD hS => ?_)
                  rw [mp_pending] at hP hD
                  have hP : va_P D classes (mW T h0 ar ((((f_thrown S7), (upd (a_kinds S7) (((f_pending S7).toInt + 1170).toNat) ((a_kinds S7) (40))), (vp_updL (a_codes S7) (((f_pending S7).toInt + 1170).toNat) ((a_codes S7) (40))), (vf_upd (a_reals S7) (((f_pending S7).toInt + 1170).toNat) ((a_reals S7) (40))), (f_size S7), (f_taken S7), (a_words S7), (a_many S7)), S7.2.1, S7.2.2.1, ((f_length S7), (f_at S7), x10, (f_level S7), (a_starts S7), (a_known S7), (f_knows S7), (f_fuel S7)), S7.2.2.2.2.1, S7.2.2.2.2.2) : MS)) H := hP
                  have hD : va_D A (mW T h0 ar ((((f_thrown S7), (upd (a_kinds S7) (((f_pending S7).toInt + 1170).toNat) ((a_kinds S7) (40))), (vp_updL (a_codes S7) (((f_pending S7).toInt + 1170).toNat) ((a_codes S7) (40))), (vf_upd (a_reals S7) (((f_pending S7).toInt + 1170).toNat) ((a_reals S7) (40))), (f_size S7), (f_taken S7), (a_words S7), (a_many S7)), S7.2.1, S7.2.2.1, ((f_length S7), (f_at S7), x10, (f_level S7), (a_starts S7), (a_known S7), (f_knows S7), (f_fuel S7)), S7.2.2.2.2.1, S7.2.2.2.2.2) : MS)) := hD
                  refine lv_iinc (v := (i + 1)) (lv' := [(1, .int (i + 1)), (2, .int j2), (0, .ref h0)]) hx hb d_Mo_token_206 hl (k := 1) rfl (by first | rfl | decide) (by decide) rfl (fun ls hl => ?_)
                  obtain ⟨x11, ex11⟩ : ∃ z, z = (i + 1) := ⟨_, rfl⟩
                  rw [← ex11] at hl
                  have fx11 : x11.toInt = (i.toInt + 1) := by rw [ex11]; exact (zt_add (show i.toInt = _ from rfl) tI_1 (by omega) (by omega)).trans (by omega)
                  have hl : lv_has ls 3 [(1, .int x11), (2, .int j2), (0, .ref h0)] := hl
                  refine lv_goto (tgt := 12) hx hb d_Mo_token_209 (by decide) ?_
                  exact ih (k - 1) (((((f_thrown S7), (upd (a_kinds S7) (((f_pending S7).toInt + 1170).toNat) ((a_kinds S7) (40))), (vp_updL (a_codes S7) (((f_pending S7).toInt + 1170).toNat) ((a_codes S7) (40))), (vf_upd (a_reals S7) (((f_pending S7).toInt + 1170).toNat) ((a_reals S7) (40))), (f_size S7), (f_taken S7), (a_words S7), (a_many S7)), S7.2.1, S7.2.2.1, ((f_length S7), (f_at S7), x10, (f_level S7), (a_starts S7), (a_known S7), (f_knows S7), (f_fuel S7)), S7.2.2.2.2.1, S7.2.2.2.2.2) : MS), x11) _ _ _ (by omega) ⟨(show 0 ≤ x11.toInt ∧ x11.toInt ≤ 300 ∧ 300 ≤ x11.toInt + (((k - 1) : Nat) : Int) ∧ 0 ≤ (f_at S7).toInt ∧ (f_at S7).toInt ≤ (f_length S).toInt ∧ (f_length S7).toInt = (f_length S).toInt ∧ 0 ≤ (f_level S7).toInt ∧ (f_level S7).toInt ≤ 4 ∧ 0 ≤ x10.toInt ∧ x10.toInt ≤ (f_at S7).toInt ∧ stI (a_starts S7) (f_level S7).toInt x10.toInt by exact ⟨by omega, by omega, by omega, by omega, by omega, by omega, by omega, by omega, by omega, by omega, (by first | assumption | exact st_0 (by omega) | exact st_up (by assumption) (by omega) | exact st_push (by assumption) (by omega) (by omega) rfl (by omega))⟩), ⟨i_size, i_taken, i_vals, i_room, i_dicts, i_deep, i_open, i_cells, i_points, i_part, i_length, i_knows, i_page, i_text, i_pats, i_fuel, i_fr, i_ink⟩, (show kC S ((((f_thrown S7), (upd (a_kinds S7) (((f_pending S7).toInt + 1170).toNat) ((a_kinds S7) (40))), (vp_updL (a_codes S7) (((f_pending S7).toInt + 1170).toNat) ((a_codes S7) (40))), (vf_upd (a_reals S7) (((f_pending S7).toInt + 1170).toNat) ((a_reals S7) (40))), (f_size S7), (f_taken S7), (a_words S7), (a_many S7)), S7.2.1, S7.2.2.1, ((f_length S7), (f_at S7), x10, (f_level S7), (a_starts S7), (a_known S7), (f_knows S7), (f_fuel S7)), S7.2.2.2.2.1, S7.2.2.2.2.2) : MS) from klC_S7), (show kF S ((((f_thrown S7), (upd (a_kinds S7) (((f_pending S7).toInt + 1170).toNat) ((a_kinds S7) (40))), (vp_updL (a_codes S7) (((f_pending S7).toInt + 1170).toNat) ((a_codes S7) (40))), (vf_upd (a_reals S7) (((f_pending S7).toInt + 1170).toNat) ((a_reals S7) (40))), (f_size S7), (f_taken S7), (a_words S7), (a_many S7)), S7.2.1, S7.2.2.1, ((f_length S7), (f_at S7), x10, (f_level S7), (a_starts S7), (a_known S7), (f_knows S7), (f_fuel S7)), S7.2.2.2.2.1, S7.2.2.2.2.2) : MS) from klF_S7), hP, hD, hS, lv_sub hl [0, 2] rfl⟩
                · have fc177_2 : (f_level S7).toInt = 0 := zt_eq (show (f_level S7).toInt = _ from rfl) tI_0 c177_2
                  refine lv_iload_n hx hb d_Mo_token_180 rfl (lv_at hl 0 rfl) ?_
                  exact j_iret F hr hlocks hK hS S7 ⟨⟨i_size, i_taken, i_vals, i_room, i_dicts, i_deep, i_open, i_cells, i_points, i_part, i_length, i_knows, i_page, i_text, i_pats, i_fuel, i_fr, i_ink⟩, klC_S7, klF_S7, (show -1 ≤ j2.toInt ∧ j2.toInt ≤ 15 ∧ 0 ≤ (f_at S7).toInt ∧ (f_at S7).toInt ≤ (f_length S).toInt by omega)⟩ hP hD d_Mo_token_181
            · refine lv_aload_n hx hb d_Mo_token_143 rfl (lv_at hl 1 rfl) ?_
              refine va_get (D := D) (ci := 11) (v := .ref (ar 15)) (C := "PageScribeModel") (T := F_Mo) (N := 45) hx hb hts i_Mo hown hK hP 0 mW_0 cl_11 23 (by decide) (hts _ k_6_183) (fun _ h9 => h9) (mg_text _ _) d_Mo_token_144 ?_
              refine lv_aload_n hx hb d_Mo_token_147 rfl (lv_at hl 1 rfl) ?_
              refine va_get (D := D) (ci := 11) (v := .int (f_at S2)) (C := "PageScribeModel") (T := F_Mo) (N := 45) hx hb hts i_Mo hown hK hP 0 mW_0 cl_11 25 (by decide) (hts _ k_6_185) (fun _ h9 => h9) (mg_at _ _) d_Mo_token_148 ?_
              refine va_cald hx hb hK hP 16 2 (ma_text _ _ _ _) rfl (zt_in (show (f_at S2).toInt = _ from rfl) (by omega) (by omega)) d_Mo_token_151 ?_
              refine j_eqi (y := x8) ex8.symm ?_
              refine lv_bipush (v := 125) hx hb d_Mo_token_152 (by decide) ?_
              refine lv_icmp_ne (tgt := 164) hx hb d_Mo_token_154 (by decide) (fun c154_2 => ?_) (fun c154_2 => ?_)
              · first | have fc154_2 : x8.toInt < 125 := (by have := zt_ne (show x8.toInt = _ from rfl) tI_125 c154_2; omega) | have fc154_2 : 125 < x8.toInt := (by have := zt_ne (show x8.toInt = _ from rfl) tI_125 c154_2; omega) | skip
                refine lv_aload_n hx hb d_Mo_token_164 rfl (lv_at hl 1 rfl) ?_
                refine jm_ci (w := (fun u => u)) hK hP hD hS hA (va_runV (As := []) (rest := []) F (m_readSimple l D T h0 ar S2  H.size ⟨i_size, i_taken, i_vals, i_room, i_dicts, i_deep, i_open, i_cells, i_points, i_part, i_length, i_knows, i_page, i_text, i_pats, i_fuel, i_fr, i_ink⟩ (show 0 ≤ (f_at S2).toInt ∧ (f_at S2).toInt < (f_length S2).toInt by omega)) (j_cV (k := 0) (C := "PageScribeModel") hts k_7_85 k_1_12 k_7_82 k_7_84 k_0_84 (by decide +kernel) ⟨Nat.le_of_ble_eq_true rfl, Nat.le_of_ble_eq_true rfl⟩) (jm_pre hK hP hD) rfl rfl hl.1 rfl (lv_room (Nat.le_of_ble_eq_true rfl)) d_Mo_token_165 ⟨Nat.le_of_ble_eq_true rfl, Nat.le_of_ble_eq_true rfl⟩) (fun rv5 S9 H locs hw5 hP hD hS => ?_)
                have hP : va_P D classes (mW T h0 ar S9) H := hP
                have hD : va_D A (mW T h0 ar S9) := hD
                obtain ⟨⟨i_size, i_taken, i_vals, i_room, i_dicts, i_deep, i_open, i_cells, i_points, i_part, i_length, i_knows, i_page, i_text, i_pats, i_fuel, i_fr, i_ink⟩, kpR_S9, kpF_S9, qqhw5⟩ := hw5
                have kSF_S9 : kF S S9 := kF_t (show kF S S2 from klF_S2) kpF_S9
                have kSC_S9 : kC S S9 := kC_t (show kC S S2 from klC_S2) (kC_R kpR_S9)
                have nframes_S9 : (f_frames S9).toInt = (f_frames S2).toInt := congrArg Int32.toInt kpF_S9.1
                have nunder_S9 : (f_under S9).toInt = (f_under S2).toInt := congrArg Int32.toInt kpF_S9.2.1
                have nsteps_S9 : (f_steps S9).toInt = (f_steps S2).toInt := congrArg Int32.toInt kpR_S9.2.2.2.2.2.2
                have nfuel_S9 : (f_fuel S9).toInt = (f_fuel S2).toInt := congrArg Int32.toInt kpR_S9.2.2.2.2.2.1
                have nlevel_S9 : (f_level S9).toInt = (f_level S2).toInt := congrArg Int32.toInt kpR_S9.2.2.1
                have npending_S9 : (f_pending S9).toInt = (f_pending S2).toInt := congrArg Int32.toInt kpR_S9.2.2.2.1
                have nlength_S9 : (f_length S9).toInt = (f_length S2).toInt := congrArg Int32.toInt kpR_S9.1
                have qhw5 : 0 ≤ rv5.toInt ∧ rv5.toInt ≤ 15 ∧ 0 ≤ (f_at S9).toInt ∧ (f_at S9).toInt ≤ (f_length S2).toInt ∧ (rv5.toInt = 0 → (f_at S2).toInt < (f_at S9).toInt) := qqhw5
                have hst : stI (a_starts S9) (f_level S9).toInt (f_pending S9).toInt := by rw [kpR_S9.2.2.1, kpR_S9.2.2.2.1, kpR_S9.2.2.2.2.1]; exact hs2
                exact key2 (S9, rv5) _ _ _ ⟨(show 0 ≤ rv5.toInt ∧ rv5.toInt ≤ 15 ∧ 0 ≤ (f_at S9).toInt ∧ (f_at S9).toInt ≤ (f_length S).toInt ∧ (f_length S9).toInt = (f_length S).toInt ∧ (rv5.toInt = 0 → 0 ≤ (f_level S9).toInt ∧ (f_level S9).toInt ≤ 4 ∧ 0 ≤ (f_pending S9).toInt ∧ (f_pending S9).toInt + 1 ≤ (f_at S9).toInt ∧ stI (a_starts S9) (f_level S9).toInt (f_pending S9).toInt) by refine ⟨by omega, by omega, by omega, by omega, by omega, fun q => ⟨by omega, by omega, by omega, by omega, ?_⟩⟩; first | exact hst | exact (hcl.2.2.2.resolve_left (by omega)).2.2.2.2), ⟨i_size, i_taken, i_vals, i_room, i_dicts, i_deep, i_open, i_cells, i_points, i_part, i_length, i_knows, i_page, i_text, i_pats, i_fuel, i_fr, i_ink⟩, (show kC S S9 from kSC_S9), (show kF S S9 from kSF_S9), hP, hD, hS, lv_sub hl [0, 1] rfl⟩
              · have fc154_2 : x8.toInt = 125 := zt_eq (show x8.toInt = _ from rfl) tI_125 c154_2
                refine lv_aload_n hx hb d_Mo_token_157 rfl (lv_at hl 1 rfl) ?_
                refine jm_ci (w := (fun u => u)) hK hP hD hS hA (va_runV (As := []) (rest := []) F (m_close l D T h0 ar S2  H.size ⟨i_size, i_taken, i_vals, i_room, i_dicts, i_deep, i_open, i_cells, i_points, i_part, i_length, i_knows, i_page, i_text, i_pats, i_fuel, i_fr, i_ink⟩ (show 0 ≤ (f_at S2).toInt ∧ (f_at S2).toInt < (f_length S2).toInt ∧ 0 ≤ (f_level S2).toInt ∧ (f_level S2).toInt ≤ 4 ∧ 0 ≤ (f_pending S2).toInt ∧ (f_pending S2).toInt ≤ 120 by omega) hs2) (j_cV (k := 0) (C := "PageScribeModel") hts k_7_68 k_1_12 k_7_65 k_7_67 k_0_80 (by decide +kernel) ⟨Nat.le_of_ble_eq_true rfl, Nat.le_of_ble_eq_true rfl⟩) (jm_pre hK hP hD) rfl rfl hl.1 rfl (lv_room (Nat.le_of_ble_eq_true rfl)) d_Mo_token_158 ⟨Nat.le_of_ble_eq_true rfl, Nat.le_of_ble_eq_true rfl⟩) (fun rv6 S10 H locs hw6 hP hD hS => ?_)
                have hP : va_P D classes (mW T h0 ar S10) H := hP
                have hD : va_D A (mW T h0 ar S10) := hD
                obtain ⟨⟨i_size, i_taken, i_vals, i_room, i_dicts, i_deep, i_open, i_cells, i_points, i_part, i_length, i_knows, i_page, i_text, i_pats, i_fuel, i_fr, i_ink⟩, kpC_S10, kpF_S10, qqhw6⟩ := hw6
                have kSF_S10 : kF S S10 := kF_t (show kF S S2 from klF_S2) kpF_S10
                have kSC_S10 : kC S S10 := kC_t (show kC S S2 from klC_S2) kpC_S10
                have nframes_S10 : (f_frames S10).toInt = (f_frames S2).toInt := congrArg Int32.toInt kpF_S10.1
                have nunder_S10 : (f_under S10).toInt = (f_under S2).toInt := congrArg Int32.toInt kpF_S10.2.1
                have nsteps_S10 : (f_steps S10).toInt = (f_steps S2).toInt := congrArg Int32.toInt kpC_S10.2.2.2
                have nfuel_S10 : (f_fuel S10).toInt = (f_fuel S2).toInt := congrArg Int32.toInt kpC_S10.2.2.1
                have nlength_S10 : (f_length S10).toInt = (f_length S2).toInt := congrArg Int32.toInt kpC_S10.1
                have qhw6 : (f_at S10).toInt = (f_at S2).toInt + 1 ∧ 0 ≤ rv6.toInt ∧ rv6.toInt ≤ 15 ∧ (rv6.toInt = 15 ∨ ((f_level S10).toInt = (f_level S2).toInt - 1 ∧ 0 ≤ (f_level S10).toInt ∧ 0 ≤ (f_pending S10).toInt ∧ (f_pending S10).toInt ≤ (f_pending S2).toInt ∧ stI (a_starts S10) (f_level S10).toInt (f_pending S10).toInt)) := qqhw6
                have hcl := qhw6
                refine lv_goto (tgt := 168) hx hb d_Mo_token_161 (by decide) ?_
                exact key2 (S10, rv6) _ _ _ ⟨(show 0 ≤ rv6.toInt ∧ rv6.toInt ≤ 15 ∧ 0 ≤ (f_at S10).toInt ∧ (f_at S10).toInt ≤ (f_length S).toInt ∧ (f_length S10).toInt = (f_length S).toInt ∧ (rv6.toInt = 0 → 0 ≤ (f_level S10).toInt ∧ (f_level S10).toInt ≤ 4 ∧ 0 ≤ (f_pending S10).toInt ∧ (f_pending S10).toInt + 1 ≤ (f_at S10).toInt ∧ stI (a_starts S10) (f_level S10).toInt (f_pending S10).toInt) by refine ⟨by omega, by omega, by omega, by omega, by omega, fun q => ⟨by omega, by omega, by omega, by omega, ?_⟩⟩; first | exact hst | exact (hcl.2.2.2.resolve_left (by omega)).2.2.2.2), ⟨i_size, i_taken, i_vals, i_room, i_dicts, i_deep, i_open, i_cells, i_points, i_part, i_length, i_knows, i_page, i_text, i_pats, i_fuel, i_fr, i_ink⟩, (show kC S S10 from kSC_S10), (show kF S S10 from kSF_S10), hP, hD, hS, lv_sub hl [0, 1] rfl⟩
          · have fc93_2 : x8.toInt = 123 := zt_eq (show x8.toInt = _ from rfl) tI_123 c93_2
            refine lv_aload_n hx hb d_Mo_token_96 rfl (lv_at hl 1 rfl) ?_
            refine va_get (D := D) (ci := 11) (v := .int (f_level S2)) (C := "PageScribeModel") (T := F_Mo) (N := 45) hx hb hts i_Mo hown hK hP 0 mW_0 cl_11 27 (by decide) (hts _ k_6_187) (fun _ h9 => h9) (mg_level _ _) d_Mo_token_97 ?_
            refine lv_iconst (v := 4) hx hb d_Mo_token_100 (by decide) ?_
            refine lv_icmp_ne (tgt := 107) hx hb d_Mo_token_101 (by decide) (fun c101_2 => ?_) (fun c101_2 => ?_)
            · first | have fc101_2 : (f_level S2).toInt < 4 := (by have := zt_ne (show (f_level S2).toInt = _ from rfl) tI_4 c101_2; omega) | have fc101_2 : 4 < (f_level S2).toInt := (by have := zt_ne (show (f_level S2).toInt = _ from rfl) tI_4 c101_2; omega) | skip
              refine lv_aload_n hx hb d_Mo_token_107 rfl (lv_at hl 1 rfl) ?_
              refine va_get (D := D) (ci := 11) (v := .ref (ar 16)) (C := "PageScribeModel") (T := F_Mo) (N := 45) hx hb hts i_Mo hown hK hP 0 mW_0 cl_11 28 (by decide) (hts _ k_6_188) (fun _ h9 => h9) (mg_starts _ _) d_Mo_token_108 ?_
              refine lv_aload_n hx hb d_Mo_token_111 rfl (lv_at hl 1 rfl) ?_
              refine va_get (D := D) (ci := 11) (v := .int (f_level S2)) (C := "PageScribeModel") (T := F_Mo) (N := 45) hx hb hts i_Mo hown hK hP 0 mW_0 cl_11 27 (by decide) (hts _ k_6_187) (fun _ h9 => h9) (mg_level _ _) d_Mo_token_112 ?_
              refine lv_aload_n hx hb d_Mo_token_115 rfl (lv_at hl 1 rfl) ?_
              refine va_get (D := D) (ci := 11) (v := .int (f_pending S2)) (C := "PageScribeModel") (T := F_Mo) (N := 45) hx hb hts i_Mo hown hK hP 0 mW_0 cl_11 26 (by decide) (hts _ k_6_186) (fun _ h9 => h9) (mg_pending _ _) d_Mo_token_116 ?_
              refine va_iast hx hb hK hP hD hS 17 0 (ma_starts _ _ _ _) rfl (zt_in (show (f_level S2).toInt = _ from rfl) (by omega) (by omega)) d_Mo_token_119 (fun H locs hP hD hS => ?_)
              rw [ms_starts] at hP hD
              rw [zt_ix (show (f_level S2).toInt = _ from rfl)] at hP hD
              have hP : va_P D classes (mW T h0 ar ((S2.1, S2.2.1, S2.2.2.1, ((f_length S2), (f_at S2), (f_pending S2), (f_level S2), (upd (a_starts S2) ((f_level S2).toInt.toNat) (f_pending S2)), (a_known S2), (f_knows S2), (f_fuel S2)), S2.2.2.2.2.1, S2.2.2.2.2.2) : MS)) H := hP
              have hD : va_D A (mW T h0 ar ((S2.1, S2.2.1, S2.2.2.1, ((f_length S2), (f_at S2), (f_pending S2), (f_level S2), (upd (a_starts S2) ((f_level S2).toInt.toNat) (f_pending S2)), (a_known S2), (f_knows S2), (f_fuel S2)), S2.2.2.2.2.1, S2.2.2.2.2.2) : MS)) := hD
              refine lv_aload_n hx hb d_Mo_token_120 rfl (lv_at hl 1 rfl) ?_
              refine lv_dup hx hb d_Mo_token_121 rfl ?_
              refine va_get (D := D) (ci := 11) (v := .int (f_level S2)) (C := "PageScribeModel") (T := F_Mo) (N := 45) hx hb hts i_Mo hown hK hP 0 mW_0 cl_11 27 (by decide) (hts _ k_6_187) (fun _ h9 => h9) (mg_level _ _) d_Mo_token_122 ?_
              refine lv_iconst (v := 1) hx hb d_Mo_token_125 (by decide) ?_
              refine lv_iadd hx hb d_Mo_token_126 ?_
              refine lv_topi (fun x12 ex12 => ?_)
              have fx12 : x12.toInt = ((f_level S2).toInt + 1) := by rw [ex12]; exact (zt_add (show (f_level S2).toInt = _ from rfl) tI_1 (by omega) (by omega)).trans (by omega)
              refine va_put (D := D) (ci := 11) (v := .int x12) (ty := .int) (C := "PageScribeModel") (T := F_Mo) (N := 45) hx hb hts i_Mo t_Mo t_Mo_ok n_Mo hown hK hP hD hS 0 mW_0 cl_11 27 (by decide) (hts _ k_6_187) (fun _ h9 => h9) rfl (by decide +kernel) rfl rfl (Nat.le_of_ble_eq_true rfl) d_Mo_token_127 (fun H locs hP hD hS => ?_)
              rw [mp_level] at hP hD
              have hP : va_P D classes (mW T h0 ar ((S2.1, S2.2.1, S2.2.2.1, ((f_length S2), (f_at S2), (f_pending S2), x12, (upd (a_starts S2) ((f_level S2).toInt.toNat) (f_pending S2)), (a_known S2), (f_knows S2), (f_fuel S2)), S2.2.2.2.2.1, S2.2.2.2.2.2) : MS)) H := hP
              have hD : va_D A (mW T h0 ar ((S2.1, S2.2.1, S2.2.2.1, ((f_length S2), (f_at S2), (f_pending S2), x12, (upd (a_starts S2) ((f_level S2).toInt.toNat) (f_pending S2)), (a_known S2), (f_knows S2), (f_fuel S2)), S2.2.2.2.2.1, S2.2.2.2.2.2) : MS)) := hD
              refine lv_aload_n hx hb d_Mo_token_130 rfl (lv_at hl 1 rfl) ?_
              refine lv_dup hx hb d_Mo_token_131 rfl ?_
              refine va_get (D := D) (ci := 11) (v := .int (f_at S2)) (C := "PageScribeModel") (T := F_Mo) (N := 45) hx hb hts i_Mo hown hK hP 0 mW_0 cl_11 25 (by decide) (hts _ k_6_185) (fun _ h9 => h9) (mg_at _ _) d_Mo_token_132 ?_
              refine lv_iconst (v := 1) hx hb d_Mo_token_135 (by decide) ?_
              refine lv_iadd hx hb d_Mo_token_136 ?_
              refine lv_topi (fun x13 ex13 => ?_)
              have fx13 : x13.toInt = ((f_at S2).toInt + 1) := by rw [ex13]; exact (zt_add (show (f_at S2).toInt = _ from rfl) tI_1 (by omega) (by omega)).trans (by omega)
              refine va_put (D := D) (ci := 11) (v := .int x13) (ty := .int) (C := "PageScribeModel") (T := F_Mo) (N := 45) hx hb hts i_Mo t_Mo t_Mo_ok n_Mo hown hK hP hD hS 0 mW_0 cl_11 25 (by decide) (hts _ k_6_185) (fun _ h9 => h9) rfl (by decide +kernel) rfl rfl (Nat.le_of_ble_eq_true rfl) d_Mo_token_137 (fun H locs hP hD hS => ?_)
              rw [mp_at] at hP hD
              have hP : va_P D classes (mW T h0 ar ((S2.1, S2.2.1, S2.2.2.1, ((f_length S2), x13, (f_pending S2), x12, (upd (a_starts S2) ((f_level S2).toInt.toNat) (f_pending S2)), (a_known S2), (f_knows S2), (f_fuel S2)), S2.2.2.2.2.1, S2.2.2.2.2.2) : MS)) H := hP
              have hD : va_D A (mW T h0 ar ((S2.1, S2.2.1, S2.2.2.1, ((f_length S2), x13, (f_pending S2), x12, (upd (a_starts S2) ((f_level S2).toInt.toNat) (f_pending S2)), (a_known S2), (f_knows S2), (f_fuel S2)), S2.2.2.2.2.1, S2.2.2.2.2.2) : MS)) := hD
              refine lv_goto (tgt := 206) hx hb d_Mo_token_140 (by decide) ?_
              refine lv_iinc (v := (i + 1)) (lv' := [(1, .int (i + 1)), (0, .ref h0)]) hx hb d_Mo_token_206 hl (k := 0) rfl (by first | rfl | decide) (by decide) rfl (fun ls hl => ?_)
              obtain ⟨x14, ex14⟩ : ∃ z, z = (i + 1) := ⟨_, rfl⟩
              rw [← ex14] at hl
              have fx14 : x14.toInt = (i.toInt + 1) := by rw [ex14]; exact (zt_add (show i.toInt = _ from rfl) tI_1 (by omega) (by omega)).trans (by omega)
              have hl : lv_has ls 3 [(1, .int x14), (0, .ref h0)] := hl
              refine lv_goto (tgt := 12) hx hb d_Mo_token_209 (by decide) ?_
              exact ih (k - 1) (((S2.1, S2.2.1, S2.2.2.1, ((f_length S2), x13, (f_pending S2), x12, (upd (a_starts S2) ((f_level S2).toInt.toNat) (f_pending S2)), (a_known S2), (f_knows S2), (f_fuel S2)), S2.2.2.2.2.1, S2.2.2.2.2.2) : MS), x14) _ _ _ (by omega) ⟨(show 0 ≤ x14.toInt ∧ x14.toInt ≤ 300 ∧ 300 ≤ x14.toInt + (((k - 1) : Nat) : Int) ∧ 0 ≤ x13.toInt ∧ x13.toInt ≤ (f_length S).toInt ∧ (f_length S2).toInt = (f_length S).toInt ∧ 0 ≤ x12.toInt ∧ x12.toInt ≤ 4 ∧ 0 ≤ (f_pending S2).toInt ∧ (f_pending S2).toInt ≤ x13.toInt ∧ stI (upd (a_starts S2) ((f_level S2).toInt.toNat) (f_pending S2)) x12.toInt (f_pending S2).toInt by exact ⟨by omega, by omega, by omega, by omega, by omega, by omega, by omega, by omega, by omega, by omega, (by first | assumption | exact st_0 (by omega) | exact st_up (by assumption) (by omega) | exact st_push (by assumption) (by omega) (by omega) rfl (by omega))⟩), ⟨i_size, i_taken, i_vals, i_room, i_dicts, i_deep, i_open, i_cells, i_points, i_part, i_length, i_knows, i_page, i_text, i_pats, i_fuel, i_fr, i_ink⟩, (show kC S ((S2.1, S2.2.1, S2.2.2.1, ((f_length S2), x13, (f_pending S2), x12, (upd (a_starts S2) ((f_level S2).toInt.toNat) (f_pending S2)), (a_known S2), (f_knows S2), (f_fuel S2)), S2.2.2.2.2.1, S2.2.2.2.2.2) : MS) from klC_S2), (show kF S ((S2.1, S2.2.1, S2.2.2.1, ((f_length S2), x13, (f_pending S2), x12, (upd (a_starts S2) ((f_level S2).toInt.toNat) (f_pending S2)), (a_known S2), (f_knows S2), (f_fuel S2)), S2.2.2.2.2.1, S2.2.2.2.2.2) : MS) from klF_S2), hP, hD, hS, lv_sub hl [0, 1] rfl⟩
            · have fc101_2 : (f_level S2).toInt = 4 := zt_eq (show (f_level S2).toInt = _ from rfl) tI_4 c101_2
              refine lv_bipush (v := 12) hx hb d_Mo_token_104 (by decide) ?_
              exact j_iret F hr hlocks hK hS S2 ⟨⟨i_size, i_taken, i_vals, i_room, i_dicts, i_deep, i_open, i_cells, i_points, i_part, i_length, i_knows, i_page, i_text, i_pats, i_fuel, i_fr, i_ink⟩, klC_S2, klF_S2, (show -1 ≤ (12 : Int32).toInt ∧ (12 : Int32).toInt ≤ 15 ∧ 0 ≤ (f_at S2).toInt ∧ (f_at S2).toInt ≤ (f_length S).toInt by have := tI_12; omega)⟩ hP hD d_Mo_token_106
        · have fc65_2 : (f_at S2).toInt = (f_length S2).toInt := zt_eq (show (f_at S2).toInt = _ from rfl) (show (f_length S2).toInt = _ from rfl) c65_2
          refine lv_aload_n hx hb d_Mo_token_68 rfl (lv_at hl 1 rfl) ?_
          refine va_get (D := D) (ci := 11) (v := .int (f_level S2)) (C := "PageScribeModel") (T := F_Mo) (N := 45) hx hb hts i_Mo hown hK hP 0 mW_0 cl_11 27 (by decide) (hts _ k_6_187) (fun _ h9 => h9) (mg_level _ _) d_Mo_token_69 ?_
          refine lv_if_ne (tgt := 79) hx hb d_Mo_token_72 (by decide) (fun c72_2 => ?_) (fun c72_2 => ?_)
          · first | have fc72_2 : (f_level S2).toInt < 0 := (by have := zt_ne (show (f_level S2).toInt = _ from rfl) tI_0 c72_2; omega) | have fc72_2 : 0 < (f_level S2).toInt := (by have := zt_ne (show (f_level S2).toInt = _ from rfl) tI_0 c72_2; omega) | skip
            refine lv_bipush (v := 15) hx hb d_Mo_token_79 (by decide) ?_
            exact j_iret F hr hlocks hK hS S2 ⟨⟨i_size, i_taken, i_vals, i_room, i_dicts, i_deep, i_open, i_cells, i_points, i_part, i_length, i_knows, i_page, i_text, i_pats, i_fuel, i_fr, i_ink⟩, klC_S2, klF_S2, (show -1 ≤ (15 : Int32).toInt ∧ (15 : Int32).toInt ≤ 15 ∧ 0 ≤ (f_at S2).toInt ∧ (f_at S2).toInt ≤ (f_length S).toInt by have := tI_15; omega)⟩ hP hD d_Mo_token_81
          · have fc72_2 : (f_level S2).toInt = 0 := zt_eq (show (f_level S2).toInt = _ from rfl) tI_0 c72_2
            refine lv_iconst (v := (-1)) hx hb d_Mo_token_75 (by decide) ?_
            refine lv_goto (tgt := 81) hx hb d_Mo_token_76 (by decide) ?_
            exact j_iret F hr hlocks hK hS S2 ⟨⟨i_size, i_taken, i_vals, i_room, i_dicts, i_deep, i_open, i_cells, i_points, i_part, i_length, i_knows, i_page, i_text, i_pats, i_fuel, i_fr, i_ink⟩, klC_S2, klF_S2, (show -1 ≤ (-1 : Int32).toInt ∧ (-1 : Int32).toInt ≤ 15 ∧ 0 ≤ (f_at S2).toInt ∧ (f_at S2).toInt ≤ (f_length S).toInt by have := tI_m1; omega)⟩ hP hD d_Mo_token_81
      · have fc41_1 : x8.toInt = 32 := zt_eq (show x8.toInt = _ from rfl) tI_32 c41_1
        refine lv_aload_n hx hb d_Mo_token_44 rfl (lv_at hl 1 rfl) ?_
        refine lv_dup hx hb d_Mo_token_45 rfl ?_
        refine va_get (D := D) (ci := 11) (v := .int (f_at S2)) (C := "PageScribeModel") (T := F_Mo) (N := 45) hx hb hts i_Mo hown hK hP 0 mW_0 cl_11 25 (by decide) (hts _ k_6_185) (fun _ h9 => h9) (mg_at _ _) d_Mo_token_46 ?_
        refine lv_iconst (v := 1) hx hb d_Mo_token_49 (by decide) ?_
        refine lv_iadd hx hb d_Mo_token_50 ?_
        refine lv_topi (fun x15 ex15 => ?_)
        have fx15 : x15.toInt = ((f_at S2).toInt + 1) := by rw [ex15]; exact (zt_add (show (f_at S2).toInt = _ from rfl) tI_1 (by omega) (by omega)).trans (by omega)
        refine va_put (D := D) (ci := 11) (v := .int x15) (ty := .int) (C := "PageScribeModel") (T := F_Mo) (N := 45) hx hb hts i_Mo t_Mo t_Mo_ok n_Mo hown hK hP hD hS 0 mW_0 cl_11 25 (by decide) (hts _ k_6_185) (fun _ h9 => h9) rfl (by decide +kernel) rfl rfl (Nat.le_of_ble_eq_true rfl) d_Mo_token_51 (fun H locs hP hD hS => ?_)
        rw [mp_at] at hP hD
        have hP : va_P D classes (mW T h0 ar ((S2.1, S2.2.1, S2.2.2.1, ((f_length S2), x15, (f_pending S2), (f_level S2), (a_starts S2), (a_known S2), (f_knows S2), (f_fuel S2)), S2.2.2.2.2.1, S2.2.2.2.2.2) : MS)) H := hP
        have hD : va_D A (mW T h0 ar ((S2.1, S2.2.1, S2.2.2.1, ((f_length S2), x15, (f_pending S2), (f_level S2), (a_starts S2), (a_known S2), (f_knows S2), (f_fuel S2)), S2.2.2.2.2.1, S2.2.2.2.2.2) : MS)) := hD
        refine lv_goto (tgt := 19) hx hb d_Mo_token_54 (by decide) ?_
        exact ih2 (k2 - 1) ((S2.1, S2.2.1, S2.2.2.1, ((f_length S2), x15, (f_pending S2), (f_level S2), (a_starts S2), (a_known S2), (f_knows S2), (f_fuel S2)), S2.2.2.2.2.1, S2.2.2.2.2.2) : MS) _ _ _ (by omega) ⟨(show 120 ≤ x15.toInt + (((k2 - 1) : Nat) : Int) ∧ 0 ≤ x15.toInt ∧ x15.toInt ≤ (f_length S).toInt ∧ (f_length S2).toInt = (f_length S).toInt ∧ 0 ≤ (f_level S2).toInt ∧ (f_level S2).toInt ≤ 4 ∧ 0 ≤ (f_pending S2).toInt ∧ (f_pending S2).toInt ≤ x15.toInt ∧ stI (a_starts S2) (f_level S2).toInt (f_pending S2).toInt by exact ⟨by omega, by omega, by omega, by omega, by omega, by omega, by omega, by omega, (by first | assumption | exact st_0 (by omega) | exact st_up (by assumption) (by omega) | exact st_push (by assumption) (by omega) (by omega) rfl (by omega))⟩), ⟨i_size, i_taken, i_vals, i_room, i_dicts, i_deep, i_open, i_cells, i_points, i_part, i_length, i_knows, i_page, i_text, i_pats, i_fuel, i_fr, i_ink⟩, (show kC S ((S2.1, S2.2.1, S2.2.2.1, ((f_length S2), x15, (f_pending S2), (f_level S2), (a_starts S2), (a_known S2), (f_knows S2), (f_fuel S2)), S2.2.2.2.2.1, S2.2.2.2.2.2) : MS) from klC_S2), (show kF S ((S2.1, S2.2.1, S2.2.2.1, ((f_length S2), x15, (f_pending S2), (f_level S2), (a_starts S2), (a_known S2), (f_knows S2), (f_fuel S2)), S2.2.2.2.2.1, S2.2.2.2.2.2) : MS) from klF_S2), hP, hD, hS, lv_sub hl [0, 1] rfl⟩
