set_option maxHeartbeats 4000000 in
set_option maxRecDepth 100000 in
theorem m_step2 (l : Launch) (D : va_G) (T : Nat → ClassId) (h0 : Nat) (ar : Nat → Nat) (S : MS)  (sz : Nat) (hI : MI S) : Met l ⟨"PageScribeModel", "step", "()I"⟩ (wy ⟨"PageScribeModel", "step", "()I"⟩ prog_15_method_32_code 1 (some .int)) ({ frames := 0, cells := 0, slots := 0, locals := 0 }) (va_Pc [.ref h0] (Pw D T (mW T h0 ar S) sz E0)) (va_Qi (fun (r : Int32) (u : MS) => MI u ∧ kF S u ∧ kT S u ∧ ((r.toInt = 16 ∧ (f_steps u).toInt = (f_steps S).toInt ∧ (a_kinds u) = (a_kinds S) ∧ (a_codes u) = (a_codes S) ∧ (a_reals u) = (a_reals S)) ∨ (r.toInt = 0 ∧ (f_steps u).toInt = (f_steps S).toInt + 1 ∧ (a_kinds u) = (a_kinds S) ∧ (a_codes u) = (a_codes S) ∧ (a_reals u) = (a_reals S)))) (fun u t => Bw D T (va_A (mW T h0 ar S) sz) (mW T h0 ar u) t) (va_A (mW T h0 ar S) sz)) 0 0 (va_A (mW T h0 ar S) sz) := by
  refine j_met (y := ⟨"PageScribeModel", "step", "()I"⟩) (b := prog_15_method_32_code) (n := 1) (ret := (some .int)) (av := [.ref h0]) (Qc := fun A => va_Qi (fun (r : Int32) (u : MS) => MI u ∧ kF S u ∧ kT S u ∧ ((r.toInt = 16 ∧ (f_steps u).toInt = (f_steps S).toInt ∧ (a_kinds u) = (a_kinds S) ∧ (a_codes u) = (a_codes S) ∧ (a_reals u) = (a_reals S)) ∨ (r.toInt = 0 ∧ (f_steps u).toInt = (f_steps S).toInt + 1 ∧ (a_kinds u) = (a_kinds S) ∧ (a_codes u) = (a_codes S) ∧ (a_reals u) = (a_reals S)))) (fun u t => Bw D T A (mW T h0 ar u) t) A) (by decide +kernel) (Nat.le_of_ble_eq_true rfl) (fun p e s m args below meth c A ls F hr hlocks hnm hK hP hD hS hA hN hE hl => ?_)
  obtain ⟨hx, hb, hml, hown, hts⟩ := id F
  have hl : lv_has ls 1 [(0, .ref h0)] := hl
  obtain ⟨i_size, i_taken, i_vals, i_room, i_dicts, i_deep, i_open, i_cells, i_points, i_part, i_length, i_knows, i_page, i_text, i_pats, i_fuel, i_fr, i_ink⟩ := id hI
  refine lv_aload_n hx hb d_Mo_step_0 rfl (lv_at hl 0 rfl) ?_
  refine va_get (D := D) (ci := 11) (v := .int (f_steps S)) (C := "PageScribeModel") (T := F_Mo) (N := 45) hx hb hts i_Mo hown hK hP 0 mW_0 cl_11 32 (by decide) (hts _ k_6_192) (fun _ h9 => h9) (mg_steps _ _) d_Mo_step_1 ?_
  refine lv_aload_n hx hb d_Mo_step_4 rfl (lv_at hl 0 rfl) ?_
  refine va_get (D := D) (ci := 11) (v := .int (f_fuel S)) (C := "PageScribeModel") (T := F_Mo) (N := 45) hx hb hts i_Mo hown hK hP 0 mW_0 cl_11 31 (by decide) (hts _ k_6_191) (fun _ h9 => h9) (mg_fuel _ _) d_Mo_step_5 ?_
  refine lv_icmp_ne (tgt := 14) hx hb d_Mo_step_8 (by decide) (fun c8_1 => ?_) (fun c8_1 => ?_)
  · first | have fc8_1 : (f_steps S).toInt < (f_fuel S).toInt := (by have := zt_ne (show (f_steps S).toInt = _ from rfl) (show (f_fuel S).toInt = _ from rfl) c8_1; omega) | have fc8_1 : (f_fuel S).toInt < (f_steps S).toInt := (by have := zt_ne (show (f_steps S).toInt = _ from rfl) (show (f_fuel S).toInt = _ from rfl) c8_1; omega) | skip
    refine lv_aload_n hx hb d_Mo_step_14 rfl (lv_at hl 0 rfl) ?_
    refine lv_dup hx hb d_Mo_step_15 rfl ?_
    refine va_get (D := D) (ci := 11) (v := .int (f_steps S)) (C := "PageScribeModel") (T := F_Mo) (N := 45) hx hb hts i_Mo hown hK hP 0 mW_0 cl_11 32 (by decide) (hts _ k_6_192) (fun _ h9 => h9) (mg_steps _ _) d_Mo_step_16 ?_
    refine lv_iconst (v := 1) hx hb d_Mo_step_19 (by decide) ?_
    refine lv_iadd hx hb d_Mo_step_20 ?_
    refine lv_topi (fun x1 ex1 => ?_)
    have fx1 : x1.toInt = ((f_steps S).toInt + 1) := by rw [ex1]; exact (zt_add (show (f_steps S).toInt = _ from rfl) tI_1 (by omega) (by omega)).trans (by omega)
    refine va_put (D := D) (ci := 11) (v := .int x1) (ty := .int) (C := "PageScribeModel") (T := F_Mo) (N := 45) hx hb hts i_Mo t_Mo t_Mo_ok n_Mo hown hK hP hD hS 0 mW_0 cl_11 32 (by decide) (hts _ k_6_192) (fun _ h9 => h9) rfl (by decide +kernel) rfl rfl (Nat.le_of_ble_eq_true rfl) d_Mo_step_21 (fun H locs hP hD hS => ?_)
    rw [mp_steps] at hP hD
    have hP : va_P D classes (mW T h0 ar ((S.1, S.2.1, S.2.2.1, S.2.2.2.1, (x1, (f_failure S), (f_columns S), (f_rows S), (a_pixels S), (f_gray S), (a_across S), (a_along S)), S.2.2.2.2.2) : MS)) H := hP
    have hD : va_D A (mW T h0 ar ((S.1, S.2.1, S.2.2.1, S.2.2.2.1, (x1, (f_failure S), (f_columns S), (f_rows S), (a_pixels S), (f_gray S), (a_across S), (a_along S)), S.2.2.2.2.2) : MS)) := hD
    refine lv_iconst (v := 0) hx hb d_Mo_step_24 (by decide) ?_
    exact j_iret F hr hlocks hK hS ((S.1, S.2.1, S.2.2.1, S.2.2.2.1, (x1, (f_failure S), (f_columns S), (f_rows S), (a_pixels S), (f_gray S), (a_across S), (a_along S)), S.2.2.2.2.2) : MS) ⟨⟨i_size, i_taken, i_vals, i_room, i_dicts, i_deep, i_open, i_cells, i_points, i_part, i_length, i_knows, i_page, i_text, i_pats, (show 0 ≤ x1.toInt ∧ x1.toInt ≤ (f_fuel S).toInt ∧ (f_fuel S).toInt ≤ 500 by omega), i_fr, i_ink⟩, (kF_r S), (kT_r S), (show ((0 : Int32).toInt = 16 ∧ x1.toInt = (f_steps S).toInt ∧ (a_kinds S) = (a_kinds S) ∧ (a_codes S) = (a_codes S) ∧ (a_reals S) = (a_reals S)) ∨ ((0 : Int32).toInt = 0 ∧ x1.toInt = (f_steps S).toInt + 1 ∧ (a_kinds S) = (a_kinds S) ∧ (a_codes S) = (a_codes S) ∧ (a_reals S) = (a_reals S)) by have := tI_0; first | exact Or.inl ⟨by omega, by omega, rfl, rfl, rfl⟩ | exact Or.inr ⟨by omega, by omega, rfl, rfl, rfl⟩)⟩ hP hD d_Mo_step_25
  · have fc8_1 : (f_steps S).toInt = (f_fuel S).toInt := zt_eq (show (f_steps S).toInt = _ from rfl) (show (f_fuel S).toInt = _ from rfl) c8_1
    refine lv_bipush (v := 16) hx hb d_Mo_step_11 (by decide) ?_
    exact j_iret F hr hlocks hK hS S ⟨⟨i_size, i_taken, i_vals, i_room, i_dicts, i_deep, i_open, i_cells, i_points, i_part, i_length, i_knows, i_page, i_text, i_pats, i_fuel, i_fr, i_ink⟩, (kF_r S), (kT_r S), (show ((16 : Int32).toInt = 16 ∧ (f_steps S).toInt = (f_steps S).toInt ∧ (a_kinds S) = (a_kinds S) ∧ (a_codes S) = (a_codes S) ∧ (a_reals S) = (a_reals S)) ∨ ((16 : Int32).toInt = 0 ∧ (f_steps S).toInt = (f_steps S).toInt + 1 ∧ (a_kinds S) = (a_kinds S) ∧ (a_codes S) = (a_codes S) ∧ (a_reals S) = (a_reals S)) by have := tI_16; first | exact Or.inl ⟨by omega, by omega, rfl, rfl, rfl⟩ | exact Or.inr ⟨by omega, by omega, rfl, rfl, rfl⟩)⟩ hP hD d_Mo_step_13
theorem d_Mo_doValue_0 : decode prog_15_method_34_code 0 = .ok (.iconst (-1), 1) := by decide +kernel
theorem d_Mo_doValue_1 : decode prog_15_method_34_code 1 = .ok (.istore_n 1, 1) := by decide +kernel
theorem d_Mo_doValue_2 : decode prog_15_method_34_code 2 = .ok (.iconst 0, 1) := by decide +kernel
theorem d_Mo_doValue_3 : decode prog_15_method_34_code 3 = .ok (.istore_n 2, 1) := by decide +kernel
theorem d_Mo_doValue_4 : decode prog_15_method_34_code 4 = .ok (.iload_n 2, 1) := by decide +kernel
theorem d_Mo_doValue_5 : decode prog_15_method_34_code 5 = .ok (.sipush 1200, 3) := by decide +kernel
theorem d_Mo_doValue_8 : decode prog_15_method_34_code 8 = .ok (.if_icmp .ge 157, 3) := by decide +kernel
theorem tI_1200 : (1200 : Int32).toInt = 1200 := by decide +kernel
theorem d_Mo_doValue_165 : decode prog_15_method_34_code 165 = .ok (.iload_n 1, 1) := by decide +kernel
theorem d_Mo_doValue_166 : decode prog_15_method_34_code 166 = .ok (.ireturn, 1) := by decide +kernel
theorem d_Mo_doValue_11 : decode prog_15_method_34_code 11 = .ok (.iload_n 1, 1) := by decide +kernel
theorem d_Mo_doValue_12 : decode prog_15_method_34_code 12 = .ok (.iconst (-1), 1) := by decide +kernel
theorem d_Mo_doValue_13 : decode prog_15_method_34_code 13 = .ok (.if_icmp .ne 152, 3) := by decide +kernel
theorem d_Mo_doValue_16 : decode prog_15_method_34_code 16 = .ok (.aload_n 0, 1) := by decide +kernel
theorem d_Mo_doValue_17 : decode prog_15_method_34_code 17 = .ok (.invokevirtual 366, 3) := by decide +kernel
theorem k_7_135 : Cond.code ⟨"PageScribeModel", "step", "()I"⟩ prog_15_method_32_code 1 (some .int) ∈ gw := gw_of (tb_7 (List.mem_of_getElem? (i := 135) (by decide +kernel))) (by decide +kernel)
theorem k_7_132 : Cond.methodLink "PageScribeModel" 366 ⟨"PageScribeModel", "step", "()I"⟩ ∈ gw := gw_of (tb_7 (List.mem_of_getElem? (i := 132) (by decide +kernel))) (by decide +kernel)
theorem k_7_134 : Cond.instanceMethod ⟨"PageScribeModel", "step", "()I"⟩ ∈ gw := gw_of (tb_7 (List.mem_of_getElem? (i := 134) (by decide +kernel))) (by decide +kernel)
theorem k_0_93 : Cond.selects "PageScribeModel" ⟨"PageScribeModel", "step", "()I"⟩ ⟨"PageScribeModel", "step", "()I"⟩ ∈ gw := gw_of (tb_0 (List.mem_of_getElem? (i := 93) (by decide +kernel))) (by decide +kernel)
theorem d_Mo_doValue_20 : decode prog_15_method_34_code 20 = .ok (.ifCond .eq 6, 3) := by decide +kernel
theorem d_Mo_doValue_26 : decode prog_15_method_34_code 26 = .ok (.aload_n 0, 1) := by decide +kernel
theorem d_Mo_doValue_27 : decode prog_15_method_34_code 27 = .ok (.getfield 7, 3) := by decide +kernel
theorem d_Mo_doValue_30 : decode prog_15_method_34_code 30 = .ok (.bipush 40, 2) := by decide +kernel
theorem d_Mo_doValue_32 : decode prog_15_method_34_code 32 = .ok (.iaload, 1) := by decide +kernel
theorem d_Mo_doValue_33 : decode prog_15_method_34_code 33 = .ok (.bipush 11, 2) := by decide +kernel
theorem d_Mo_doValue_35 : decode prog_15_method_34_code 35 = .ok (.if_icmp .eq 10, 3) := by decide +kernel
theorem d_Mo_doValue_45 : decode prog_15_method_34_code 45 = .ok (.aload_n 0, 1) := by decide +kernel
theorem d_Mo_doValue_46 : decode prog_15_method_34_code 46 = .ok (.aload_n 0, 1) := by decide +kernel
theorem d_Mo_doValue_47 : decode prog_15_method_34_code 47 = .ok (.getfield 13, 3) := by decide +kernel
theorem d_Mo_doValue_50 : decode prog_15_method_34_code 50 = .ok (.bipush 40, 2) := by decide +kernel
theorem d_Mo_doValue_52 : decode prog_15_method_34_code 52 = .ok (.laload, 1) := by decide +kernel
theorem d_Mo_doValue_53 : decode prog_15_method_34_code 53 = .ok (.invokevirtual 372, 3) := by decide +kernel
theorem d_Mo_doValue_56 : decode prog_15_method_34_code 56 = .ok (.istore_n 3, 1) := by decide +kernel
theorem d_Mo_doValue_57 : decode prog_15_method_34_code 57 = .ok (.aload_n 0, 1) := by decide +kernel
theorem d_Mo_doValue_58 : decode prog_15_method_34_code 58 = .ok (.aload_n 0, 1) := by decide +kernel
theorem d_Mo_doValue_59 : decode prog_15_method_34_code 59 = .ok (.getfield 13, 3) := by decide +kernel
theorem d_Mo_doValue_62 : decode prog_15_method_34_code 62 = .ok (.bipush 40, 2) := by decide +kernel
theorem d_Mo_doValue_64 : decode prog_15_method_34_code 64 = .ok (.laload, 1) := by decide +kernel
theorem d_Mo_doValue_65 : decode prog_15_method_34_code 65 = .ok (.invokevirtual 307, 3) := by decide +kernel
theorem d_Mo_doValue_68 : decode prog_15_method_34_code 68 = .ok (.istore 4, 2) := by decide +kernel
theorem d_Mo_doValue_70 : decode prog_15_method_34_code 70 = .ok (.iload_n 3, 1) := by decide +kernel
theorem d_Mo_doValue_71 : decode prog_15_method_34_code 71 = .ok (.iconst (-1), 1) := by decide +kernel
theorem d_Mo_doValue_72 : decode prog_15_method_34_code 72 = .ok (.if_icmp .ne 23, 3) := by decide +kernel
theorem d_Mo_doValue_95 : decode prog_15_method_34_code 95 = .ok (.aload_n 0, 1) := by decide +kernel
theorem d_Mo_doValue_96 : decode prog_15_method_34_code 96 = .ok (.iload_n 3, 1) := by decide +kernel
theorem d_Mo_doValue_97 : decode prog_15_method_34_code 97 = .ok (.invokevirtual 378, 3) := by decide +kernel
theorem d_Mo_doValue_100 : decode prog_15_method_34_code 100 = .ok (.ifCond .eq 14, 3) := by decide +kernel
theorem d_Mo_doValue_114 : decode prog_15_method_34_code 114 = .ok (.aload_n 0, 1) := by decide +kernel
theorem d_Mo_doValue_115 : decode prog_15_method_34_code 115 = .ok (.getfield 7, 3) := by decide +kernel
theorem d_Mo_doValue_118 : decode prog_15_method_34_code 118 = .ok (.iload_n 3, 1) := by decide +kernel
theorem d_Mo_doValue_119 : decode prog_15_method_34_code 119 = .ok (.iaload, 1) := by decide +kernel
theorem d_Mo_doValue_120 : decode prog_15_method_34_code 120 = .ok (.bipush 11, 2) := by decide +kernel
theorem d_Mo_doValue_122 : decode prog_15_method_34_code 122 = .ok (.if_icmp .ne 31, 3) := by decide +kernel
theorem d_Mo_doValue_153 : decode prog_15_method_34_code 153 = .ok (.aload_n 0, 1) := by decide +kernel
theorem d_Mo_doValue_154 : decode prog_15_method_34_code 154 = .ok (.iload_n 3, 1) := by decide +kernel
theorem d_Mo_doValue_155 : decode prog_15_method_34_code 155 = .ok (.invokevirtual 369, 3) := by decide +kernel
theorem d_Mo_doValue_158 : decode prog_15_method_34_code 158 = .ok (.ireturn, 1) := by decide +kernel
theorem d_Mo_doValue_125 : decode prog_15_method_34_code 125 = .ok (.aload_n 0, 1) := by decide +kernel
theorem d_Mo_doValue_126 : decode prog_15_method_34_code 126 = .ok (.getfield 349, 3) := by decide +kernel
theorem d_Mo_doValue_129 : decode prog_15_method_34_code 129 = .ok (.bipush 8, 2) := by decide +kernel
theorem d_Mo_doValue_131 : decode prog_15_method_34_code 131 = .ok (.if_icmp .ne 6, 3) := by decide +kernel
theorem d_Mo_doValue_137 : decode prog_15_method_34_code 137 = .ok (.aload_n 0, 1) := by decide +kernel
theorem d_Mo_doValue_138 : decode prog_15_method_34_code 138 = .ok (.iconst 2, 1) := by decide +kernel
theorem d_Mo_doValue_139 : decode prog_15_method_34_code 139 = .ok (.lconst 0, 1) := by decide +kernel
theorem d_Mo_doValue_140 : decode prog_15_method_34_code 140 = .ok (.invokevirtual 352, 3) := by decide +kernel
theorem d_Mo_doValue_143 : decode prog_15_method_34_code 143 = .ok (.aload_n 0, 1) := by decide +kernel
theorem d_Mo_doValue_144 : decode prog_15_method_34_code 144 = .ok (.bipush 40, 2) := by decide +kernel
theorem d_Mo_doValue_146 : decode prog_15_method_34_code 146 = .ok (.iload_n 3, 1) := by decide +kernel
theorem d_Mo_doValue_147 : decode prog_15_method_34_code 147 = .ok (.invokevirtual 254, 3) := by decide +kernel
theorem d_Mo_doValue_150 : decode prog_15_method_34_code 150 = .ok (.goto 9, 3) := by decide +kernel
theorem d_Mo_doValue_159 : decode prog_15_method_34_code 159 = .ok (.iinc 2 1, 3) := by decide +kernel
theorem d_Mo_doValue_162 : decode prog_15_method_34_code 162 = .ok (.goto (-158), 3) := by decide +kernel
theorem d_Mo_doValue_134 : decode prog_15_method_34_code 134 = .ok (.bipush 12, 2) := by decide +kernel
theorem d_Mo_doValue_136 : decode prog_15_method_34_code 136 = .ok (.ireturn, 1) := by decide +kernel
theorem d_Mo_doValue_103 : decode prog_15_method_34_code 103 = .ok (.aload_n 0, 1) := by decide +kernel
theorem d_Mo_doValue_104 : decode prog_15_method_34_code 104 = .ok (.aload_n 0, 1) := by decide +kernel
theorem d_Mo_doValue_105 : decode prog_15_method_34_code 105 = .ok (.getfield 13, 3) := by decide +kernel
theorem d_Mo_doValue_108 : decode prog_15_method_34_code 108 = .ok (.iload_n 3, 1) := by decide +kernel
theorem d_Mo_doValue_109 : decode prog_15_method_34_code 109 = .ok (.laload, 1) := by decide +kernel
theorem d_Mo_doValue_110 : decode prog_15_method_34_code 110 = .ok (.invokevirtual 382, 3) := by decide +kernel
theorem d_Mo_doValue_113 : decode prog_15_method_34_code 113 = .ok (.ireturn, 1) := by decide +kernel
theorem d_Mo_doValue_75 : decode prog_15_method_34_code 75 = .ok (.iload 4, 2) := by decide +kernel
theorem d_Mo_doValue_77 : decode prog_15_method_34_code 77 = .ok (.iconst (-1), 1) := by decide +kernel
theorem d_Mo_doValue_78 : decode prog_15_method_34_code 78 = .ok (.if_icmp .ne 7, 3) := by decide +kernel
theorem d_Mo_doValue_85 : decode prog_15_method_34_code 85 = .ok (.aload_n 0, 1) := by decide +kernel
theorem d_Mo_doValue_86 : decode prog_15_method_34_code 86 = .ok (.iload 4, 2) := by decide +kernel
theorem d_Mo_doValue_88 : decode prog_15_method_34_code 88 = .ok (.invokevirtual 375, 3) := by decide +kernel
theorem k_7_154 : Cond.code ⟨"PageScribeModel", "operate", "(I)I"⟩ prog_15_method_42_code 6 (some .int) ∈ gw := gw_of (tb_7 (List.mem_of_getElem? (i := 154) (by decide +kernel))) (by decide +kernel)
theorem k_7_151 : Cond.methodLink "PageScribeModel" 375 ⟨"PageScribeModel", "operate", "(I)I"⟩ ∈ gw := gw_of (tb_7 (List.mem_of_getElem? (i := 151) (by decide +kernel))) (by decide +kernel)
theorem k_7_153 : Cond.instanceMethod ⟨"PageScribeModel", "operate", "(I)I"⟩ ∈ gw := gw_of (tb_7 (List.mem_of_getElem? (i := 153) (by decide +kernel))) (by decide +kernel)
theorem k_0_97 : Cond.selects "PageScribeModel" ⟨"PageScribeModel", "operate", "(I)I"⟩ ⟨"PageScribeModel", "operate", "(I)I"⟩ ∈ gw := gw_of (tb_0 (List.mem_of_getElem? (i := 97) (by decide +kernel))) (by decide +kernel)
theorem d_Mo_doValue_91 : decode prog_15_method_34_code 91 = .ok (.istore_n 1, 1) := by decide +kernel
theorem d_Mo_doValue_92 : decode prog_15_method_34_code 92 = .ok (.goto 67, 3) := by decide +kernel
theorem d_Mo_doValue_81 : decode prog_15_method_34_code 81 = .ok (.iconst 5, 1) := by decide +kernel
theorem d_Mo_doValue_82 : decode prog_15_method_34_code 82 = .ok (.goto 9, 3) := by decide +kernel
theorem d_Mo_doValue_38 : decode prog_15_method_34_code 38 = .ok (.aload_n 0, 1) := by decide +kernel
theorem d_Mo_doValue_39 : decode prog_15_method_34_code 39 = .ok (.bipush 40, 2) := by decide +kernel
theorem d_Mo_doValue_41 : decode prog_15_method_34_code 41 = .ok (.invokevirtual 369, 3) := by decide +kernel
theorem d_Mo_doValue_44 : decode prog_15_method_34_code 44 = .ok (.ireturn, 1) := by decide +kernel
theorem d_Mo_doValue_23 : decode prog_15_method_34_code 23 = .ok (.bipush 16, 2) := by decide +kernel
theorem d_Mo_doValue_25 : decode prog_15_method_34_code 25 = .ok (.ireturn, 1) := by decide +kernel
set_option maxHeartbeats 4000000 in
set_option maxRecDepth 100000 in
theorem m_doValue (l : Launch) (D : va_G) (T : Nat → ClassId) (h0 : Nat) (ar : Nat → Nat) (S : MS)  (sz : Nat) (hI : MI S) (h1 : ((a_kinds S) 40).toInt = 11 → ((f_frames S).toInt = 0 ∨ ((a_what S) ((f_frames S).toInt - 1).toNat).toInt ≤ 2)) : Met l ⟨"PageScribeModel", "doValue", "()I"⟩ (wy ⟨"PageScribeModel", "doValue", "()I"⟩ prog_15_method_34_code 5 (some .int)) ({ frames := 5, cells := 0, slots := 0, locals := 350 }) (va_Pc [.ref h0] (Pw D T (mW T h0 ar S) sz E0)) (va_Qi (fun (r : Int32) (u : MS) => MI u ∧ kT S u ∧ (-1 ≤ r.toInt ∧ r.toInt ≤ 16 ∧ (r.toInt = 16 ∨ (f_frames u).toInt + 3 * (f_fuel u).toInt - 3 * (f_steps u).toInt + 1 ≤ (f_frames S).toInt + 3 * (f_fuel S).toInt - 3 * (f_steps S).toInt))) (fun u t => Bw D T (va_A (mW T h0 ar S) sz) (mW T h0 ar u) t) (va_A (mW T h0 ar S) sz)) 0 0 (va_A (mW T h0 ar S) sz) := by
  refine j_met (y := ⟨"PageScribeModel", "doValue", "()I"⟩) (b := prog_15_method_34_code) (n := 5) (ret := (some .int)) (av := [.ref h0]) (Qc := fun A => va_Qi (fun (r : Int32) (u : MS) => MI u ∧ kT S u ∧ (-1 ≤ r.toInt ∧ r.toInt ≤ 16 ∧ (r.toInt = 16 ∨ (f_frames u).toInt + 3 * (f_fuel u).toInt - 3 * (f_steps u).toInt + 1 ≤ (f_frames S).toInt + 3 * (f_fuel S).toInt - 3 * (f_steps S).toInt))) (fun u t => Bw D T A (mW T h0 ar u) t) A) (by decide +kernel) (Nat.le_of_ble_eq_true rfl) (fun p e s m args below meth c A ls F hr hlocks hnm hK hP hD hS hA hN hE hl => ?_)
  obtain ⟨hx, hb, hml, hown, hts⟩ := id F
  have hl : lv_has ls 5 [(0, .ref h0)] := hl
  obtain ⟨i_size, i_taken, i_vals, i_room, i_dicts, i_deep, i_open, i_cells, i_points, i_part, i_length, i_knows, i_page, i_text, i_pats, i_fuel, i_fr, i_ink⟩ := id hI
  refine lv_iconst (v := (-1)) hx hb d_Mo_doValue_0 (by decide) ?_
  refine lv_istore_n (lv' := [(1, .int (-1)), (0, .ref h0)]) hx hb d_Mo_doValue_1 rfl hl (by decide) rfl (fun ls hl => ?_)
  refine lv_iconst (v := 0) hx hb d_Mo_doValue_2 (by decide) ?_
  refine lv_istore_n (lv' := [(2, .int 0), (1, .int (-1)), (0, .ref h0)]) hx hb d_Mo_doValue_3 rfl hl (by decide) rfl (fun ls hl => ?_)
  refine j_loop (α := MS × Int32 × Int32) (fun k x H locs ls => (0 ≤ x.2.2.toInt ∧ x.2.2.toInt ≤ 1200 ∧ 1200 ≤ x.2.2.toInt + ((k : Nat) : Int) ∧ -1 ≤ x.2.1.toInt ∧ x.2.1.toInt ≤ 16 ∧ (f_fuel x.1).toInt = (f_fuel S).toInt ∧ (x.2.2.toInt = 0 → x.2.1.toInt = -1 ∧ (f_frames x.1).toInt + 3 * (f_fuel x.1).toInt - 3 * (f_steps x.1).toInt ≤ (f_frames S).toInt + 3 * (f_fuel S).toInt - 3 * (f_steps S).toInt) ∧ (1 ≤ x.2.2.toInt → x.2.1.toInt = 16 ∨ (f_frames x.1).toInt + 3 * (f_fuel x.1).toInt - 3 * (f_steps x.1).toInt + 1 ≤ (f_frames S).toInt + 3 * (f_fuel S).toInt - 3 * (f_steps S).toInt) ∧ (x.2.1.toInt = -1 → ((a_kinds x.1) 40).toInt = 11 → ((f_frames x.1).toInt = 0 ∨ ((a_what x.1) ((f_frames x.1).toInt - 1).toNat).toInt ≤ 2))) ∧ MI x.1 ∧ kT S x.1 ∧ va_P D classes (mW T h0 ar x.1) H ∧ va_D A (mW T h0 ar x.1) ∧ va_S A s.heap H locs ∧ lv_has ls 5 [(2, .int x.2.2), (1, .int x.2.1), (0, .ref h0)]) (fun _ _ ls => F0 m 4 ls []) (fun k x H locs ls hI9 ih => ?_) 1200 (S, (-1 : Int32), (0 : Int32)) _ _ _ ⟨(show 0 ≤ (0 : Int32).toInt ∧ (0 : Int32).toInt ≤ 1200 ∧ 1200 ≤ (0 : Int32).toInt + ((1200 : Nat) : Int) ∧ -1 ≤ (-1 : Int32).toInt ∧ (-1 : Int32).toInt ≤ 16 ∧ (f_fuel S).toInt = (f_fuel S).toInt ∧ ((0 : Int32).toInt = 0 → (-1 : Int32).toInt = -1 ∧ (f_frames S).toInt + 3 * (f_fuel S).toInt - 3 * (f_steps S).toInt ≤ (f_frames S).toInt + 3 * (f_fuel S).toInt - 3 * (f_steps S).toInt) ∧ (1 ≤ (0 : Int32).toInt → (-1 : Int32).toInt = 16 ∨ (f_frames S).toInt + 3 * (f_fuel S).toInt - 3 * (f_steps S).toInt + 1 ≤ (f_frames S).toInt + 3 * (f_fuel S).toInt - 3 * (f_steps S).toInt) ∧ ((-1 : Int32).toInt = -1 → ((a_kinds S) 40).toInt = 11 → ((f_frames S).toInt = 0 ∨ ((a_what S) ((f_frames S).toInt - 1).toNat).toInt ≤ 2)) by have := tI_m1; have := tI_0; exact ⟨by omega, by omega, by omega, by omega, by omega, by omega, fun q => by omega, fun q => by omega, fun q1 q2 => by omega⟩), ⟨i_size, i_taken, i_vals, i_room, i_dicts, i_deep, i_open, i_cells, i_points, i_part, i_length, i_knows, i_page, i_text, i_pats, i_fuel, i_fr, i_ink⟩, (show kT S S from (kT_r S)), hP, hD, hS, lv_sub hl [0, 1, 2] rfl⟩
  obtain ⟨S1, f, i⟩ := x
  obtain ⟨hf1, hIx, klT_S1, hP, hD, hS, hl⟩ := hI9
  obtain ⟨i_size, i_taken, i_vals, i_room, i_dicts, i_deep, i_open, i_cells, i_points, i_part, i_length, i_knows, i_page, i_text, i_pats, i_fuel, i_fr, i_ink⟩ := (show MI S1 from hIx)
  have klT_S1 : kT S S1 := klT_S1
  have hf1 : 0 ≤ i.toInt ∧ i.toInt ≤ 1200 ∧ 1200 ≤ i.toInt + ((k : Nat) : Int) ∧ -1 ≤ f.toInt ∧ f.toInt ≤ 16 ∧ (f_fuel S1).toInt = (f_fuel S).toInt ∧ (i.toInt = 0 → f.toInt = -1 ∧ (f_frames S1).toInt + 3 * (f_fuel S1).toInt - 3 * (f_steps S1).toInt ≤ (f_frames S).toInt + 3 * (f_fuel S).toInt - 3 * (f_steps S).toInt) ∧ (1 ≤ i.toInt → f.toInt = 16 ∨ (f_frames S1).toInt + 3 * (f_fuel S1).toInt - 3 * (f_steps S1).toInt + 1 ≤ (f_frames S).toInt + 3 * (f_fuel S).toInt - 3 * (f_steps S).toInt) ∧ (f.toInt = -1 → ((a_kinds S1) 40).toInt = 11 → ((f_frames S1).toInt = 0 ∨ ((a_what S1) ((f_frames S1).toInt - 1).toNat).toInt ≤ 2)) := hf1
  have hP : va_P D classes (mW T h0 ar S1) H := hP
  have hD : va_D A (mW T h0 ar S1) := hD
  have hl : lv_has ls 5 [(2, .int i), (1, .int f), (0, .ref h0)] := hl
  refine lv_iload_n hx hb d_Mo_doValue_4 rfl (lv_at hl 0 rfl) ?_
  refine lv_sipush (v := 1200) hx hb d_Mo_doValue_5 (by decide) ?_
  refine lv_icmp_ge (tgt := 165) hx hb d_Mo_doValue_8 (by decide) (fun c8_1 => ?_) (fun c8_1 => ?_)
  · have fc8_1 : 1200 ≤ i.toInt := zt_le tI_1200 (show i.toInt = _ from rfl) c8_1
    refine lv_iload_n hx hb d_Mo_doValue_165 rfl (lv_at hl 1 rfl) ?_
    exact j_iret F hr hlocks hK hS S1 ⟨⟨i_size, i_taken, i_vals, i_room, i_dicts, i_deep, i_open, i_cells, i_points, i_part, i_length, i_knows, i_page, i_text, i_pats, i_fuel, i_fr, i_ink⟩, klT_S1, (show -1 ≤ f.toInt ∧ f.toInt ≤ 16 ∧ (f.toInt = 16 ∨ (f_frames S1).toInt + 3 * (f_fuel S1).toInt - 3 * (f_steps S1).toInt + 1 ≤ (f_frames S).toInt + 3 * (f_fuel S).toInt - 3 * (f_steps S).toInt) by omega)⟩ hP hD d_Mo_doValue_166
  · have fc8_1 : i.toInt < 1200 := Int.not_le.mp (zt_nle tI_1200 (show i.toInt = _ from rfl) c8_1)
    refine lv_iload_n hx hb d_Mo_doValue_11 rfl (lv_at hl 1 rfl) ?_
    refine lv_iconst (v := (-1)) hx hb d_Mo_doValue_12 (by decide) ?_
    refine lv_icmp_ne (tgt := 165) hx hb d_Mo_doValue_13 (by decide) (fun c13_1 => ?_) (fun c13_1 => ?_)
    · first | have fc13_1 : f.toInt < (-1) := (by have := zt_ne (show f.toInt = _ from rfl) tI_m1 c13_1; omega) | have fc13_1 : (-1) < f.toInt := (by have := zt_ne (show f.toInt = _ from rfl) tI_m1 c13_1; omega) | skip
      refine lv_iload_n hx hb d_Mo_doValue_165 rfl (lv_at hl 1 rfl) ?_
      exact j_iret F hr hlocks hK hS S1 ⟨⟨i_size, i_taken, i_vals, i_room, i_dicts, i_deep, i_open, i_cells, i_points, i_part, i_length, i_knows, i_page, i_text, i_pats, i_fuel, i_fr, i_ink⟩, klT_S1, (show -1 ≤ f.toInt ∧ f.toInt ≤ 16 ∧ (f.toInt = 16 ∨ (f_frames S1).toInt + 3 * (f_fuel S1).toInt - 3 * (f_steps S1).toInt + 1 ≤ (f_frames S).toInt + 3 * (f_fuel S).toInt - 3 * (f_steps S).toInt) by omega)⟩ hP hD d_Mo_doValue_166
    · have fc13_1 : f.toInt = (-1) := zt_eq (show f.toInt = _ from rfl) tI_m1 c13_1
      refine lv_aload_n hx hb d_Mo_doValue_16 rfl (lv_at hl 2 rfl) ?_
      refine jm_ci (w := (fun u => u)) hK hP hD hS hA (va_runV (As := []) (rest := []) F (m_step2 l D T h0 ar S1  H.size ⟨i_size, i_taken, i_vals, i_room, i_dicts, i_deep, i_open, i_cells, i_points, i_part, i_length, i_knows, i_page, i_text, i_pats, i_fuel, i_fr, i_ink⟩) (j_cV (k := 0) (C := "PageScribeModel") hts k_7_135 k_1_12 k_7_132 k_7_134 k_0_93 (by decide +kernel) ⟨Nat.le_of_ble_eq_true rfl, Nat.le_of_ble_eq_true rfl⟩) (jm_pre hK hP hD) rfl rfl hl.1 rfl (lv_room (Nat.le_of_ble_eq_true rfl)) d_Mo_doValue_17 ⟨Nat.le_of_ble_eq_true rfl, Nat.le_of_ble_eq_true rfl⟩) (fun rv1 S2 H locs hw1 hP hD hS => ?_)
      have hP : va_P D classes (mW T h0 ar S2) H := hP
      have hD : va_D A (mW T h0 ar S2) := hD
      obtain ⟨⟨i_size, i_taken, i_vals, i_room, i_dicts, i_deep, i_open, i_cells, i_points, i_part, i_length, i_knows, i_page, i_text, i_pats, i_fuel, i_fr, i_ink⟩, kpF_S2, kpT_S2, qqhw1⟩ := hw1
      have kST_S2 : kT S S2 := kT_t (show kT S S1 from klT_S1) kpT_S2
      have nframes_S2 : (f_frames S2).toInt = (f_frames S1).toInt := congrArg Int32.toInt kpF_S2.1
      have nunder_S2 : (f_under S2).toInt = (f_under S1).toInt := congrArg Int32.toInt kpF_S2.2.1
      have nfuel_S2 : (f_fuel S2).toInt = (f_fuel S1).toInt := congrArg Int32.toInt kpT_S2.2.2.2.2.2.2
      have nlevel_S2 : (f_level S2).toInt = (f_level S1).toInt := congrArg Int32.toInt kpT_S2.2.2.2.2.1
      have npending_S2 : (f_pending S2).toInt = (f_pending S1).toInt := congrArg Int32.toInt kpT_S2.2.2.2.1
      have nlength_S2 : (f_length S2).toInt = (f_length S1).toInt := congrArg Int32.toInt kpT_S2.1
      have nat_S2 : (f_at S2).toInt = (f_at S1).toInt := congrArg Int32.toInt kpT_S2.2.1
      have qhw1 : (rv1.toInt = 16 ∧ (f_steps S2).toInt = (f_steps S1).toInt ∧ (a_kinds S2) = (a_kinds S1) ∧ (a_codes S2) = (a_codes S1) ∧ (a_reals S2) = (a_reals S1)) ∨ (rv1.toInt = 0 ∧ (f_steps S2).toInt = (f_steps S1).toInt + 1 ∧ (a_kinds S2) = (a_kinds S1) ∧ (a_codes S2) = (a_codes S1) ∧ (a_reals S2) = (a_reals S1)) := qqhw1
      have hk1 : a_kinds S2 = a_kinds S1 ∧ (f_steps S2).toInt ≤ (f_steps S1).toInt + 1 := by rcases qhw1 with q | q <;> exact ⟨q.2.2.1, by omega⟩
      have hk2 : (rv1.toInt = 16 ∧ (f_steps S2).toInt = (f_steps S1).toInt) ∨ (rv1.toInt = 0 ∧ (f_steps S2).toInt = (f_steps S1).toInt + 1) := by rcases qhw1 with q | q; exact Or.inl ⟨q.1, q.2.1⟩; exact Or.inr ⟨q.1, q.2.1⟩
      have hwh : a_what S2 = a_what S1 := kpF_S2.2.2.1
      clear qhw1
      refine lv_if_eq (tgt := 26) hx hb d_Mo_doValue_20 (by decide) (fun c20_1 => ?_) (fun c20_1 => ?_)
      · have fc20_1 : rv1.toInt = 0 := zt_eq (show rv1.toInt = _ from rfl) tI_0 c20_1
        refine lv_aload_n hx hb d_Mo_doValue_26 rfl (lv_at hl 2 rfl) ?_
        refine va_get (D := D) (ci := 11) (v := .ref (ar 0)) (C := "PageScribeModel") (T := F_Mo) (N := 45) hx hb hts i_Mo hown hK hP 0 mW_0 cl_11 1 (by decide) (hts _ k_6_161) (fun _ h9 => h9) (mg_kinds _ _) d_Mo_doValue_27 ?_
        refine lv_bipush (v := 40) hx hb d_Mo_doValue_30 (by decide) ?_
        refine va_iald hx hb hK hP 1 0 (ma_kinds _ _ _ _) rfl (zt_in tI_40 (by omega) (by omega)) d_Mo_doValue_32 ?_
        refine lv_topi (fun x1 ex1 => ?_)
        have gx1 : x1 = (a_kinds S2) 40 := ex1.trans (congrArg _ (zt_ix tI_40))
        have fx1 : x1.toInt = ((a_kinds S2) 40).toInt := by rw [gx1]
        have kx1 : vOk ((a_kinds S2) 40) ((a_codes S2) 40) ((a_reals S2) 40) := i_vals (40) (by omega)
        have rx1 := vk_rng kx1
        refine lv_bipush (v := 11) hx hb d_Mo_doValue_33 (by decide) ?_
        refine lv_icmp_eq (tgt := 45) hx hb d_Mo_doValue_35 (by decide) (fun c35_1 => ?_) (fun c35_1 => ?_)
        · have fc35_1 : x1.toInt = 11 := zt_eq (show x1.toInt = _ from rfl) tI_11 c35_1
          have hfr : freeT S2 := by
            have q := hf1.2.2.2.2.2.2.2.2 (by omega) (by rw [hk1.1] at *; omega)
            unfold freeT; rw [hwh, show f_frames S2 = f_frames S1 from kpF_S2.1]; omega
          refine lv_aload_n hx hb d_Mo_doValue_45 rfl (lv_at hl 2 rfl) ?_
          refine lv_aload_n hx hb d_Mo_doValue_46 rfl (lv_at hl 2 rfl) ?_
          refine va_get (D := D) (ci := 11) (v := .ref (ar 1)) (C := "PageScribeModel") (T := F_Mo) (N := 45) hx hb hts i_Mo hown hK hP 0 mW_0 cl_11 2 (by decide) (hts _ k_6_162) (fun _ h9 => h9) (mg_codes _ _) d_Mo_doValue_47 ?_
          refine lv_bipush (v := 40) hx hb d_Mo_doValue_50 (by decide) ?_
          refine va_lald hx hb hK hP 2 1 (ma_codes _ _ _ _) rfl (zt_in tI_40 (by omega) (by omega)) d_Mo_doValue_52 ?_
          refine lv_topl (fun x2 ex2 => ?_)
          have gx2 : x2 = (a_codes S2) 40 := ex2.trans (congrArg _ (zt_ix tI_40))
          have fx2 : x2.toInt = ((a_codes S2) 40).toInt := by rw [gx2]
          have kx2 : vOk ((a_kinds S2) 40) ((a_codes S2) 40) ((a_reals S2) 40) := i_vals (40) (by omega)
          refine jm_ci (w := (fun _ => S2)) hK hP hD hS hA (va_runV (As := [.long x2]) (rest := []) F (m_found l D T h0 ar S2 x2 H.size ⟨i_size, i_taken, i_vals, i_room, i_dicts, i_deep, i_open, i_cells, i_points, i_part, i_length, i_knows, i_page, i_text, i_pats, i_fuel, i_fr, i_ink⟩) (j_cV (k := 1) (C := "PageScribeModel") hts k_7_143 k_1_12 k_7_140 k_7_142 k_0_95 (by decide +kernel) ⟨Nat.le_of_ble_eq_true rfl, Nat.le_of_ble_eq_true rfl⟩) (jm_pre hK hP hD) rfl rfl hl.1 rfl (lv_room (Nat.le_of_ble_eq_true rfl)) d_Mo_doValue_53 ⟨Nat.le_of_ble_eq_true rfl, Nat.le_of_ble_eq_true rfl⟩) (fun rv2 u1 H locs hw2 hP hD hS => ?_)
          have hP : va_P D classes (mW T h0 ar S2) H := hP
          have hD : va_D A (mW T h0 ar S2) := hD
          have qhw2 : rv2.toInt = -1 ∨ (250 ≤ rv2.toInt ∧ rv2.toInt ≤ 329) := hw2
          refine lv_istore_n (lv' := [(3, .int rv2), (2, .int i), (1, .int f), (0, .ref h0)]) hx hb d_Mo_doValue_56 rfl hl (by decide) rfl (fun ls hl => ?_)
          refine lv_aload_n hx hb d_Mo_doValue_57 rfl (lv_at hl 3 rfl) ?_
          refine lv_aload_n hx hb d_Mo_doValue_58 rfl (lv_at hl 3 rfl) ?_
          refine va_get (D := D) (ci := 11) (v := .ref (ar 1)) (C := "PageScribeModel") (T := F_Mo) (N := 45) hx hb hts i_Mo hown hK hP 0 mW_0 cl_11 2 (by decide) (hts _ k_6_162) (fun _ h9 => h9) (mg_codes _ _) d_Mo_doValue_59 ?_
          refine lv_bipush (v := 40) hx hb d_Mo_doValue_62 (by decide) ?_
          refine va_lald hx hb hK hP 2 1 (ma_codes _ _ _ _) rfl (zt_in tI_40 (by omega) (by omega)) d_Mo_doValue_64 ?_
          refine lv_topl (fun x3 ex3 => ?_)
          have gx3 : x3 = (a_codes S2) 40 := ex3.trans (congrArg _ (zt_ix tI_40))
          have fx3 : x3.toInt = ((a_codes S2) 40).toInt := by rw [gx3]
          have kx3 : vOk ((a_kinds S2) 40) ((a_codes S2) 40) ((a_reals S2) 40) := i_vals (40) (by omega)
          refine jm_ci (w := (fun _ => S2)) hK hP hD hS hA (va_runV (As := [.long x3]) (rest := []) F (m_operatorOf l D T h0 ar S2 x3 H.size) (j_cV (k := 1) (C := "PageScribeModel") hts k_7_121 k_1_12 k_7_118 k_7_120 k_0_90 (by decide +kernel) ⟨Nat.le_of_ble_eq_true rfl, Nat.le_of_ble_eq_true rfl⟩) (jm_pre hK hP hD) rfl rfl hl.1 rfl (lv_room (Nat.le_of_ble_eq_true rfl)) d_Mo_doValue_65 ⟨Nat.le_of_ble_eq_true rfl, Nat.le_of_ble_eq_true rfl⟩) (fun rv3 u2 H locs hw3 hP hD hS => ?_)
          have hP : va_P D classes (mW T h0 ar S2) H := hP
          have hD : va_D A (mW T h0 ar S2) := hD
          have qhw3 : -1 ≤ rv3.toInt ∧ rv3.toInt ≤ 71 := hw3
          refine lv_istore (lv' := [(4, .int rv3), (3, .int rv2), (2, .int i), (1, .int f), (0, .ref h0)]) hx hb d_Mo_doValue_68 hl (by decide) rfl (fun ls hl => ?_)
          refine lv_iload_n hx hb d_Mo_doValue_70 rfl (lv_at hl 1 rfl) ?_
          refine lv_iconst (v := (-1)) hx hb d_Mo_doValue_71 (by decide) ?_
          refine lv_icmp_ne (tgt := 95) hx hb d_Mo_doValue_72 (by decide) (fun c72_1 => ?_) (fun c72_1 => ?_)
          · first | have fc72_1 : rv2.toInt < (-1) := (by have := zt_ne (show rv2.toInt = _ from rfl) tI_m1 c72_1; omega) | have fc72_1 : (-1) < rv2.toInt := (by have := zt_ne (show rv2.toInt = _ from rfl) tI_m1 c72_1; omega) | skip
            refine lv_aload_n hx hb d_Mo_doValue_95 rfl (lv_at hl 4 rfl) ?_
            refine lv_iload_n hx hb d_Mo_doValue_96 rfl (lv_at hl 1 rfl) ?_
            have kv1 : vOk ((a_kinds S2) (rv2.toInt.toNat)) ((a_codes S2) (rv2.toInt.toNat)) ((a_reals S2) (rv2.toInt.toNat)) := i_vals (rv2.toInt.toNat) (by omega)
            have rkv1 := vk_rng kv1
            refine jm_ci (w := (fun _ => S2)) hK hP hD hS hA (va_runV (As := [.int rv2]) (rest := []) F (m_isProcedure l D T h0 ar S2 rv2 H.size (show 0 ≤ rv2.toInt ∧ rv2.toInt < 1300 by omega)) (j_cV (k := 1) (C := "PageScribeModel") hts k_7_170 k_1_12 k_7_167 k_7_169 k_0_101 (by decide +kernel) ⟨Nat.le_of_ble_eq_true rfl, Nat.le_of_ble_eq_true rfl⟩) (jm_pre hK hP hD) rfl rfl hl.1 rfl (lv_room (Nat.le_of_ble_eq_true rfl)) d_Mo_doValue_97 ⟨Nat.le_of_ble_eq_true rfl, Nat.le_of_ble_eq_true rfl⟩) (fun rv4 u3 H locs hw4 hP hD hS => ?_)
            have hP : va_P D classes (mW T h0 ar S2) H := hP
            have hD : va_D A (mW T h0 ar S2) := hD
            have qhw4 : (rv4.toInt = 1 ∧ ((a_kinds S2) rv2.toInt.toNat).toInt = 13) ∨ (rv4.toInt = 0 ∧ ¬ ((a_kinds S2) rv2.toInt.toNat).toInt = 13) := hw4
            refine lv_if_eq (tgt := 114) hx hb d_Mo_doValue_100 (by decide) (fun c100_1 => ?_) (fun c100_1 => ?_)
            · have fc100_1 : rv4.toInt = 0 := zt_eq (show rv4.toInt = _ from rfl) tI_0 c100_1
              refine lv_aload_n hx hb d_Mo_doValue_114 rfl (lv_at hl 4 rfl) ?_
              refine va_get (D := D) (ci := 11) (v := .ref (ar 0)) (C := "PageScribeModel") (T := F_Mo) (N := 45) hx hb hts i_Mo hown hK hP 0 mW_0 cl_11 1 (by decide) (hts _ k_6_161) (fun _ h9 => h9) (mg_kinds _ _) d_Mo_doValue_115 ?_
              refine lv_iload_n hx hb d_Mo_doValue_118 rfl (lv_at hl 1 rfl) ?_
              refine va_iald hx hb hK hP 1 0 (ma_kinds _ _ _ _) rfl (zt_in (show rv2.toInt = _ from rfl) (by omega) (by omega)) d_Mo_doValue_119 ?_
              refine lv_topi (fun x4 ex4 => ?_)
              have gx4 : x4 = (a_kinds S2) rv2.toInt.toNat := ex4.trans (congrArg _ (zt_ix (show rv2.toInt = _ from rfl)))
              have fx4 : x4.toInt = ((a_kinds S2) rv2.toInt.toNat).toInt := by rw [gx4]
              have kx4 : vOk ((a_kinds S2) rv2.toInt.toNat) ((a_codes S2) rv2.toInt.toNat) ((a_reals S2) rv2.toInt.toNat) := i_vals (rv2.toInt.toNat) (by omega)
              have rx4 := vk_rng kx4
              refine lv_bipush (v := 11) hx hb d_Mo_doValue_120 (by decide) ?_
              refine lv_icmp_ne (tgt := 153) hx hb d_Mo_doValue_122 (by decide) (fun c122_1 => ?_) (fun c122_1 => ?_)
              · first | have fc122_1 : x4.toInt < 11 := (by have := zt_ne (show x4.toInt = _ from rfl) tI_11 c122_1; omega) | have fc122_1 : 11 < x4.toInt := (by have := zt_ne (show x4.toInt = _ from rfl) tI_11 c122_1; omega) | skip
                refine lv_aload_n hx hb d_Mo_doValue_153 rfl (lv_at hl 4 rfl) ?_
                refine lv_iload_n hx hb d_Mo_doValue_154 rfl (lv_at hl 1 rfl) ?_
                refine jm_ci (w := (fun u => u)) hK hP hD hS hA (va_runV (As := [.int rv2]) (rest := []) F (m_pushValue l D T h0 ar S2 rv2 H.size ⟨i_size, i_taken, i_vals, i_room, i_dicts, i_deep, i_open, i_cells, i_points, i_part, i_length, i_knows, i_page, i_text, i_pats, i_fuel, i_fr, i_ink⟩ (show 0 ≤ rv2.toInt ∧ rv2.toInt < 1300 by omega)) (j_cV (k := 1) (C := "PageScribeModel") hts k_7_139 k_1_12 k_7_136 k_7_138 k_0_94 (by decide +kernel) ⟨Nat.le_of_ble_eq_true rfl, Nat.le_of_ble_eq_true rfl⟩) (jm_pre hK hP hD) rfl rfl hl.1 rfl (lv_room (Nat.le_of_ble_eq_true rfl)) d_Mo_doValue_155 ⟨Nat.le_of_ble_eq_true rfl, Nat.le_of_ble_eq_true rfl⟩) (fun rv5 S3 H locs hw5 hP hD hS => ?_)
                have hP : va_P D classes (mW T h0 ar S3) H := hP
                have hD : va_D A (mW T h0 ar S3) := hD
                obtain ⟨⟨i_size, i_taken, i_vals, i_room, i_dicts, i_deep, i_open, i_cells, i_points, i_part, i_length, i_knows, i_page, i_text, i_pats, i_fuel, i_fr, i_ink⟩, kpA_S3, kpF_S3, qqhw5⟩ := hw5
                have kST_S3 : kT S S3 := kT_t (show kT S S2 from kST_S2) (kT_A kpA_S3)
                have nframes_S3 : (f_frames S3).toInt = (f_frames S2).toInt := congrArg Int32.toInt kpF_S3.1
                have nunder_S3 : (f_under S3).toInt = (f_under S2).toInt := congrArg Int32.toInt kpF_S3.2.1
                have nsteps_S3 : (f_steps S3).toInt = (f_steps S2).toInt := congrArg Int32.toInt kpA_S3.2.2.2.2.1
                have nfuel_S3 : (f_fuel S3).toInt = (f_fuel S2).toInt := congrArg Int32.toInt kpA_S3.2.2.2.1
                have nlevel_S3 : (f_level S3).toInt = (f_level S2).toInt := congrArg Int32.toInt kpA_S3.2.2.2.2.2.2.1
                have npending_S3 : (f_pending S3).toInt = (f_pending S2).toInt := congrArg Int32.toInt kpA_S3.2.2.2.2.2.1
                have nlength_S3 : (f_length S3).toInt = (f_length S2).toInt := congrArg Int32.toInt kpA_S3.1
                have nat_S3 : (f_at S3).toInt = (f_at S2).toInt := congrArg Int32.toInt kpA_S3.2.1
                have qhw5 : rv5.toInt = 0 ∨ rv5.toInt = 2 := qqhw5
                exact j_iret F hr hlocks hK hS S3 ⟨⟨i_size, i_taken, i_vals, i_room, i_dicts, i_deep, i_open, i_cells, i_points, i_part, i_length, i_knows, i_page, i_text, i_pats, i_fuel, i_fr, i_ink⟩, kST_S3, (show -1 ≤ rv5.toInt ∧ rv5.toInt ≤ 16 ∧ (rv5.toInt = 16 ∨ (f_frames S3).toInt + 3 * (f_fuel S3).toInt - 3 * (f_steps S3).toInt + 1 ≤ (f_frames S).toInt + 3 * (f_fuel S).toInt - 3 * (f_steps S).toInt) by omega)⟩ hP hD d_Mo_doValue_158
              · have fc122_1 : x4.toInt = 11 := zt_eq (show x4.toInt = _ from rfl) tI_11 c122_1
                refine lv_aload_n hx hb d_Mo_doValue_125 rfl (lv_at hl 4 rfl) ?_
                refine va_get (D := D) (ci := 11) (v := .int (f_under S2)) (C := "PageScribeModel") (T := F_Mo) (N := 45) hx hb hts i_Mo hown hK hP 0 mW_0 cl_11 16 (by decide) (hts _ k_6_176) (fun _ h9 => h9) (mg_under _ _) d_Mo_doValue_126 ?_
                refine lv_bipush (v := 8) hx hb d_Mo_doValue_129 (by decide) ?_
                refine lv_icmp_ne (tgt := 137) hx hb d_Mo_doValue_131 (by decide) (fun c131_1 => ?_) (fun c131_1 => ?_)
                · first | have fc131_1 : (f_under S2).toInt < 8 := (by have := zt_ne (show (f_under S2).toInt = _ from rfl) tI_8 c131_1; omega) | have fc131_1 : 8 < (f_under S2).toInt := (by have := zt_ne (show (f_under S2).toInt = _ from rfl) tI_8 c131_1; omega) | skip
                  refine lv_aload_n hx hb d_Mo_doValue_137 rfl (lv_at hl 4 rfl) ?_
                  refine lv_iconst (v := 2) hx hb d_Mo_doValue_138 (by decide) ?_
                  refine lv_lconst (v := 0) hx hb d_Mo_doValue_139 (by decide) ?_
                  refine jm_cv (w := (fun u => u)) hK hP hD hS hA (va_runV (As := [.int 2, .long 0]) (rest := []) F (m_frame l D T h0 ar S2 (2 : Int32) (0 : Int64) H.size ⟨i_size, i_taken, i_vals, i_room, i_dicts, i_deep, i_open, i_cells, i_points, i_part, i_length, i_knows, i_page, i_text, i_pats, i_fuel, i_fr, i_ink⟩ (show ((2 : Int32).toInt ≤ 2 ∧ (f_under S2).toInt < 8) ∨ (2 < (2 : Int32).toInt ∧ ((f_frames S2).toInt = 0 ∨ ((a_what S2) ((f_frames S2).toInt - 1).toNat).toInt ≤ 2)) by have := tI_2; have := tJ_0; omega) (by have := tI_2; have := tI_0; have := tJ_0; exact ⟨by omega, by omega, (by decide +kernel), fun q => by omega, fun q => by omega, fun q => by omega⟩)) (j_cV (k := 2) (C := "PageScribeModel") hts k_8_59 k_1_12 k_8_56 k_8_58 k_0_129 (by decide +kernel) ⟨Nat.le_of_ble_eq_true rfl, Nat.le_of_ble_eq_true rfl⟩) (jm_pre hK hP hD) rfl rfl hl.1 rfl (lv_room (Nat.le_of_ble_eq_true rfl)) d_Mo_doValue_140 ⟨Nat.le_of_ble_eq_true rfl, Nat.le_of_ble_eq_true rfl⟩) (fun S4 H locs hw6 hP hD hS => ?_)
                  have hP : va_P D classes (mW T h0 ar S4) H := hP
                  have hD : va_D A (mW T h0 ar S4) := hD
                  obtain ⟨⟨i_size, i_taken, i_vals, i_room, i_dicts, i_deep, i_open, i_cells, i_points, i_part, i_length, i_knows, i_page, i_text, i_pats, i_fuel, i_fr, i_ink⟩, kpA_S4, qqhw6⟩ := hw6
                  have kST_S4 : kT S S4 := kT_t (show kT S S2 from kST_S2) (kT_A kpA_S4)
                  have nsteps_S4 : (f_steps S4).toInt = (f_steps S2).toInt := congrArg Int32.toInt kpA_S4.2.2.2.2.1
                  have nfuel_S4 : (f_fuel S4).toInt = (f_fuel S2).toInt := congrArg Int32.toInt kpA_S4.2.2.2.1
                  have nlevel_S4 : (f_level S4).toInt = (f_level S2).toInt := congrArg Int32.toInt kpA_S4.2.2.2.2.2.2.1
                  have npending_S4 : (f_pending S4).toInt = (f_pending S2).toInt := congrArg Int32.toInt kpA_S4.2.2.2.2.2.1
                  have nlength_S4 : (f_length S4).toInt = (f_length S2).toInt := congrArg Int32.toInt kpA_S4.1
                  have nat_S4 : (f_at S4).toInt = (f_at S2).toInt := congrArg Int32.toInt kpA_S4.2.1
                  have qhw6 : (f_frames S4).toInt = (f_frames S2).toInt + 1 ∧ ((a_what S4) ((f_frames S4).toInt - 1).toNat).toInt = 2 ∧ (f_size S4) = (f_size S2) ∧ (a_kinds S4) = (a_kinds S2) ∧ (a_codes S4) = (a_codes S2) := by simpa only [tI_2, tJ_0] using qqhw6
                  refine lv_aload_n hx hb d_Mo_doValue_143 rfl (lv_at hl 4 rfl) ?_
                  refine lv_bipush (v := 40) hx hb d_Mo_doValue_144 (by decide) ?_
                  refine lv_iload_n hx hb d_Mo_doValue_146 rfl (lv_at hl 1 rfl) ?_
                  refine jm_cv (w := (fun u => u)) hK hP hD hS hA (va_runV (As := [.int 40, .int rv2]) (rest := []) F (m_move l D T h0 ar S4 (40 : Int32) rv2 H.size (show 0 ≤ (40 : Int32).toInt ∧ (40 : Int32).toInt < 1300 by have := tI_40; omega) (show 0 ≤ rv2.toInt ∧ rv2.toInt < 1300 by have := tI_40; omega)) (j_cV (k := 2) (C := "PageScribeModel") hts k_7_76 k_1_12 k_7_73 k_7_75 k_0_82 (by decide +kernel) ⟨Nat.le_of_ble_eq_true rfl, Nat.le_of_ble_eq_true rfl⟩) (jm_pre hK hP hD) rfl rfl hl.1 rfl (lv_room (Nat.le_of_ble_eq_true rfl)) d_Mo_doValue_147 ⟨Nat.le_of_ble_eq_true rfl, Nat.le_of_ble_eq_true rfl⟩) (fun S5 H locs hw7 hP hD hS => ?_)
                  try simp only [tI_40] at hw7
                  obtain rfl := hw7
                  have hP : va_P D classes (mW T h0 ar ((((f_thrown S4), (upd (a_kinds S4) (40) ((a_kinds S4) (rv2.toInt.toNat))), (vp_updL (a_codes S4) (40) ((a_codes S4) (rv2.toInt.toNat))), (vf_upd (a_reals S4) (40) ((a_reals S4) (rv2.toInt.toNat))), (f_size S4), (f_taken S4), (a_words S4), (a_many S4)), S4.2.1, S4.2.2.1, S4.2.2.2.1, S4.2.2.2.2.1, S4.2.2.2.2.2) : MS)) H := hP
                  have hD : va_D A (mW T h0 ar ((((f_thrown S4), (upd (a_kinds S4) (40) ((a_kinds S4) (rv2.toInt.toNat))), (vp_updL (a_codes S4) (40) ((a_codes S4) (rv2.toInt.toNat))), (vf_upd (a_reals S4) (40) ((a_reals S4) (rv2.toInt.toNat))), (f_size S4), (f_taken S4), (a_words S4), (a_many S4)), S4.2.1, S4.2.2.1, S4.2.2.2.1, S4.2.2.2.2.1, S4.2.2.2.2.2) : MS)) := hD
                  have i_vals : ∀ k, k < 1300 → vOk ((upd (a_kinds S4) (40) ((a_kinds S4) (rv2.toInt.toNat))) k) ((vp_updL (a_codes S4) (40) ((a_codes S4) (rv2.toInt.toNat))) k) ((vf_upd (a_reals S4) (40) ((a_reals S4) (rv2.toInt.toNat))) k) := vOk_upd i_vals (i_vals (rv2.toInt.toNat) (by omega))
                  have fa1 : ((upd (a_kinds S4) (40) ((a_kinds S4) (rv2.toInt.toNat))) 40).toInt = ((a_kinds S4) (rv2.toInt.toNat)).toInt := congrArg Int32.toInt upd_s
                  have fa2 : ((vp_updL (a_codes S4) (40) ((a_codes S4) (rv2.toInt.toNat))) 40).toInt = ((a_codes S4) (rv2.toInt.toNat)).toInt := congrArg Int64.toInt updL_s
                  refine lv_goto (tgt := 159) hx hb d_Mo_doValue_150 (by decide) ?_
                  refine lv_iinc (v := (i + 1)) (lv' := [(2, .int (i + 1)), (4, .int rv3), (3, .int rv2), (1, .int f), (0, .ref h0)]) hx hb d_Mo_doValue_159 hl (k := 2) rfl (by first | rfl | decide) (by decide) rfl (fun ls hl => ?_)
                  obtain ⟨x5, ex5⟩ : ∃ z, z = (i + 1) := ⟨_, rfl⟩
                  rw [← ex5] at hl
                  have fx5 : x5.toInt = (i.toInt + 1) := by rw [ex5]; exact (zt_add (show i.toInt = _ from rfl) tI_1 (by omega) (by omega)).trans (by omega)
                  have hl : lv_has ls 5 [(2, .int x5), (4, .int rv3), (3, .int rv2), (1, .int f), (0, .ref h0)] := hl
                  refine lv_goto (tgt := 4) hx hb d_Mo_doValue_162 (by decide) ?_
                  exact ih (k - 1) (((((f_thrown S4), (upd (a_kinds S4) (40) ((a_kinds S4) (rv2.toInt.toNat))), (vp_updL (a_codes S4) (40) ((a_codes S4) (rv2.toInt.toNat))), (vf_upd (a_reals S4) (40) ((a_reals S4) (rv2.toInt.toNat))), (f_size S4), (f_taken S4), (a_words S4), (a_many S4)), S4.2.1, S4.2.2.1, S4.2.2.2.1, S4.2.2.2.2.1, S4.2.2.2.2.2) : MS), f, x5) _ _ _ (by omega) ⟨(show 0 ≤ x5.toInt ∧ x5.toInt ≤ 1200 ∧ 1200 ≤ x5.toInt + (((k - 1) : Nat) : Int) ∧ -1 ≤ f.toInt ∧ f.toInt ≤ 16 ∧ (f_fuel S4).toInt = (f_fuel S).toInt ∧ (x5.toInt = 0 → f.toInt = -1 ∧ (f_frames S4).toInt + 3 * (f_fuel S4).toInt - 3 * (f_steps S4).toInt ≤ (f_frames S).toInt + 3 * (f_fuel S).toInt - 3 * (f_steps S).toInt) ∧ (1 ≤ x5.toInt → f.toInt = 16 ∨ (f_frames S4).toInt + 3 * (f_fuel S4).toInt - 3 * (f_steps S4).toInt + 1 ≤ (f_frames S).toInt + 3 * (f_fuel S).toInt - 3 * (f_steps S).toInt) ∧ (f.toInt = -1 → ((upd (a_kinds S4) (40) ((a_kinds S4) (rv2.toInt.toNat))) 40).toInt = 11 → ((f_frames S4).toInt = 0 ∨ ((a_what S4) ((f_frames S4).toInt - 1).toNat).toInt ≤ 2)) by exact ⟨by omega, by omega, by omega, by omega, by omega, by omega, fun q => by omega, fun q => by omega, fun q1 q2 => by omega⟩), ⟨i_size, i_taken, i_vals, i_room, i_dicts, i_deep, i_open, i_cells, i_points, i_part, i_length, i_knows, i_page, i_text, i_pats, i_fuel, i_fr, i_ink⟩, (show kT S ((((f_thrown S4), (upd (a_kinds S4) (40) ((a_kinds S4) (rv2.toInt.toNat))), (vp_updL (a_codes S4) (40) ((a_codes S4) (rv2.toInt.toNat))), (vf_upd (a_reals S4) (40) ((a_reals S4) (rv2.toInt.toNat))), (f_size S4), (f_taken S4), (a_words S4), (a_many S4)), S4.2.1, S4.2.2.1, S4.2.2.2.1, S4.2.2.2.2.1, S4.2.2.2.2.2) : MS) from kST_S4), hP, hD, hS, lv_sub hl [0, 3, 4] rfl⟩
                · have fc131_1 : (f_under S2).toInt = 8 := zt_eq (show (f_under S2).toInt = _ from rfl) tI_8 c131_1
                  refine lv_bipush (v := 12) hx hb d_Mo_doValue_134 (by decide) ?_
                  exact j_iret F hr hlocks hK hS S2 ⟨⟨i_size, i_taken, i_vals, i_room, i_dicts, i_deep, i_open, i_cells, i_points, i_part, i_length, i_knows, i_page, i_text, i_pats, i_fuel, i_fr, i_ink⟩, kST_S2, (show -1 ≤ (12 : Int32).toInt ∧ (12 : Int32).toInt ≤ 16 ∧ ((12 : Int32).toInt = 16 ∨ (f_frames S2).toInt + 3 * (f_fuel S2).toInt - 3 * (f_steps S2).toInt + 1 ≤ (f_frames S).toInt + 3 * (f_fuel S).toInt - 3 * (f_steps S).toInt) by have := tI_12; omega)⟩ hP hD d_Mo_doValue_136
            · first | have fc100_1 : rv4.toInt < 0 := (by have := zt_ne (show rv4.toInt = _ from rfl) tI_0 c100_1; omega) | have fc100_1 : 0 < rv4.toInt := (by have := zt_ne (show rv4.toInt = _ from rfl) tI_0 c100_1; omega) | skip
              refine lv_aload_n hx hb d_Mo_doValue_103 rfl (lv_at hl 4 rfl) ?_
              refine lv_aload_n hx hb d_Mo_doValue_104 rfl (lv_at hl 4 rfl) ?_
              refine va_get (D := D) (ci := 11) (v := .ref (ar 1)) (C := "PageScribeModel") (T := F_Mo) (N := 45) hx hb hts i_Mo hown hK hP 0 mW_0 cl_11 2 (by decide) (hts _ k_6_162) (fun _ h9 => h9) (mg_codes _ _) d_Mo_doValue_105 ?_
              refine lv_iload_n hx hb d_Mo_doValue_108 rfl (lv_at hl 1 rfl) ?_
              refine va_lald hx hb hK hP 2 1 (ma_codes _ _ _ _) rfl (zt_in (show rv2.toInt = _ from rfl) (by omega) (by omega)) d_Mo_doValue_109 ?_
              refine lv_topl (fun x6 ex6 => ?_)
              have gx6 : x6 = (a_codes S2) rv2.toInt.toNat := ex6.trans (congrArg _ (zt_ix (show rv2.toInt = _ from rfl)))
              have fx6 : x6.toInt = ((a_codes S2) rv2.toInt.toNat).toInt := by rw [gx6]
              have kx6 : vOk ((a_kinds S2) rv2.toInt.toNat) ((a_codes S2) rv2.toInt.toNat) ((a_reals S2) rv2.toInt.toNat) := i_vals (rv2.toInt.toNat) (by omega)
              refine jm_ci (w := (fun u => u)) hK hP hD hS hA (va_runV (As := [.long x6]) (rest := []) F (m_runArray l D T h0 ar S2 x6 H.size ⟨i_size, i_taken, i_vals, i_room, i_dicts, i_deep, i_open, i_cells, i_points, i_part, i_length, i_knows, i_page, i_text, i_pats, i_fuel, i_fr, i_ink⟩ (by rw [gx6]; exact vk_ar8 kx6 (by omega))) (j_cV (k := 1) (C := "PageScribeModel") hts k_8_55 k_1_12 k_8_52 k_8_54 k_0_128 (by decide +kernel) ⟨Nat.le_of_ble_eq_true rfl, Nat.le_of_ble_eq_true rfl⟩) (jm_pre hK hP hD) rfl rfl hl.1 rfl (lv_room (Nat.le_of_ble_eq_true rfl)) d_Mo_doValue_110 ⟨Nat.le_of_ble_eq_true rfl, Nat.le_of_ble_eq_true rfl⟩) (fun rv8 S6 H locs hw8 hP hD hS => ?_)
              have hP : va_P D classes (mW T h0 ar S6) H := hP
              have hD : va_D A (mW T h0 ar S6) := hD
              obtain ⟨⟨i_size, i_taken, i_vals, i_room, i_dicts, i_deep, i_open, i_cells, i_points, i_part, i_length, i_knows, i_page, i_text, i_pats, i_fuel, i_fr, i_ink⟩, kpA_S6, qqhw8⟩ := hw8
              have kST_S6 : kT S S6 := kT_t (show kT S S2 from kST_S2) (kT_A kpA_S6)
              have nsteps_S6 : (f_steps S6).toInt = (f_steps S2).toInt := congrArg Int32.toInt kpA_S6.2.2.2.2.1
              have nfuel_S6 : (f_fuel S6).toInt = (f_fuel S2).toInt := congrArg Int32.toInt kpA_S6.2.2.2.1
              have nlevel_S6 : (f_level S6).toInt = (f_level S2).toInt := congrArg Int32.toInt kpA_S6.2.2.2.2.2.2.1
              have npending_S6 : (f_pending S6).toInt = (f_pending S2).toInt := congrArg Int32.toInt kpA_S6.2.2.2.2.2.1
              have nlength_S6 : (f_length S6).toInt = (f_length S2).toInt := congrArg Int32.toInt kpA_S6.1
              have nat_S6 : (f_at S6).toInt = (f_at S2).toInt := congrArg Int32.toInt kpA_S6.2.1
              have qhw8 : (rv8.toInt = 0 ∧ (f_frames S6).toInt = (f_frames S2).toInt + 1) ∨ (rv8.toInt = 12 ∧ (f_frames S6).toInt = (f_frames S2).toInt) := qqhw8
              exact j_iret F hr hlocks hK hS S6 ⟨⟨i_size, i_taken, i_vals, i_room, i_dicts, i_deep, i_open, i_cells, i_points, i_part, i_length, i_knows, i_page, i_text, i_pats, i_fuel, i_fr, i_ink⟩, kST_S6, (show -1 ≤ rv8.toInt ∧ rv8.toInt ≤ 16 ∧ (rv8.toInt = 16 ∨ (f_frames S6).toInt + 3 * (f_fuel S6).toInt - 3 * (f_steps S6).toInt + 1 ≤ (f_frames S).toInt + 3 * (f_fuel S).toInt - 3 * (f_steps S).toInt) by omega)⟩ hP hD d_Mo_doValue_113
          · have fc72_1 : rv2.toInt = (-1) := zt_eq (show rv2.toInt = _ from rfl) tI_m1 c72_1
            refine lv_iload hx hb d_Mo_doValue_75 (lv_at hl 0 rfl) ?_
            refine lv_iconst (v := (-1)) hx hb d_Mo_doValue_77 (by decide) ?_
            refine lv_icmp_ne (tgt := 85) hx hb d_Mo_doValue_78 (by decide) (fun c78_1 => ?_) (fun c78_1 => ?_)
            · first | have fc78_1 : rv3.toInt < (-1) := (by have := zt_ne (show rv3.toInt = _ from rfl) tI_m1 c78_1; omega) | have fc78_1 : (-1) < rv3.toInt := (by have := zt_ne (show rv3.toInt = _ from rfl) tI_m1 c78_1; omega) | skip
              refine lv_aload_n hx hb d_Mo_doValue_85 rfl (lv_at hl 4 rfl) ?_
              refine lv_iload hx hb d_Mo_doValue_86 (lv_at hl 0 rfl) ?_
              refine jm_ci (w := (fun u => u)) hK hP hD hS hA (va_runV (As := [.int rv3]) (rest := []) F (m_operate l D T h0 ar S2 rv3 H.size ⟨i_size, i_taken, i_vals, i_room, i_dicts, i_deep, i_open, i_cells, i_points, i_part, i_length, i_knows, i_page, i_text, i_pats, i_fuel, i_fr, i_ink⟩ (show 0 ≤ rv3.toInt ∧ rv3.toInt ≤ 71 by omega) hfr) (j_cV (k := 1) (C := "PageScribeModel") hts k_7_154 k_1_12 k_7_151 k_7_153 k_0_97 (by decide +kernel) ⟨Nat.le_of_ble_eq_true rfl, Nat.le_of_ble_eq_true rfl⟩) (jm_pre hK hP hD) rfl rfl hl.1 rfl (lv_room (Nat.le_of_ble_eq_true rfl)) d_Mo_doValue_88 ⟨Nat.le_of_ble_eq_true rfl, Nat.le_of_ble_eq_true rfl⟩) (fun rv9 S7 H locs hw9 hP hD hS => ?_)
              have hP : va_P D classes (mW T h0 ar S7) H := hP
              have hD : va_D A (mW T h0 ar S7) := hD
              obtain ⟨⟨i_size, i_taken, i_vals, i_room, i_dicts, i_deep, i_open, i_cells, i_points, i_part, i_length, i_knows, i_page, i_text, i_pats, i_fuel, i_fr, i_ink⟩, kpA_S7, qqhw9⟩ := hw9
              have kST_S7 : kT S S7 := kT_t (show kT S S2 from kST_S2) (kT_A kpA_S7)
              have nsteps_S7 : (f_steps S7).toInt = (f_steps S2).toInt := congrArg Int32.toInt kpA_S7.2.2.2.2.1
              have nfuel_S7 : (f_fuel S7).toInt = (f_fuel S2).toInt := congrArg Int32.toInt kpA_S7.2.2.2.1
              have nlevel_S7 : (f_level S7).toInt = (f_level S2).toInt := congrArg Int32.toInt kpA_S7.2.2.2.2.2.2.1
              have npending_S7 : (f_pending S7).toInt = (f_pending S2).toInt := congrArg Int32.toInt kpA_S7.2.2.2.2.2.1
              have nlength_S7 : (f_length S7).toInt = (f_length S2).toInt := congrArg Int32.toInt kpA_S7.1
              have nat_S7 : (f_at S7).toInt = (f_at S2).toInt := congrArg Int32.toInt kpA_S7.2.1
              have qhw9 : -1 ≤ rv9.toInt ∧ rv9.toInt ≤ 16 ∧ (f_frames S7).toInt ≤ (f_frames S2).toInt + 2 ∧ (rv9.toInt = -1 → ((a_kinds S7) 40).toInt = 11 → 1 ≤ (f_frames S7).toInt ∧ ((a_what S7) ((f_frames S7).toInt - 1).toNat).toInt ≤ 2) := qqhw9
              refine lv_istore_n (lv' := [(1, .int rv9), (4, .int rv3), (3, .int rv2), (2, .int i), (0, .ref h0)]) hx hb d_Mo_doValue_91 rfl hl (by decide) rfl (fun ls hl => ?_)
              refine lv_goto (tgt := 159) hx hb d_Mo_doValue_92 (by decide) ?_
              refine lv_iinc (v := (i + 1)) (lv' := [(2, .int (i + 1)), (1, .int rv9), (4, .int rv3), (3, .int rv2), (0, .ref h0)]) hx hb d_Mo_doValue_159 hl (k := 3) rfl (by first | rfl | decide) (by decide) rfl (fun ls hl => ?_)
              obtain ⟨x7, ex7⟩ : ∃ z, z = (i + 1) := ⟨_, rfl⟩
              rw [← ex7] at hl
              have fx7 : x7.toInt = (i.toInt + 1) := by rw [ex7]; exact (zt_add (show i.toInt = _ from rfl) tI_1 (by omega) (by omega)).trans (by omega)
              have hl : lv_has ls 5 [(2, .int x7), (1, .int rv9), (4, .int rv3), (3, .int rv2), (0, .ref h0)] := hl
              refine lv_goto (tgt := 4) hx hb d_Mo_doValue_162 (by decide) ?_
              exact ih (k - 1) (S7, rv9, x7) _ _ _ (by omega) ⟨(show 0 ≤ x7.toInt ∧ x7.toInt ≤ 1200 ∧ 1200 ≤ x7.toInt + (((k - 1) : Nat) : Int) ∧ -1 ≤ rv9.toInt ∧ rv9.toInt ≤ 16 ∧ (f_fuel S7).toInt = (f_fuel S).toInt ∧ (x7.toInt = 0 → rv9.toInt = -1 ∧ (f_frames S7).toInt + 3 * (f_fuel S7).toInt - 3 * (f_steps S7).toInt ≤ (f_frames S).toInt + 3 * (f_fuel S).toInt - 3 * (f_steps S).toInt) ∧ (1 ≤ x7.toInt → rv9.toInt = 16 ∨ (f_frames S7).toInt + 3 * (f_fuel S7).toInt - 3 * (f_steps S7).toInt + 1 ≤ (f_frames S).toInt + 3 * (f_fuel S).toInt - 3 * (f_steps S).toInt) ∧ (rv9.toInt = -1 → ((a_kinds S7) 40).toInt = 11 → ((f_frames S7).toInt = 0 ∨ ((a_what S7) ((f_frames S7).toInt - 1).toNat).toInt ≤ 2)) by exact ⟨by omega, by omega, by omega, by omega, by omega, by omega, fun q => by omega, fun q => by omega, fun q1 q2 => by omega⟩), ⟨i_size, i_taken, i_vals, i_room, i_dicts, i_deep, i_open, i_cells, i_points, i_part, i_length, i_knows, i_page, i_text, i_pats, i_fuel, i_fr, i_ink⟩, (show kT S S7 from kST_S7), hP, hD, hS, lv_sub hl [0, 1, 4] rfl⟩
            · have fc78_1 : rv3.toInt = (-1) := zt_eq (show rv3.toInt = _ from rfl) tI_m1 c78_1
              refine lv_iconst (v := 5) hx hb d_Mo_doValue_81 (by decide) ?_
              refine lv_goto (tgt := 91) hx hb d_Mo_doValue_82 (by decide) ?_
              refine lv_istore_n (lv' := [(1, .int 5), (4, .int rv3), (3, .int rv2), (2, .int i), (0, .ref h0)]) hx hb d_Mo_doValue_91 rfl hl (by decide) rfl (fun ls hl => ?_)
              refine lv_goto (tgt := 159) hx hb d_Mo_doValue_92 (by decide) ?_
              refine lv_iinc (v := (i + 1)) (lv' := [(2, .int (i + 1)), (1, .int 5), (4, .int rv3), (3, .int rv2), (0, .ref h0)]) hx hb d_Mo_doValue_159 hl (k := 3) rfl (by first | rfl | decide) (by decide) rfl (fun ls hl => ?_)
              obtain ⟨x8, ex8⟩ : ∃ z, z = (i + 1) := ⟨_, rfl⟩
              rw [← ex8] at hl
              have fx8 : x8.toInt = (i.toInt + 1) := by rw [ex8]; exact (zt_add (show i.toInt = _ from rfl) tI_1 (by omega) (by omega)).trans (by omega)
              have hl : lv_has ls 5 [(2, .int x8), (1, .int 5), (4, .int rv3), (3, .int rv2), (0, .ref h0)] := hl
              refine lv_goto (tgt := 4) hx hb d_Mo_doValue_162 (by decide) ?_
              exact ih (k - 1) (S2, (5 : Int32), x8) _ _ _ (by omega) ⟨(show 0 ≤ x8.toInt ∧ x8.toInt ≤ 1200 ∧ 1200 ≤ x8.toInt + (((k - 1) : Nat) : Int) ∧ -1 ≤ (5 : Int32).toInt ∧ (5 : Int32).toInt ≤ 16 ∧ (f_fuel S2).toInt = (f_fuel S).toInt ∧ (x8.toInt = 0 → (5 : Int32).toInt = -1 ∧ (f_frames S2).toInt + 3 * (f_fuel S2).toInt - 3 * (f_steps S2).toInt ≤ (f_frames S).toInt + 3 * (f_fuel S).toInt - 3 * (f_steps S).toInt) ∧ (1 ≤ x8.toInt → (5 : Int32).toInt = 16 ∨ (f_frames S2).toInt + 3 * (f_fuel S2).toInt - 3 * (f_steps S2).toInt + 1 ≤ (f_frames S).toInt + 3 * (f_fuel S).toInt - 3 * (f_steps S).toInt) ∧ ((5 : Int32).toInt = -1 → ((a_kinds S2) 40).toInt = 11 → ((f_frames S2).toInt = 0 ∨ ((a_what S2) ((f_frames S2).toInt - 1).toNat).toInt ≤ 2)) by have := tI_5; exact ⟨by omega, by omega, by omega, by omega, by omega, by omega, fun q => by omega, fun q => by omega, fun q1 q2 => by omega⟩), ⟨i_size, i_taken, i_vals, i_room, i_dicts, i_deep, i_open, i_cells, i_points, i_part, i_length, i_knows, i_page, i_text, i_pats, i_fuel, i_fr, i_ink⟩, (show kT S S2 from kST_S2), hP, hD, hS, lv_sub hl [0, 1, 4] rfl⟩
        · first | have fc35_1 : x1.toInt < 11 := (by have := zt_ne (show x1.toInt = _ from rfl) tI_11 c35_1; omega) | have fc35_1 : 11 < x1.toInt := (by have := zt_ne (show x1.toInt = _ from rfl) tI_11 c35_1; omega) | skip
          refine lv_aload_n hx hb d_Mo_doValue_38 rfl (lv_at hl 2 rfl) ?_
          refine lv_bipush (v := 40) hx hb d_Mo_doValue_39 (by decide) ?_
          refine jm_ci (w := (fun u => u)) hK hP hD hS hA (va_runV (As := [.int 40]) (rest := []) F (m_pushValue l D T h0 ar S2 (40 : Int32) H.size ⟨i_size, i_taken, i_vals, i_room, i_dicts, i_deep, i_open, i_cells, i_points, i_part, i_length, i_knows, i_page, i_text, i_pats, i_fuel, i_fr, i_ink⟩ (show 0 ≤ (40 : Int32).toInt ∧ (40 : Int32).toInt < 1300 by have := tI_40; omega)) (j_cV (k := 1) (C := "PageScribeModel") hts k_7_139 k_1_12 k_7_136 k_7_138 k_0_94 (by decide +kernel) ⟨Nat.le_of_ble_eq_true rfl, Nat.le_of_ble_eq_true rfl⟩) (jm_pre hK hP hD) rfl rfl hl.1 rfl (lv_room (Nat.le_of_ble_eq_true rfl)) d_Mo_doValue_41 ⟨Nat.le_of_ble_eq_true rfl, Nat.le_of_ble_eq_true rfl⟩) (fun rv10 S8 H locs hw10 hP hD hS => ?_)
          have hP : va_P D classes (mW T h0 ar S8) H := hP
          have hD : va_D A (mW T h0 ar S8) := hD
          obtain ⟨⟨i_size, i_taken, i_vals, i_room, i_dicts, i_deep, i_open, i_cells, i_points, i_part, i_length, i_knows, i_page, i_text, i_pats, i_fuel, i_fr, i_ink⟩, kpA_S8, kpF_S8, qqhw10⟩ := hw10
          have kST_S8 : kT S S8 := kT_t (show kT S S2 from kST_S2) (kT_A kpA_S8)
          have nframes_S8 : (f_frames S8).toInt = (f_frames S2).toInt := congrArg Int32.toInt kpF_S8.1
          have nunder_S8 : (f_under S8).toInt = (f_under S2).toInt := congrArg Int32.toInt kpF_S8.2.1
          have nsteps_S8 : (f_steps S8).toInt = (f_steps S2).toInt := congrArg Int32.toInt kpA_S8.2.2.2.2.1
          have nfuel_S8 : (f_fuel S8).toInt = (f_fuel S2).toInt := congrArg Int32.toInt kpA_S8.2.2.2.1
          have nlevel_S8 : (f_level S8).toInt = (f_level S2).toInt := congrArg Int32.toInt kpA_S8.2.2.2.2.2.2.1
          have npending_S8 : (f_pending S8).toInt = (f_pending S2).toInt := congrArg Int32.toInt kpA_S8.2.2.2.2.2.1
          have nlength_S8 : (f_length S8).toInt = (f_length S2).toInt := congrArg Int32.toInt kpA_S8.1
          have nat_S8 : (f_at S8).toInt = (f_at S2).toInt := congrArg Int32.toInt kpA_S8.2.1
          have qhw10 : rv10.toInt = 0 ∨ rv10.toInt = 2 := by simpa only [tI_40] using qqhw10
          exact j_iret F hr hlocks hK hS S8 ⟨⟨i_size, i_taken, i_vals, i_room, i_dicts, i_deep, i_open, i_cells, i_points, i_part, i_length, i_knows, i_page, i_text, i_pats, i_fuel, i_fr, i_ink⟩, kST_S8, (show -1 ≤ rv10.toInt ∧ rv10.toInt ≤ 16 ∧ (rv10.toInt = 16 ∨ (f_frames S8).toInt + 3 * (f_fuel S8).toInt - 3 * (f_steps S8).toInt + 1 ≤ (f_frames S).toInt + 3 * (f_fuel S).toInt - 3 * (f_steps S).toInt) by omega)⟩ hP hD d_Mo_doValue_44
      · first | have fc20_1 : rv1.toInt < 0 := (by have := zt_ne (show rv1.toInt = _ from rfl) tI_0 c20_1; omega) | have fc20_1 : 0 < rv1.toInt := (by have := zt_ne (show rv1.toInt = _ from rfl) tI_0 c20_1; omega) | skip
        refine lv_bipush (v := 16) hx hb d_Mo_doValue_23 (by decide) ?_
        exact j_iret F hr hlocks hK hS S2 ⟨⟨i_size, i_taken, i_vals, i_room, i_dicts, i_deep, i_open, i_cells, i_points, i_part, i_length, i_knows, i_page, i_text, i_pats, i_fuel, i_fr, i_ink⟩, kST_S2, (show -1 ≤ (16 : Int32).toInt ∧ (16 : Int32).toInt ≤ 16 ∧ ((16 : Int32).toInt = 16 ∨ (f_frames S2).toInt + 3 * (f_fuel S2).toInt - 3 * (f_steps S2).toInt + 1 ≤ (f_frames S).toInt + 3 * (f_fuel S).toInt - 3 * (f_steps S).toInt) by have := tI_16; omega)⟩ hP hD d_Mo_doValue_25
