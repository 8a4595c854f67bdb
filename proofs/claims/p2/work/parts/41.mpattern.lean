def pat (op : Int) : Int :=
  if op < 10 then (if op = 5 then 11 else if 5 < op then 0 else if 2 < op then 1 else if op = 1 then 99 else 9)
  else if op < 21 then (if op < 14 then 22 else if op < 16 then 11 else 2)
  else if op < 37 then (if op < 23 then 0 else if op < 25 then 99 else if op < 29 then 22 else if op < 31 then 99 else if op = 32 then 11 else 9)
  else if op < 70 then ptab (op - 37).toNat else 0
theorem d_Mo_pattern_0 : decode prog_15_method_39_code 0 = .ok (.iload_n 1, 1) := by decide +kernel
theorem d_Mo_pattern_1 : decode prog_15_method_39_code 1 = .ok (.bipush 10, 2) := by decide +kernel
theorem d_Mo_pattern_3 : decode prog_15_method_39_code 3 = .ok (.if_icmp .ge 44, 3) := by decide +kernel
theorem d_Mo_pattern_47 : decode prog_15_method_39_code 47 = .ok (.iload_n 1, 1) := by decide +kernel
theorem d_Mo_pattern_48 : decode prog_15_method_39_code 48 = .ok (.bipush 21, 2) := by decide +kernel
theorem d_Mo_pattern_50 : decode prog_15_method_39_code 50 = .ok (.if_icmp .ge 27, 3) := by decide +kernel
theorem d_Mo_pattern_77 : decode prog_15_method_39_code 77 = .ok (.iload_n 1, 1) := by decide +kernel
theorem d_Mo_pattern_78 : decode prog_15_method_39_code 78 = .ok (.bipush 37, 2) := by decide +kernel
theorem d_Mo_pattern_80 : decode prog_15_method_39_code 80 = .ok (.if_icmp .ge 60, 3) := by decide +kernel
theorem tI_37 : (37 : Int32).toInt = 37 := by decide +kernel
theorem d_Mo_pattern_140 : decode prog_15_method_39_code 140 = .ok (.iload_n 1, 1) := by decide +kernel
theorem d_Mo_pattern_141 : decode prog_15_method_39_code 141 = .ok (.bipush 70, 2) := by decide +kernel
theorem d_Mo_pattern_143 : decode prog_15_method_39_code 143 = .ok (.if_icmp .ge 15, 3) := by decide +kernel
theorem tI_70 : (70 : Int32).toInt = 70 := by decide +kernel
theorem d_Mo_pattern_158 : decode prog_15_method_39_code 158 = .ok (.iconst 0, 1) := by decide +kernel
theorem d_Mo_pattern_159 : decode prog_15_method_39_code 159 = .ok (.ireturn, 1) := by decide +kernel
theorem d_Mo_pattern_146 : decode prog_15_method_39_code 146 = .ok (.aload_n 0, 1) := by decide +kernel
theorem k_6_202 : Cond.fieldLink "PageScribeModel" 87 "PageScribeModel" "patterns" "[I" ∈ gw := gw_of (tb_6 (List.mem_of_getElem? (i := 202) (by decide +kernel))) (by decide +kernel)
theorem d_Mo_pattern_147 : decode prog_15_method_39_code 147 = .ok (.getfield 87, 3) := by decide +kernel
theorem d_Mo_pattern_150 : decode prog_15_method_39_code 150 = .ok (.iload_n 1, 1) := by decide +kernel
theorem d_Mo_pattern_151 : decode prog_15_method_39_code 151 = .ok (.bipush 37, 2) := by decide +kernel
theorem d_Mo_pattern_153 : decode prog_15_method_39_code 153 = .ok (.isub, 1) := by decide +kernel
theorem d_Mo_pattern_154 : decode prog_15_method_39_code 154 = .ok (.iaload, 1) := by decide +kernel
theorem d_Mo_pattern_155 : decode prog_15_method_39_code 155 = .ok (.goto 4, 3) := by decide +kernel
theorem d_Mo_pattern_83 : decode prog_15_method_39_code 83 = .ok (.iload_n 1, 1) := by decide +kernel
theorem d_Mo_pattern_84 : decode prog_15_method_39_code 84 = .ok (.bipush 23, 2) := by decide +kernel
theorem d_Mo_pattern_86 : decode prog_15_method_39_code 86 = .ok (.if_icmp .ge 7, 3) := by decide +kernel
theorem d_Mo_pattern_93 : decode prog_15_method_39_code 93 = .ok (.iload_n 1, 1) := by decide +kernel
theorem d_Mo_pattern_94 : decode prog_15_method_39_code 94 = .ok (.bipush 25, 2) := by decide +kernel
theorem d_Mo_pattern_96 : decode prog_15_method_39_code 96 = .ok (.if_icmp .ge 8, 3) := by decide +kernel
theorem d_Mo_pattern_104 : decode prog_15_method_39_code 104 = .ok (.iload_n 1, 1) := by decide +kernel
theorem d_Mo_pattern_105 : decode prog_15_method_39_code 105 = .ok (.bipush 29, 2) := by decide +kernel
theorem d_Mo_pattern_107 : decode prog_15_method_39_code 107 = .ok (.if_icmp .ge 8, 3) := by decide +kernel
theorem d_Mo_pattern_115 : decode prog_15_method_39_code 115 = .ok (.iload_n 1, 1) := by decide +kernel
theorem d_Mo_pattern_116 : decode prog_15_method_39_code 116 = .ok (.bipush 31, 2) := by decide +kernel
theorem d_Mo_pattern_118 : decode prog_15_method_39_code 118 = .ok (.if_icmp .ge 8, 3) := by decide +kernel
theorem d_Mo_pattern_126 : decode prog_15_method_39_code 126 = .ok (.iload_n 1, 1) := by decide +kernel
theorem d_Mo_pattern_127 : decode prog_15_method_39_code 127 = .ok (.bipush 32, 2) := by decide +kernel
theorem d_Mo_pattern_129 : decode prog_15_method_39_code 129 = .ok (.if_icmp .ne 8, 3) := by decide +kernel
theorem tI_32 : (32 : Int32).toInt = 32 := by decide +kernel
theorem d_Mo_pattern_137 : decode prog_15_method_39_code 137 = .ok (.bipush 9, 2) := by decide +kernel
theorem d_Mo_pattern_139 : decode prog_15_method_39_code 139 = .ok (.ireturn, 1) := by decide +kernel
theorem d_Mo_pattern_132 : decode prog_15_method_39_code 132 = .ok (.bipush 11, 2) := by decide +kernel
theorem d_Mo_pattern_134 : decode prog_15_method_39_code 134 = .ok (.goto 5, 3) := by decide +kernel
theorem d_Mo_pattern_121 : decode prog_15_method_39_code 121 = .ok (.bipush 99, 2) := by decide +kernel
theorem d_Mo_pattern_123 : decode prog_15_method_39_code 123 = .ok (.goto 16, 3) := by decide +kernel
theorem tI_99 : (99 : Int32).toInt = 99 := by decide +kernel
theorem d_Mo_pattern_110 : decode prog_15_method_39_code 110 = .ok (.bipush 22, 2) := by decide +kernel
theorem d_Mo_pattern_112 : decode prog_15_method_39_code 112 = .ok (.goto 27, 3) := by decide +kernel
theorem tI_22 : (22 : Int32).toInt = 22 := by decide +kernel
theorem d_Mo_pattern_99 : decode prog_15_method_39_code 99 = .ok (.bipush 99, 2) := by decide +kernel
theorem d_Mo_pattern_101 : decode prog_15_method_39_code 101 = .ok (.goto 38, 3) := by decide +kernel
theorem d_Mo_pattern_89 : decode prog_15_method_39_code 89 = .ok (.iconst 0, 1) := by decide +kernel
theorem d_Mo_pattern_90 : decode prog_15_method_39_code 90 = .ok (.goto 49, 3) := by decide +kernel
theorem d_Mo_pattern_53 : decode prog_15_method_39_code 53 = .ok (.iload_n 1, 1) := by decide +kernel
theorem d_Mo_pattern_54 : decode prog_15_method_39_code 54 = .ok (.bipush 14, 2) := by decide +kernel
theorem d_Mo_pattern_56 : decode prog_15_method_39_code 56 = .ok (.if_icmp .ge 8, 3) := by decide +kernel
theorem d_Mo_pattern_64 : decode prog_15_method_39_code 64 = .ok (.iload_n 1, 1) := by decide +kernel
theorem d_Mo_pattern_65 : decode prog_15_method_39_code 65 = .ok (.bipush 16, 2) := by decide +kernel
theorem d_Mo_pattern_67 : decode prog_15_method_39_code 67 = .ok (.if_icmp .ge 8, 3) := by decide +kernel
theorem d_Mo_pattern_75 : decode prog_15_method_39_code 75 = .ok (.iconst 2, 1) := by decide +kernel
theorem d_Mo_pattern_76 : decode prog_15_method_39_code 76 = .ok (.ireturn, 1) := by decide +kernel
theorem d_Mo_pattern_70 : decode prog_15_method_39_code 70 = .ok (.bipush 11, 2) := by decide +kernel
theorem d_Mo_pattern_72 : decode prog_15_method_39_code 72 = .ok (.goto 4, 3) := by decide +kernel
theorem d_Mo_pattern_59 : decode prog_15_method_39_code 59 = .ok (.bipush 22, 2) := by decide +kernel
theorem d_Mo_pattern_61 : decode prog_15_method_39_code 61 = .ok (.goto 15, 3) := by decide +kernel
theorem d_Mo_pattern_6 : decode prog_15_method_39_code 6 = .ok (.iload_n 1, 1) := by decide +kernel
theorem d_Mo_pattern_7 : decode prog_15_method_39_code 7 = .ok (.iconst 5, 1) := by decide +kernel
theorem d_Mo_pattern_8 : decode prog_15_method_39_code 8 = .ok (.if_icmp .ne 8, 3) := by decide +kernel
theorem d_Mo_pattern_16 : decode prog_15_method_39_code 16 = .ok (.iload_n 1, 1) := by decide +kernel
theorem d_Mo_pattern_17 : decode prog_15_method_39_code 17 = .ok (.iconst 5, 1) := by decide +kernel
theorem d_Mo_pattern_18 : decode prog_15_method_39_code 18 = .ok (.if_icmp .le 7, 3) := by decide +kernel
theorem d_Mo_pattern_25 : decode prog_15_method_39_code 25 = .ok (.iload_n 1, 1) := by decide +kernel
theorem d_Mo_pattern_26 : decode prog_15_method_39_code 26 = .ok (.iconst 2, 1) := by decide +kernel
theorem d_Mo_pattern_27 : decode prog_15_method_39_code 27 = .ok (.if_icmp .le 7, 3) := by decide +kernel
theorem d_Mo_pattern_34 : decode prog_15_method_39_code 34 = .ok (.iload_n 1, 1) := by decide +kernel
theorem d_Mo_pattern_35 : decode prog_15_method_39_code 35 = .ok (.iconst 1, 1) := by decide +kernel
theorem d_Mo_pattern_36 : decode prog_15_method_39_code 36 = .ok (.if_icmp .ne 8, 3) := by decide +kernel
theorem d_Mo_pattern_44 : decode prog_15_method_39_code 44 = .ok (.bipush 9, 2) := by decide +kernel
theorem d_Mo_pattern_46 : decode prog_15_method_39_code 46 = .ok (.ireturn, 1) := by decide +kernel
theorem d_Mo_pattern_39 : decode prog_15_method_39_code 39 = .ok (.bipush 99, 2) := by decide +kernel
theorem d_Mo_pattern_41 : decode prog_15_method_39_code 41 = .ok (.goto 5, 3) := by decide +kernel
theorem d_Mo_pattern_30 : decode prog_15_method_39_code 30 = .ok (.iconst 1, 1) := by decide +kernel
theorem d_Mo_pattern_31 : decode prog_15_method_39_code 31 = .ok (.goto 15, 3) := by decide +kernel
theorem d_Mo_pattern_21 : decode prog_15_method_39_code 21 = .ok (.iconst 0, 1) := by decide +kernel
theorem d_Mo_pattern_22 : decode prog_15_method_39_code 22 = .ok (.goto 24, 3) := by decide +kernel
theorem d_Mo_pattern_11 : decode prog_15_method_39_code 11 = .ok (.bipush 11, 2) := by decide +kernel
theorem d_Mo_pattern_13 : decode prog_15_method_39_code 13 = .ok (.goto 33, 3) := by decide +kernel
set_option maxHeartbeats 4000000 in
set_option maxRecDepth 100000 in
theorem m_pattern (l : Launch) (D : va_G) (T : Nat → ClassId) (h0 : Nat) (ar : Nat → Nat) (S : MS) (p0 : Int32) (sz : Nat) (hI : MI S) (h1 : 0 ≤ p0.toInt ∧ p0.toInt ≤ 71) : Met l ⟨"PageScribeModel", "pattern", "(I)I"⟩ (wy ⟨"PageScribeModel", "pattern", "(I)I"⟩ prog_15_method_39_code 2 (some .int)) ({ frames := 0, cells := 0, slots := 0, locals := 0 }) (va_Pc [.ref h0, .int p0] (Pw D T (mW T h0 ar S) sz E0)) (va_Qi (fun (r : Int32) (u : Unit) => r.toInt = pat p0.toInt) (fun u t => Bw D T (va_A (mW T h0 ar S) sz) (mW T h0 ar S) t) (va_A (mW T h0 ar S) sz)) 0 0 (va_A (mW T h0 ar S) sz) := by
  refine j_met (y := ⟨"PageScribeModel", "pattern", "(I)I"⟩) (b := prog_15_method_39_code) (n := 2) (ret := (some .int)) (av := [.ref h0, .int p0]) (Qc := fun A => va_Qi (fun (r : Int32) (u : Unit) => r.toInt = pat p0.toInt) (fun u t => Bw D T A (mW T h0 ar S) t) A) (by decide +kernel) (Nat.le_of_ble_eq_true rfl) (fun p e s m args below meth c A ls F hr hlocks hnm hK hP hD hS hA hN hE hl => ?_)
  obtain ⟨hx, hb, hml, hown, hts⟩ := id F
  have hl : lv_has ls 2 [(0, .ref h0), (1, .int p0)] := hl
  obtain ⟨i_size, i_taken, i_vals, i_room, i_dicts, i_deep, i_open, i_cells, i_points, i_part, i_length, i_knows, i_page, i_text, i_pats, i_fuel, i_fr, i_ink⟩ := id hI
  refine lv_iload_n hx hb d_Mo_pattern_0 rfl (lv_at hl 1 rfl) ?_
  refine lv_bipush (v := 10) hx hb d_Mo_pattern_1 (by decide) ?_
  refine lv_icmp_ge (tgt := 47) hx hb d_Mo_pattern_3 (by decide) (fun c3_1 => ?_) (fun c3_1 => ?_)
  · have fc3_1 : 10 ≤ p0.toInt := zt_le tI_10 (show p0.toInt = _ from rfl) c3_1
    refine lv_iload_n hx hb d_Mo_pattern_47 rfl (lv_at hl 1 rfl) ?_
    refine lv_bipush (v := 21) hx hb d_Mo_pattern_48 (by decide) ?_
    refine lv_icmp_ge (tgt := 77) hx hb d_Mo_pattern_50 (by decide) (fun c50_1 => ?_) (fun c50_1 => ?_)
    · have fc50_1 : 21 ≤ p0.toInt := zt_le tI_21 (show p0.toInt = _ from rfl) c50_1
      refine lv_iload_n hx hb d_Mo_pattern_77 rfl (lv_at hl 1 rfl) ?_
      refine lv_bipush (v := 37) hx hb d_Mo_pattern_78 (by decide) ?_
      refine lv_icmp_ge (tgt := 140) hx hb d_Mo_pattern_80 (by decide) (fun c80_1 => ?_) (fun c80_1 => ?_)
      · have fc80_1 : 37 ≤ p0.toInt := zt_le tI_37 (show p0.toInt = _ from rfl) c80_1
        refine lv_iload_n hx hb d_Mo_pattern_140 rfl (lv_at hl 1 rfl) ?_
        refine lv_bipush (v := 70) hx hb d_Mo_pattern_141 (by decide) ?_
        refine lv_icmp_ge (tgt := 158) hx hb d_Mo_pattern_143 (by decide) (fun c143_1 => ?_) (fun c143_1 => ?_)
        · have fc143_1 : 70 ≤ p0.toInt := zt_le tI_70 (show p0.toInt = _ from rfl) c143_1
          refine lv_iconst (v := 0) hx hb d_Mo_pattern_158 (by decide) ?_
          exact j_iret F hr hlocks hK hS () (show (0 : Int32).toInt = pat p0.toInt by have := tI_0; (unfold pat; repeat (first | rw [if_pos (by omega)] | rw [if_neg (by omega)])); omega) hP hD d_Mo_pattern_159
        · have fc143_1 : p0.toInt < 70 := Int.not_le.mp (zt_nle tI_70 (show p0.toInt = _ from rfl) c143_1)
          refine lv_aload_n hx hb d_Mo_pattern_146 rfl (lv_at hl 0 rfl) ?_
          refine va_get (D := D) (ci := 11) (v := .ref (ar 22)) (C := "PageScribeModel") (T := F_Mo) (N := 45) hx hb hts i_Mo hown hK hP 0 mW_0 cl_11 42 (by decide) (hts _ k_6_202) (fun _ h9 => h9) (mg_patterns _ _) d_Mo_pattern_147 ?_
          refine lv_iload_n hx hb d_Mo_pattern_150 rfl (lv_at hl 1 rfl) ?_
          refine lv_bipush (v := 37) hx hb d_Mo_pattern_151 (by decide) ?_
          refine lv_isub hx hb d_Mo_pattern_153 ?_
          refine lv_topi (fun x1 ex1 => ?_)
          have fx1 : x1.toInt = (p0.toInt - 37) := by rw [ex1]; exact (zt_sub (show p0.toInt = _ from rfl) tI_37 (by omega) (by omega)).trans (by omega)
          refine va_iald hx hb hK hP 23 0 (ma_patterns _ _ _ _) rfl (zt_in fx1 (by omega) (by omega)) d_Mo_pattern_154 ?_
          refine lv_topi (fun x2 ex2 => ?_)
          have gx2 : x2 = (a_patterns S) (p0.toInt - 37).toNat := ex2.trans (congrArg _ (zt_ix fx1))
          have fx2 : x2.toInt = ((a_patterns S) (p0.toInt - 37).toNat).toInt := by rw [gx2]
          have kx2 := i_pats ((p0.toInt - 37).toNat) (by omega)
          refine lv_goto (tgt := 159) hx hb d_Mo_pattern_155 (by decide) ?_
          exact j_iret F hr hlocks hK hS () (show x2.toInt = pat p0.toInt by (unfold pat; repeat (first | rw [if_pos (by omega)] | rw [if_neg (by omega)])); omega) hP hD d_Mo_pattern_159
      · have fc80_1 : p0.toInt < 37 := Int.not_le.mp (zt_nle tI_37 (show p0.toInt = _ from rfl) c80_1)
        refine lv_iload_n hx hb d_Mo_pattern_83 rfl (lv_at hl 1 rfl) ?_
        refine lv_bipush (v := 23) hx hb d_Mo_pattern_84 (by decide) ?_
        refine lv_icmp_ge (tgt := 93) hx hb d_Mo_pattern_86 (by decide) (fun c86_1 => ?_) (fun c86_1 => ?_)
        · have fc86_1 : 23 ≤ p0.toInt := zt_le tI_23 (show p0.toInt = _ from rfl) c86_1
          refine lv_iload_n hx hb d_Mo_pattern_93 rfl (lv_at hl 1 rfl) ?_
          refine lv_bipush (v := 25) hx hb d_Mo_pattern_94 (by decide) ?_
          refine lv_icmp_ge (tgt := 104) hx hb d_Mo_pattern_96 (by decide) (fun c96_1 => ?_) (fun c96_1 => ?_)
          · have fc96_1 : 25 ≤ p0.toInt := zt_le tI_25 (show p0.toInt = _ from rfl) c96_1
            refine lv_iload_n hx hb d_Mo_pattern_104 rfl (lv_at hl 1 rfl) ?_
            refine lv_bipush (v := 29) hx hb d_Mo_pattern_105 (by decide) ?_
            refine lv_icmp_ge (tgt := 115) hx hb d_Mo_pattern_107 (by decide) (fun c107_1 => ?_) (fun c107_1 => ?_)
            · have fc107_1 : 29 ≤ p0.toInt := zt_le tI_29 (show p0.toInt = _ from rfl) c107_1
              refine lv_iload_n hx hb d_Mo_pattern_115 rfl (lv_at hl 1 rfl) ?_
              refine lv_bipush (v := 31) hx hb d_Mo_pattern_116 (by decide) ?_
              refine lv_icmp_ge (tgt := 126) hx hb d_Mo_pattern_118 (by decide) (fun c118_1 => ?_) (fun c118_1 => ?_)
              · have fc118_1 : 31 ≤ p0.toInt := zt_le tI_31 (show p0.toInt = _ from rfl) c118_1
                refine lv_iload_n hx hb d_Mo_pattern_126 rfl (lv_at hl 1 rfl) ?_
                refine lv_bipush (v := 32) hx hb d_Mo_pattern_127 (by decide) ?_
                refine lv_icmp_ne (tgt := 137) hx hb d_Mo_pattern_129 (by decide) (fun c129_1 => ?_) (fun c129_1 => ?_)
                · have fc129_1 : ¬ p0.toInt = 32 := zt_ne (show p0.toInt = _ from rfl) tI_32 c129_1
                  refine lv_bipush (v := 9) hx hb d_Mo_pattern_137 (by decide) ?_
                  exact j_iret F hr hlocks hK hS () (show (9 : Int32).toInt = pat p0.toInt by have := tI_9; (unfold pat; repeat (first | rw [if_pos (by omega)] | rw [if_neg (by omega)])); omega) hP hD d_Mo_pattern_139
                · have fc129_1 : p0.toInt = 32 := zt_eq (show p0.toInt = _ from rfl) tI_32 c129_1
                  refine lv_bipush (v := 11) hx hb d_Mo_pattern_132 (by decide) ?_
                  refine lv_goto (tgt := 139) hx hb d_Mo_pattern_134 (by decide) ?_
                  exact j_iret F hr hlocks hK hS () (show (11 : Int32).toInt = pat p0.toInt by have := tI_11; (unfold pat; repeat (first | rw [if_pos (by omega)] | rw [if_neg (by omega)])); omega) hP hD d_Mo_pattern_139
              · have fc118_1 : p0.toInt < 31 := Int.not_le.mp (zt_nle tI_31 (show p0.toInt = _ from rfl) c118_1)
                refine lv_bipush (v := 99) hx hb d_Mo_pattern_121 (by decide) ?_
                refine lv_goto (tgt := 139) hx hb d_Mo_pattern_123 (by decide) ?_
                exact j_iret F hr hlocks hK hS () (show (99 : Int32).toInt = pat p0.toInt by have := tI_99; (unfold pat; repeat (first | rw [if_pos (by omega)] | rw [if_neg (by omega)])); omega) hP hD d_Mo_pattern_139
            · have fc107_1 : p0.toInt < 29 := Int.not_le.mp (zt_nle tI_29 (show p0.toInt = _ from rfl) c107_1)
              refine lv_bipush (v := 22) hx hb d_Mo_pattern_110 (by decide) ?_
              refine lv_goto (tgt := 139) hx hb d_Mo_pattern_112 (by decide) ?_
              exact j_iret F hr hlocks hK hS () (show (22 : Int32).toInt = pat p0.toInt by have := tI_22; (unfold pat; repeat (first | rw [if_pos (by omega)] | rw [if_neg (by omega)])); omega) hP hD d_Mo_pattern_139
          · have fc96_1 : p0.toInt < 25 := Int.not_le.mp (zt_nle tI_25 (show p0.toInt = _ from rfl) c96_1)
            refine lv_bipush (v := 99) hx hb d_Mo_pattern_99 (by decide) ?_
            refine lv_goto (tgt := 139) hx hb d_Mo_pattern_101 (by decide) ?_
            exact j_iret F hr hlocks hK hS () (show (99 : Int32).toInt = pat p0.toInt by have := tI_99; (unfold pat; repeat (first | rw [if_pos (by omega)] | rw [if_neg (by omega)])); omega) hP hD d_Mo_pattern_139
        · have fc86_1 : p0.toInt < 23 := Int.not_le.mp (zt_nle tI_23 (show p0.toInt = _ from rfl) c86_1)
          refine lv_iconst (v := 0) hx hb d_Mo_pattern_89 (by decide) ?_
          refine lv_goto (tgt := 139) hx hb d_Mo_pattern_90 (by decide) ?_
          exact j_iret F hr hlocks hK hS () (show (0 : Int32).toInt = pat p0.toInt by have := tI_0; (unfold pat; repeat (first | rw [if_pos (by omega)] | rw [if_neg (by omega)])); omega) hP hD d_Mo_pattern_139
    · have fc50_1 : p0.toInt < 21 := Int.not_le.mp (zt_nle tI_21 (show p0.toInt = _ from rfl) c50_1)
      refine lv_iload_n hx hb d_Mo_pattern_53 rfl (lv_at hl 1 rfl) ?_
      refine lv_bipush (v := 14) hx hb d_Mo_pattern_54 (by decide) ?_
      refine lv_icmp_ge (tgt := 64) hx hb d_Mo_pattern_56 (by decide) (fun c56_1 => ?_) (fun c56_1 => ?_)
      · have fc56_1 : 14 ≤ p0.toInt := zt_le tI_14 (show p0.toInt = _ from rfl) c56_1
        refine lv_iload_n hx hb d_Mo_pattern_64 rfl (lv_at hl 1 rfl) ?_
        refine lv_bipush (v := 16) hx hb d_Mo_pattern_65 (by decide) ?_
        refine lv_icmp_ge (tgt := 75) hx hb d_Mo_pattern_67 (by decide) (fun c67_1 => ?_) (fun c67_1 => ?_)
        · have fc67_1 : 16 ≤ p0.toInt := zt_le tI_16 (show p0.toInt = _ from rfl) c67_1
          refine lv_iconst (v := 2) hx hb d_Mo_pattern_75 (by decide) ?_
          exact j_iret F hr hlocks hK hS () (show (2 : Int32).toInt = pat p0.toInt by have := tI_2; (unfold pat; repeat (first | rw [if_pos (by omega)] | rw [if_neg (by omega)])); omega) hP hD d_Mo_pattern_76
        · have fc67_1 : p0.toInt < 16 := Int.not_le.mp (zt_nle tI_16 (show p0.toInt = _ from rfl) c67_1)
          refine lv_bipush (v := 11) hx hb d_Mo_pattern_70 (by decide) ?_
          refine lv_goto (tgt := 76) hx hb d_Mo_pattern_72 (by decide) ?_
          exact j_iret F hr hlocks hK hS () (show (11 : Int32).toInt = pat p0.toInt by have := tI_11; (unfold pat; repeat (first | rw [if_pos (by omega)] | rw [if_neg (by omega)])); omega) hP hD d_Mo_pattern_76
      · have fc56_1 : p0.toInt < 14 := Int.not_le.mp (zt_nle tI_14 (show p0.toInt = _ from rfl) c56_1)
        refine lv_bipush (v := 22) hx hb d_Mo_pattern_59 (by decide) ?_
        refine lv_goto (tgt := 76) hx hb d_Mo_pattern_61 (by decide) ?_
        exact j_iret F hr hlocks hK hS () (show (22 : Int32).toInt = pat p0.toInt by have := tI_22; (unfold pat; repeat (first | rw [if_pos (by omega)] | rw [if_neg (by omega)])); omega) hP hD d_Mo_pattern_76
  · have fc3_1 : p0.toInt < 10 := Int.not_le.mp (zt_nle tI_10 (show p0.toInt = _ from rfl) c3_1)
    refine lv_iload_n hx hb d_Mo_pattern_6 rfl (lv_at hl 1 rfl) ?_
    refine lv_iconst (v := 5) hx hb d_Mo_pattern_7 (by decide) ?_
    refine lv_icmp_ne (tgt := 16) hx hb d_Mo_pattern_8 (by decide) (fun c8_1 => ?_) (fun c8_1 => ?_)
    · have fc8_1 : ¬ p0.toInt = 5 := zt_ne (show p0.toInt = _ from rfl) tI_5 c8_1
      refine lv_iload_n hx hb d_Mo_pattern_16 rfl (lv_at hl 1 rfl) ?_
      refine lv_iconst (v := 5) hx hb d_Mo_pattern_17 (by decide) ?_
      refine lv_icmp_le (tgt := 25) hx hb d_Mo_pattern_18 (by decide) (fun c18_1 => ?_) (fun c18_1 => ?_)
      · have fc18_1 : p0.toInt ≤ 5 := zt_le (show p0.toInt = _ from rfl) tI_5 c18_1
        refine lv_iload_n hx hb d_Mo_pattern_25 rfl (lv_at hl 1 rfl) ?_
        refine lv_iconst (v := 2) hx hb d_Mo_pattern_26 (by decide) ?_
        refine lv_icmp_le (tgt := 34) hx hb d_Mo_pattern_27 (by decide) (fun c27_1 => ?_) (fun c27_1 => ?_)
        · have fc27_1 : p0.toInt ≤ 2 := zt_le (show p0.toInt = _ from rfl) tI_2 c27_1
          refine lv_iload_n hx hb d_Mo_pattern_34 rfl (lv_at hl 1 rfl) ?_
          refine lv_iconst (v := 1) hx hb d_Mo_pattern_35 (by decide) ?_
          refine lv_icmp_ne (tgt := 44) hx hb d_Mo_pattern_36 (by decide) (fun c36_1 => ?_) (fun c36_1 => ?_)
          · have fc36_1 : ¬ p0.toInt = 1 := zt_ne (show p0.toInt = _ from rfl) tI_1 c36_1
            refine lv_bipush (v := 9) hx hb d_Mo_pattern_44 (by decide) ?_
            exact j_iret F hr hlocks hK hS () (show (9 : Int32).toInt = pat p0.toInt by have := tI_9; (unfold pat; repeat (first | rw [if_pos (by omega)] | rw [if_neg (by omega)])); omega) hP hD d_Mo_pattern_46
          · have fc36_1 : p0.toInt = 1 := zt_eq (show p0.toInt = _ from rfl) tI_1 c36_1
            refine lv_bipush (v := 99) hx hb d_Mo_pattern_39 (by decide) ?_
            refine lv_goto (tgt := 46) hx hb d_Mo_pattern_41 (by decide) ?_
            exact j_iret F hr hlocks hK hS () (show (99 : Int32).toInt = pat p0.toInt by have := tI_99; (unfold pat; repeat (first | rw [if_pos (by omega)] | rw [if_neg (by omega)])); omega) hP hD d_Mo_pattern_46
        · have fc27_1 : 2 < p0.toInt := Int.not_le.mp (zt_nle (show p0.toInt = _ from rfl) tI_2 c27_1)
          refine lv_iconst (v := 1) hx hb d_Mo_pattern_30 (by decide) ?_
          refine lv_goto (tgt := 46) hx hb d_Mo_pattern_31 (by decide) ?_
          exact j_iret F hr hlocks hK hS () (show (1 : Int32).toInt = pat p0.toInt by have := tI_1; (unfold pat; repeat (first | rw [if_pos (by omega)] | rw [if_neg (by omega)])); omega) hP hD d_Mo_pattern_46
      · have fc18_1 : 5 < p0.toInt := Int.not_le.mp (zt_nle (show p0.toInt = _ from rfl) tI_5 c18_1)
        refine lv_iconst (v := 0) hx hb d_Mo_pattern_21 (by decide) ?_
        refine lv_goto (tgt := 46) hx hb d_Mo_pattern_22 (by decide) ?_
        exact j_iret F hr hlocks hK hS () (show (0 : Int32).toInt = pat p0.toInt by have := tI_0; (unfold pat; repeat (first | rw [if_pos (by omega)] | rw [if_neg (by omega)])); omega) hP hD d_Mo_pattern_46
    · have fc8_1 : p0.toInt = 5 := zt_eq (show p0.toInt = _ from rfl) tI_5 c8_1
      refine lv_bipush (v := 11) hx hb d_Mo_pattern_11 (by decide) ?_
      refine lv_goto (tgt := 46) hx hb d_Mo_pattern_13 (by decide) ?_
      exact j_iret F hr hlocks hK hS () (show (11 : Int32).toInt = pat p0.toInt by have := tI_11; (unfold pat; repeat (first | rw [if_pos (by omega)] | rw [if_neg (by omega)])); omega) hP hD d_Mo_pattern_46
