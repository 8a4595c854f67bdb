def othP (op : Int) (S : MS) : Prop := ((op = 29 ∨ op = 30) → (((a_kinds S) ((f_size S).toInt - 1).toNat).toInt % 8 = 0 ∨ ((a_kinds S) ((f_size S).toInt - 1).toNat).toInt % 8 = 2) ∧ ((a_kinds S) ((f_size S).toInt - 2).toNat).toInt % 8 = ((a_kinds S) ((f_size S).toInt - 1).toNat).toInt % 8) ∧ (op = 31 → ((a_kinds S) ((f_size S).toInt - 1).toNat).toInt % 8 = 0 ∨ ((a_kinds S) ((f_size S).toInt - 1).toNat).toInt % 8 = 2) ∧ (op = 38 → ((a_kinds S) ((f_size S).toInt - 1).toNat).toInt % 8 = 5 ∨ ((a_kinds S) ((f_size S).toInt - 1).toNat).toInt % 8 = 6) ∧ (op = 39 → ((a_kinds S) ((f_size S).toInt - 2).toNat).toInt % 8 = 5 ∨ ((a_kinds S) ((f_size S).toInt - 2).toNat).toInt % 8 = 6) ∧ (op = 40 → ((a_kinds S) ((f_size S).toInt - 3).toNat).toInt % 8 = 5 ∨ ((a_kinds S) ((f_size S).toInt - 3).toNat).toInt % 8 = 6)
theorem d_Mo_suitsOther_0 : decode prog_15_method_41_code 0 = .ok (.iload_n 1, 1) := by decide +kernel
theorem d_Mo_suitsOther_1 : decode prog_15_method_41_code 1 = .ok (.bipush 29, 2) := by decide +kernel
theorem d_Mo_suitsOther_3 : decode prog_15_method_41_code 3 = .ok (.if_icmp .lt 21, 3) := by decide +kernel
theorem d_Mo_suitsOther_24 : decode prog_15_method_41_code 24 = .ok (.iconst 1, 1) := by decide +kernel
theorem d_Mo_suitsOther_25 : decode prog_15_method_41_code 25 = .ok (.ireturn, 1) := by decide +kernel
theorem d_Mo_suitsOther_6 : decode prog_15_method_41_code 6 = .ok (.iload_n 1, 1) := by decide +kernel
theorem d_Mo_suitsOther_7 : decode prog_15_method_41_code 7 = .ok (.bipush 40, 2) := by decide +kernel
theorem d_Mo_suitsOther_9 : decode prog_15_method_41_code 9 = .ok (.if_icmp .gt 15, 3) := by decide +kernel
theorem d_Mo_suitsOther_12 : decode prog_15_method_41_code 12 = .ok (.iload_n 1, 1) := by decide +kernel
theorem d_Mo_suitsOther_13 : decode prog_15_method_41_code 13 = .ok (.bipush 31, 2) := by decide +kernel
theorem d_Mo_suitsOther_15 : decode prog_15_method_41_code 15 = .ok (.if_icmp .le 11, 3) := by decide +kernel
theorem d_Mo_suitsOther_26 : decode prog_15_method_41_code 26 = .ok (.aload_n 0, 1) := by decide +kernel
theorem d_Mo_suitsOther_27 : decode prog_15_method_41_code 27 = .ok (.getfield 247, 3) := by decide +kernel
theorem d_Mo_suitsOther_30 : decode prog_15_method_41_code 30 = .ok (.iconst 1, 1) := by decide +kernel
theorem d_Mo_suitsOther_31 : decode prog_15_method_41_code 31 = .ok (.isub, 1) := by decide +kernel
theorem d_Mo_suitsOther_32 : decode prog_15_method_41_code 32 = .ok (.istore_n 2, 1) := by decide +kernel
theorem d_Mo_suitsOther_33 : decode prog_15_method_41_code 33 = .ok (.aload_n 0, 1) := by decide +kernel
theorem d_Mo_suitsOther_34 : decode prog_15_method_41_code 34 = .ok (.iload_n 1, 1) := by decide +kernel
theorem d_Mo_suitsOther_35 : decode prog_15_method_41_code 35 = .ok (.bipush 40, 2) := by decide +kernel
theorem d_Mo_suitsOther_37 : decode prog_15_method_41_code 37 = .ok (.if_icmp .ne 9, 3) := by decide +kernel
theorem d_Mo_suitsOther_46 : decode prog_15_method_41_code 46 = .ok (.iload_n 1, 1) := by decide +kernel
theorem d_Mo_suitsOther_47 : decode prog_15_method_41_code 47 = .ok (.bipush 39, 2) := by decide +kernel
theorem d_Mo_suitsOther_49 : decode prog_15_method_41_code 49 = .ok (.if_icmp .ne 9, 3) := by decide +kernel
theorem tI_39 : (39 : Int32).toInt = 39 := by decide +kernel
theorem d_Mo_suitsOther_58 : decode prog_15_method_41_code 58 = .ok (.iload_n 2, 1) := by decide +kernel
theorem d_Mo_suitsOther_59 : decode prog_15_method_41_code 59 = .ok (.invokevirtual 421, 3) := by decide +kernel
theorem d_Mo_suitsOther_62 : decode prog_15_method_41_code 62 = .ok (.istore_n 3, 1) := by decide +kernel
theorem d_Mo_suitsOther_63 : decode prog_15_method_41_code 63 = .ok (.iload_n 1, 1) := by decide +kernel
theorem d_Mo_suitsOther_64 : decode prog_15_method_41_code 64 = .ok (.bipush 40, 2) := by decide +kernel
theorem d_Mo_suitsOther_66 : decode prog_15_method_41_code 66 = .ok (.if_icmp .ne 13, 3) := by decide +kernel
theorem d_Mo_suitsOther_79 : decode prog_15_method_41_code 79 = .ok (.aload_n 0, 1) := by decide +kernel
theorem d_Mo_suitsOther_80 : decode prog_15_method_41_code 80 = .ok (.iload_n 2, 1) := by decide +kernel
theorem d_Mo_suitsOther_81 : decode prog_15_method_41_code 81 = .ok (.invokevirtual 421, 3) := by decide +kernel
theorem d_Mo_suitsOther_84 : decode prog_15_method_41_code 84 = .ok (.istore 4, 2) := by decide +kernel
theorem d_Mo_suitsOther_86 : decode prog_15_method_41_code 86 = .ok (.iload_n 1, 1) := by decide +kernel
theorem d_Mo_suitsOther_87 : decode prog_15_method_41_code 87 = .ok (.bipush 29, 2) := by decide +kernel
theorem d_Mo_suitsOther_89 : decode prog_15_method_41_code 89 = .ok (.if_icmp .eq 9, 3) := by decide +kernel
theorem d_Mo_suitsOther_98 : decode prog_15_method_41_code 98 = .ok (.iload_n 3, 1) := by decide +kernel
theorem d_Mo_suitsOther_99 : decode prog_15_method_41_code 99 = .ok (.iconst 2, 1) := by decide +kernel
theorem d_Mo_suitsOther_100 : decode prog_15_method_41_code 100 = .ok (.if_icmp .eq 7, 3) := by decide +kernel
theorem d_Mo_suitsOther_107 : decode prog_15_method_41_code 107 = .ok (.aload_n 0, 1) := by decide +kernel
theorem d_Mo_suitsOther_108 : decode prog_15_method_41_code 108 = .ok (.iload_n 2, 1) := by decide +kernel
theorem d_Mo_suitsOther_109 : decode prog_15_method_41_code 109 = .ok (.iconst 1, 1) := by decide +kernel
theorem d_Mo_suitsOther_110 : decode prog_15_method_41_code 110 = .ok (.isub, 1) := by decide +kernel
theorem d_Mo_suitsOther_111 : decode prog_15_method_41_code 111 = .ok (.invokevirtual 421, 3) := by decide +kernel
theorem d_Mo_suitsOther_114 : decode prog_15_method_41_code 114 = .ok (.iload_n 3, 1) := by decide +kernel
theorem d_Mo_suitsOther_115 : decode prog_15_method_41_code 115 = .ok (.if_icmp .ne 7, 3) := by decide +kernel
theorem d_Mo_suitsOther_122 : decode prog_15_method_41_code 122 = .ok (.iconst 0, 1) := by decide +kernel
theorem d_Mo_suitsOther_123 : decode prog_15_method_41_code 123 = .ok (.ireturn, 1) := by decide +kernel
theorem d_Mo_suitsOther_118 : decode prog_15_method_41_code 118 = .ok (.iconst 1, 1) := by decide +kernel
theorem d_Mo_suitsOther_119 : decode prog_15_method_41_code 119 = .ok (.goto 4, 3) := by decide +kernel
theorem d_Mo_suitsOther_103 : decode prog_15_method_41_code 103 = .ok (.iload_n 3, 1) := by decide +kernel
theorem d_Mo_suitsOther_104 : decode prog_15_method_41_code 104 = .ok (.ifCond .ne 18, 3) := by decide +kernel
theorem d_Mo_suitsOther_92 : decode prog_15_method_41_code 92 = .ok (.iload_n 1, 1) := by decide +kernel
theorem d_Mo_suitsOther_93 : decode prog_15_method_41_code 93 = .ok (.bipush 30, 2) := by decide +kernel
theorem d_Mo_suitsOther_95 : decode prog_15_method_41_code 95 = .ok (.if_icmp .ne 29, 3) := by decide +kernel
theorem d_Mo_suitsOther_124 : decode prog_15_method_41_code 124 = .ok (.iload_n 1, 1) := by decide +kernel
theorem d_Mo_suitsOther_125 : decode prog_15_method_41_code 125 = .ok (.bipush 31, 2) := by decide +kernel
theorem d_Mo_suitsOther_127 : decode prog_15_method_41_code 127 = .ok (.if_icmp .ne 18, 3) := by decide +kernel
theorem d_Mo_suitsOther_145 : decode prog_15_method_41_code 145 = .ok (.iload_n 1, 1) := by decide +kernel
theorem d_Mo_suitsOther_146 : decode prog_15_method_41_code 146 = .ok (.bipush 38, 2) := by decide +kernel
theorem d_Mo_suitsOther_148 : decode prog_15_method_41_code 148 = .ok (.if_icmp .ne 20, 3) := by decide +kernel
theorem tI_38 : (38 : Int32).toInt = 38 := by decide +kernel
theorem d_Mo_suitsOther_168 : decode prog_15_method_41_code 168 = .ok (.iload_n 3, 1) := by decide +kernel
theorem d_Mo_suitsOther_169 : decode prog_15_method_41_code 169 = .ok (.iconst 5, 1) := by decide +kernel
theorem d_Mo_suitsOther_170 : decode prog_15_method_41_code 170 = .ok (.if_icmp .ne 8, 3) := by decide +kernel
theorem d_Mo_suitsOther_178 : decode prog_15_method_41_code 178 = .ok (.iload_n 3, 1) := by decide +kernel
theorem d_Mo_suitsOther_179 : decode prog_15_method_41_code 179 = .ok (.bipush 6, 2) := by decide +kernel
theorem d_Mo_suitsOther_181 : decode prog_15_method_41_code 181 = .ok (.if_icmp .ne 13, 3) := by decide +kernel
theorem d_Mo_suitsOther_194 : decode prog_15_method_41_code 194 = .ok (.iconst 0, 1) := by decide +kernel
theorem d_Mo_suitsOther_195 : decode prog_15_method_41_code 195 = .ok (.ireturn, 1) := by decide +kernel
theorem d_Mo_suitsOther_184 : decode prog_15_method_41_code 184 = .ok (.iload 4, 2) := by decide +kernel
theorem d_Mo_suitsOther_186 : decode prog_15_method_41_code 186 = .ok (.iconst 3, 1) := by decide +kernel
theorem d_Mo_suitsOther_187 : decode prog_15_method_41_code 187 = .ok (.if_icmp .ne 7, 3) := by decide +kernel
theorem d_Mo_suitsOther_190 : decode prog_15_method_41_code 190 = .ok (.iconst 1, 1) := by decide +kernel
theorem d_Mo_suitsOther_191 : decode prog_15_method_41_code 191 = .ok (.goto 4, 3) := by decide +kernel
theorem d_Mo_suitsOther_173 : decode prog_15_method_41_code 173 = .ok (.iload 4, 2) := by decide +kernel
theorem d_Mo_suitsOther_175 : decode prog_15_method_41_code 175 = .ok (.ifCond .eq 15, 3) := by decide +kernel
theorem d_Mo_suitsOther_151 : decode prog_15_method_41_code 151 = .ok (.iload_n 3, 1) := by decide +kernel
theorem d_Mo_suitsOther_152 : decode prog_15_method_41_code 152 = .ok (.iconst 5, 1) := by decide +kernel
theorem d_Mo_suitsOther_153 : decode prog_15_method_41_code 153 = .ok (.if_icmp .eq 9, 3) := by decide +kernel
theorem d_Mo_suitsOther_162 : decode prog_15_method_41_code 162 = .ok (.iconst 1, 1) := by decide +kernel
theorem d_Mo_suitsOther_163 : decode prog_15_method_41_code 163 = .ok (.goto 4, 3) := by decide +kernel
theorem d_Mo_suitsOther_167 : decode prog_15_method_41_code 167 = .ok (.ireturn, 1) := by decide +kernel
theorem d_Mo_suitsOther_156 : decode prog_15_method_41_code 156 = .ok (.iload_n 3, 1) := by decide +kernel
theorem d_Mo_suitsOther_157 : decode prog_15_method_41_code 157 = .ok (.bipush 6, 2) := by decide +kernel
theorem d_Mo_suitsOther_159 : decode prog_15_method_41_code 159 = .ok (.if_icmp .ne 7, 3) := by decide +kernel
theorem d_Mo_suitsOther_166 : decode prog_15_method_41_code 166 = .ok (.iconst 0, 1) := by decide +kernel
theorem d_Mo_suitsOther_130 : decode prog_15_method_41_code 130 = .ok (.iload_n 3, 1) := by decide +kernel
theorem d_Mo_suitsOther_131 : decode prog_15_method_41_code 131 = .ok (.iconst 2, 1) := by decide +kernel
theorem d_Mo_suitsOther_132 : decode prog_15_method_41_code 132 = .ok (.if_icmp .eq 7, 3) := by decide +kernel
theorem d_Mo_suitsOther_139 : decode prog_15_method_41_code 139 = .ok (.iconst 1, 1) := by decide +kernel
theorem d_Mo_suitsOther_140 : decode prog_15_method_41_code 140 = .ok (.goto 4, 3) := by decide +kernel
theorem d_Mo_suitsOther_144 : decode prog_15_method_41_code 144 = .ok (.ireturn, 1) := by decide +kernel
theorem d_Mo_suitsOther_135 : decode prog_15_method_41_code 135 = .ok (.iload_n 3, 1) := by decide +kernel
theorem d_Mo_suitsOther_136 : decode prog_15_method_41_code 136 = .ok (.ifCond .ne 7, 3) := by decide +kernel
theorem d_Mo_suitsOther_143 : decode prog_15_method_41_code 143 = .ok (.iconst 0, 1) := by decide +kernel
theorem d_Mo_suitsOther_69 : decode prog_15_method_41_code 69 = .ok (.aload_n 0, 1) := by decide +kernel
theorem d_Mo_suitsOther_70 : decode prog_15_method_41_code 70 = .ok (.iload_n 2, 1) := by decide +kernel
theorem d_Mo_suitsOther_71 : decode prog_15_method_41_code 71 = .ok (.iconst 1, 1) := by decide +kernel
theorem d_Mo_suitsOther_72 : decode prog_15_method_41_code 72 = .ok (.isub, 1) := by decide +kernel
theorem d_Mo_suitsOther_73 : decode prog_15_method_41_code 73 = .ok (.invokevirtual 421, 3) := by decide +kernel
theorem d_Mo_suitsOther_76 : decode prog_15_method_41_code 76 = .ok (.goto 8, 3) := by decide +kernel
theorem d_Mo_suitsOther_52 : decode prog_15_method_41_code 52 = .ok (.iload_n 2, 1) := by decide +kernel
theorem d_Mo_suitsOther_53 : decode prog_15_method_41_code 53 = .ok (.iconst 1, 1) := by decide +kernel
theorem d_Mo_suitsOther_54 : decode prog_15_method_41_code 54 = .ok (.isub, 1) := by decide +kernel
theorem d_Mo_suitsOther_55 : decode prog_15_method_41_code 55 = .ok (.goto 4, 3) := by decide +kernel
theorem d_Mo_suitsOther_40 : decode prog_15_method_41_code 40 = .ok (.iload_n 2, 1) := by decide +kernel
theorem d_Mo_suitsOther_41 : decode prog_15_method_41_code 41 = .ok (.iconst 2, 1) := by decide +kernel
theorem d_Mo_suitsOther_42 : decode prog_15_method_41_code 42 = .ok (.isub, 1) := by decide +kernel
theorem d_Mo_suitsOther_43 : decode prog_15_method_41_code 43 = .ok (.goto 16, 3) := by decide +kernel
theorem d_Mo_suitsOther_18 : decode prog_15_method_41_code 18 = .ok (.iload_n 1, 1) := by decide +kernel
theorem d_Mo_suitsOther_19 : decode prog_15_method_41_code 19 = .ok (.bipush 38, 2) := by decide +kernel
theorem d_Mo_suitsOther_21 : decode prog_15_method_41_code 21 = .ok (.if_icmp .ge 5, 3) := by decide +kernel
set_option maxHeartbeats 4000000 in
set_option maxRecDepth 100000 in
theorem m_suitsOther (l : Launch) (D : va_G) (T : Nat → ClassId) (h0 : Nat) (ar : Nat → Nat) (S : MS) (p0 : Int32) (sz : Nat) (hI : MI S) (h1 : 0 ≤ p0.toInt ∧ p0.toInt ≤ 71) (h2 : 29 ≤ p0.toInt → p0.toInt ≤ 40 → 1 ≤ (f_size S).toInt) (h3 : (p0.toInt = 29 ∨ p0.toInt = 30 ∨ p0.toInt = 39) → 2 ≤ (f_size S).toInt) (h4 : p0.toInt = 40 → 3 ≤ (f_size S).toInt) : Met l ⟨"PageScribeModel", "suitsOther", "(I)Z"⟩ (wy ⟨"PageScribeModel", "suitsOther", "(I)Z"⟩ prog_15_method_41_code 5 (some .boolean)) ({ frames := 1, cells := 0, slots := 0, locals := 70 }) (va_Pc [.ref h0, .int p0] (Pw D T (mW T h0 ar S) sz E0)) (va_Qi (fun (r : Int32) (u : Unit) => (r.toInt = 1 ∧ othP p0.toInt S) ∨ r.toInt = 0) (fun u t => Bw D T (va_A (mW T h0 ar S) sz) (mW T h0 ar S) t) (va_A (mW T h0 ar S) sz)) 0 0 (va_A (mW T h0 ar S) sz) := by
  refine j_met (y := ⟨"PageScribeModel", "suitsOther", "(I)Z"⟩) (b := prog_15_method_41_code) (n := 5) (ret := (some .boolean)) (av := [.ref h0, .int p0]) (Qc := fun A => va_Qi (fun (r : Int32) (u : Unit) => (r.toInt = 1 ∧ othP p0.toInt S) ∨ r.toInt = 0) (fun u t => Bw D T A (mW T h0 ar S) t) A) (by decide +kernel) (Nat.le_of_ble_eq_true rfl) (fun p e s m args below meth c A ls F hr hlocks hnm hK hP hD hS hA hN hE hl => ?_)
  obtain ⟨hx, hb, hml, hown, hts⟩ := id F
  have hl : lv_has ls 5 [(0, .ref h0), (1, .int p0)] := hl
  obtain ⟨i_size, i_taken, i_vals, i_room, i_dicts, i_deep, i_open, i_cells, i_points, i_part, i_length, i_knows, i_page, i_text, i_pats, i_fuel, i_fr, i_ink⟩ := id hI
  refine lv_iload_n hx hb d_Mo_suitsOther_0 rfl (lv_at hl 1 rfl) ?_
  refine lv_bipush (v := 29) hx hb d_Mo_suitsOther_1 (by decide) ?_
  refine lv_icmp_lt (tgt := 24) hx hb d_Mo_suitsOther_3 (by decide) (fun c3_1 => ?_) (fun c3_1 => ?_)
  · have fc3_1 : p0.toInt < 29 := zt_lt (show p0.toInt = _ from rfl) tI_29 c3_1
    refine lv_iconst (v := 1) hx hb d_Mo_suitsOther_24 (by decide) ?_
    exact j_zret F hr (by decide +kernel) hlocks hK hS () (show ((1 : Int32).toInt = 1 ∧ othP p0.toInt S) ∨ (1 : Int32).toInt = 0 by have := tI_1; first | (right; omega) | (left; refine ⟨by omega, ?_⟩; unfold othP; refine ⟨fun q => ?_, fun q => ?_, fun q => ?_, fun q => ?_, fun q => ?_⟩ <;> omega)) hP hD d_Mo_suitsOther_25
  · have fc3_1 : 29 ≤ p0.toInt := Int.not_lt.mp (zt_nlt (show p0.toInt = _ from rfl) tI_29 c3_1)
    refine lv_iload_n hx hb d_Mo_suitsOther_6 rfl (lv_at hl 1 rfl) ?_
    refine lv_bipush (v := 40) hx hb d_Mo_suitsOther_7 (by decide) ?_
    refine lv_icmp_gt (tgt := 24) hx hb d_Mo_suitsOther_9 (by decide) (fun c9_1 => ?_) (fun c9_1 => ?_)
    · have fc9_1 : 40 < p0.toInt := zt_lt tI_40 (show p0.toInt = _ from rfl) c9_1
      refine lv_iconst (v := 1) hx hb d_Mo_suitsOther_24 (by decide) ?_
      exact j_zret F hr (by decide +kernel) hlocks hK hS () (show ((1 : Int32).toInt = 1 ∧ othP p0.toInt S) ∨ (1 : Int32).toInt = 0 by have := tI_1; first | (right; omega) | (left; refine ⟨by omega, ?_⟩; unfold othP; refine ⟨fun q => ?_, fun q => ?_, fun q => ?_, fun q => ?_, fun q => ?_⟩ <;> omega)) hP hD d_Mo_suitsOther_25
    · have fc9_1 : p0.toInt ≤ 40 := Int.not_lt.mp (zt_nlt tI_40 (show p0.toInt = _ from rfl) c9_1)
      refine lv_iload_n hx hb d_Mo_suitsOther_12 rfl (lv_at hl 1 rfl) ?_
      refine lv_bipush (v := 31) hx hb d_Mo_suitsOther_13 (by decide) ?_
      refine lv_icmp_le (tgt := 26) hx hb d_Mo_suitsOther_15 (by decide) (fun c15_1 => ?_) (fun c15_1 => ?_)
      · have fc15_1 : p0.toInt ≤ 31 := zt_le (show p0.toInt = _ from rfl) tI_31 c15_1
        refine lv_aload_n hx hb d_Mo_suitsOther_26 rfl (lv_at hl 0 rfl) ?_
        refine va_get (D := D) (ci := 11) (v := .int (f_size S)) (C := "PageScribeModel") (T := F_Mo) (N := 45) hx hb hts i_Mo hown hK hP 0 mW_0 cl_11 4 (by decide) (hts _ k_6_164) (fun _ h9 => h9) (mg_size _ _) d_Mo_suitsOther_27 ?_
        refine lv_iconst (v := 1) hx hb d_Mo_suitsOther_30 (by decide) ?_
        refine lv_isub hx hb d_Mo_suitsOther_31 ?_
        refine lv_topi (fun x1 ex1 => ?_)
        have fx1 : x1.toInt = ((f_size S).toInt - 1) := by rw [ex1]; exact (zt_sub (show (f_size S).toInt = _ from rfl) tI_1 (by omega) (by omega)).trans (by omega)
        refine lv_istore_n (lv' := [(2, .int x1), (0, .ref h0), (1, .int p0)]) hx hb d_Mo_suitsOther_32 rfl hl (by decide) rfl (fun ls hl => ?_)
        refine lv_aload_n hx hb d_Mo_suitsOther_33 rfl (lv_at hl 1 rfl) ?_
        refine lv_iload_n hx hb d_Mo_suitsOther_34 rfl (lv_at hl 2 rfl) ?_
        refine lv_bipush (v := 40) hx hb d_Mo_suitsOther_35 (by decide) ?_
        refine lv_icmp_ne (tgt := 46) hx hb d_Mo_suitsOther_37 (by decide) (fun c37_1 => ?_) (fun c37_1 => ?_)
        · have fc37_1 : ¬ p0.toInt = 40 := zt_ne (show p0.toInt = _ from rfl) tI_40 c37_1
          refine lv_iload_n hx hb d_Mo_suitsOther_46 rfl (lv_at hl 2 rfl) ?_
          refine lv_bipush (v := 39) hx hb d_Mo_suitsOther_47 (by decide) ?_
          refine lv_icmp_ne (tgt := 58) hx hb d_Mo_suitsOther_49 (by decide) (fun c49_1 => ?_) (fun c49_1 => ?_)
          · have fc49_1 : ¬ p0.toInt = 39 := zt_ne (show p0.toInt = _ from rfl) tI_39 c49_1
            refine lv_iload_n hx hb d_Mo_suitsOther_58 rfl (lv_at hl 0 rfl) ?_
            have kv1 : vOk ((a_kinds S) (((f_size S).toInt - 1).toNat)) ((a_codes S) (((f_size S).toInt - 1).toNat)) ((a_reals S) (((f_size S).toInt - 1).toNat)) := i_vals (((f_size S).toInt - 1).toNat) (by omega)
            have rkv1 := vk_rng kv1
            refine jm_ci (w := (fun _ => S)) hK hP hD hS hA (va_runV (As := [.int x1]) (rest := []) F (m_kindOf l D T h0 ar S x1 s.heap.size (show 0 ≤ x1.toInt ∧ x1.toInt < 1300 by first | omega | (simp only [fx1]; omega)) (show 0 ≤ ((a_kinds S) x1.toInt.toNat).toInt by first | omega | (simp only [fx1]; omega))) (j_cV (k := 1) (C := "PageScribeModel") hts k_7_174 k_1_12 k_7_171 k_7_173 k_0_102 (by decide +kernel) ⟨Nat.le_of_ble_eq_true rfl, Nat.le_of_ble_eq_true rfl⟩) (jm_pre hK hP hD) rfl rfl hl.1 rfl (lv_room (Nat.le_of_ble_eq_true rfl)) d_Mo_suitsOther_59 ⟨Nat.le_of_ble_eq_true rfl, Nat.le_of_ble_eq_true rfl⟩) (fun rv1 u1 H locs hw1 hP hD hS => ?_)
            have hP : va_P D classes (mW T h0 ar S) H := hP
            have hD : va_D A (mW T h0 ar S) := hD
            have qhw1 : rv1.toInt = ((a_kinds S) ((f_size S).toInt - 1).toNat).toInt % 8 := by simpa only [fx1] using hw1
            refine lv_istore_n (lv' := [(3, .int rv1), (2, .int x1), (0, .ref h0), (1, .int p0)]) hx hb d_Mo_suitsOther_62 rfl hl (by decide) rfl (fun ls hl => ?_)
            refine lv_iload_n hx hb d_Mo_suitsOther_63 rfl (lv_at hl 3 rfl) ?_
            refine lv_bipush (v := 40) hx hb d_Mo_suitsOther_64 (by decide) ?_
            refine lv_icmp_ne (tgt := 79) hx hb d_Mo_suitsOther_66 (by decide) (fun c66_1 => ?_) (fun c66_1 => ?_)
            · have fc66_1 : ¬ p0.toInt = 40 := zt_ne (show p0.toInt = _ from rfl) tI_40 c66_1
              refine lv_aload_n hx hb d_Mo_suitsOther_79 rfl (lv_at hl 2 rfl) ?_
              refine lv_iload_n hx hb d_Mo_suitsOther_80 rfl (lv_at hl 1 rfl) ?_
              refine jm_ci (w := (fun _ => S)) hK hP hD hS hA (va_runV (As := [.int x1]) (rest := []) F (m_kindOf l D T h0 ar S x1 H.size (show 0 ≤ x1.toInt ∧ x1.toInt < 1300 by first | omega | (simp only [fx1]; omega)) (show 0 ≤ ((a_kinds S) x1.toInt.toNat).toInt by first | omega | (simp only [fx1]; omega))) (j_cV (k := 1) (C := "PageScribeModel") hts k_7_174 k_1_12 k_7_171 k_7_173 k_0_102 (by decide +kernel) ⟨Nat.le_of_ble_eq_true rfl, Nat.le_of_ble_eq_true rfl⟩) (jm_pre hK hP hD) rfl rfl hl.1 rfl (lv_room (Nat.le_of_ble_eq_true rfl)) d_Mo_suitsOther_81 ⟨Nat.le_of_ble_eq_true rfl, Nat.le_of_ble_eq_true rfl⟩) (fun rv2 u2 H locs hw2 hP hD hS => ?_)
              have hP : va_P D classes (mW T h0 ar S) H := hP
              have hD : va_D A (mW T h0 ar S) := hD
              have qhw2 : rv2.toInt = ((a_kinds S) ((f_size S).toInt - 1).toNat).toInt % 8 := by simpa only [fx1] using hw2
              refine lv_istore (lv' := [(4, .int rv2), (3, .int rv1), (2, .int x1), (0, .ref h0), (1, .int p0)]) hx hb d_Mo_suitsOther_84 hl (by decide) rfl (fun ls hl => ?_)
              refine lv_iload_n hx hb d_Mo_suitsOther_86 rfl (lv_at hl 4 rfl) ?_
              refine lv_bipush (v := 29) hx hb d_Mo_suitsOther_87 (by decide) ?_
              refine lv_icmp_eq (tgt := 98) hx hb d_Mo_suitsOther_89 (by decide) (fun c89_1 => ?_) (fun c89_1 => ?_)
              · have fc89_1 : p0.toInt = 29 := zt_eq (show p0.toInt = _ from rfl) tI_29 c89_1
                refine lv_iload_n hx hb d_Mo_suitsOther_98 rfl (lv_at hl 1 rfl) ?_
                refine lv_iconst (v := 2) hx hb d_Mo_suitsOther_99 (by decide) ?_
                refine lv_icmp_eq (tgt := 107) hx hb d_Mo_suitsOther_100 (by decide) (fun c100_1 => ?_) (fun c100_1 => ?_)
                · have fc100_1 : rv1.toInt = 2 := zt_eq (show rv1.toInt = _ from rfl) tI_2 c100_1
                  refine lv_aload_n hx hb d_Mo_suitsOther_107 rfl (lv_at hl 3 rfl) ?_
                  refine lv_iload_n hx hb d_Mo_suitsOther_108 rfl (lv_at hl 2 rfl) ?_
                  refine lv_iconst (v := 1) hx hb d_Mo_suitsOther_109 (by decide) ?_
                  refine lv_isub hx hb d_Mo_suitsOther_110 ?_
                  refine lv_topi (fun x2 ex2 => ?_)
                  have fx2 : x2.toInt = ((f_size S).toInt - 2) := by rw [ex2]; exact (zt_sub fx1 tI_1 (by omega) (by omega)).trans (by omega)
                  have kv2 : vOk ((a_kinds S) (((f_size S).toInt - 2).toNat)) ((a_codes S) (((f_size S).toInt - 2).toNat)) ((a_reals S) (((f_size S).toInt - 2).toNat)) := i_vals (((f_size S).toInt - 2).toNat) (by omega)
                  have rkv2 := vk_rng kv2
                  refine jm_ci (w := (fun _ => S)) hK hP hD hS hA (va_runV (As := [.int x2]) (rest := []) F (m_kindOf l D T h0 ar S x2 H.size (show 0 ≤ x2.toInt ∧ x2.toInt < 1300 by first | omega | (simp only [fx2]; omega)) (show 0 ≤ ((a_kinds S) x2.toInt.toNat).toInt by first | omega | (simp only [fx2]; omega))) (j_cV (k := 1) (C := "PageScribeModel") hts k_7_174 k_1_12 k_7_171 k_7_173 k_0_102 (by decide +kernel) ⟨Nat.le_of_ble_eq_true rfl, Nat.le_of_ble_eq_true rfl⟩) (jm_pre hK hP hD) rfl rfl hl.1 rfl (lv_room (Nat.le_of_ble_eq_true rfl)) d_Mo_suitsOther_111 ⟨Nat.le_of_ble_eq_true rfl, Nat.le_of_ble_eq_true rfl⟩) (fun rv3 u3 H locs hw3 hP hD hS => ?_)
                  have hP : va_P D classes (mW T h0 ar S) H := hP
                  have hD : va_D A (mW T h0 ar S) := hD
                  have qhw3 : rv3.toInt = ((a_kinds S) ((f_size S).toInt - 2).toNat).toInt % 8 := by simpa only [fx2] using hw3
                  refine lv_iload_n hx hb d_Mo_suitsOther_114 rfl (lv_at hl 1 rfl) ?_
                  refine lv_icmp_ne (tgt := 122) hx hb d_Mo_suitsOther_115 (by decide) (fun c115_1 => ?_) (fun c115_1 => ?_)
                  · have fc115_1 : ¬ rv3.toInt = rv1.toInt := zt_ne (show rv3.toInt = _ from rfl) (show rv1.toInt = _ from rfl) c115_1
                    refine lv_iconst (v := 0) hx hb d_Mo_suitsOther_122 (by decide) ?_
                    exact j_zret F hr (by decide +kernel) hlocks hK hS () (show ((0 : Int32).toInt = 1 ∧ othP p0.toInt S) ∨ (0 : Int32).toInt = 0 by have := tI_0; first | (right; omega) | (left; refine ⟨by omega, ?_⟩; unfold othP; refine ⟨fun q => ?_, fun q => ?_, fun q => ?_, fun q => ?_, fun q => ?_⟩ <;> omega)) hP hD d_Mo_suitsOther_123
                  · have fc115_1 : rv3.toInt = rv1.toInt := zt_eq (show rv3.toInt = _ from rfl) (show rv1.toInt = _ from rfl) c115_1
                    refine lv_iconst (v := 1) hx hb d_Mo_suitsOther_118 (by decide) ?_
                    refine lv_goto (tgt := 123) hx hb d_Mo_suitsOther_119 (by decide) ?_
                    exact j_zret F hr (by decide +kernel) hlocks hK hS () (show ((1 : Int32).toInt = 1 ∧ othP p0.toInt S) ∨ (1 : Int32).toInt = 0 by have := tI_1; first | (right; omega) | (left; refine ⟨by omega, ?_⟩; unfold othP; refine ⟨fun q => ?_, fun q => ?_, fun q => ?_, fun q => ?_, fun q => ?_⟩ <;> omega)) hP hD d_Mo_suitsOther_123
                · have fc100_1 : ¬ rv1.toInt = 2 := zt_ne (show rv1.toInt = _ from rfl) tI_2 c100_1
                  refine lv_iload_n hx hb d_Mo_suitsOther_103 rfl (lv_at hl 1 rfl) ?_
                  refine lv_if_ne (tgt := 122) hx hb d_Mo_suitsOther_104 (by decide) (fun c104_1 => ?_) (fun c104_1 => ?_)
                  · have fc104_1 : ¬ rv1.toInt = 0 := zt_ne (show rv1.toInt = _ from rfl) tI_0 c104_1
                    refine lv_iconst (v := 0) hx hb d_Mo_suitsOther_122 (by decide) ?_
                    exact j_zret F hr (by decide +kernel) hlocks hK hS () (show ((0 : Int32).toInt = 1 ∧ othP p0.toInt S) ∨ (0 : Int32).toInt = 0 by have := tI_0; first | (right; omega) | (left; refine ⟨by omega, ?_⟩; unfold othP; refine ⟨fun q => ?_, fun q => ?_, fun q => ?_, fun q => ?_, fun q => ?_⟩ <;> omega)) hP hD d_Mo_suitsOther_123
                  · have fc104_1 : rv1.toInt = 0 := zt_eq (show rv1.toInt = _ from rfl) tI_0 c104_1
                    refine lv_aload_n hx hb d_Mo_suitsOther_107 rfl (lv_at hl 3 rfl) ?_
                    refine lv_iload_n hx hb d_Mo_suitsOther_108 rfl (lv_at hl 2 rfl) ?_
                    refine lv_iconst (v := 1) hx hb d_Mo_suitsOther_109 (by decide) ?_
                    refine lv_isub hx hb d_Mo_suitsOther_110 ?_
                    refine lv_topi (fun x3 ex3 => ?_)
                    have fx3 : x3.toInt = ((f_size S).toInt - 2) := by rw [ex3]; exact (zt_sub fx1 tI_1 (by omega) (by omega)).trans (by omega)
                    have kv3 : vOk ((a_kinds S) (((f_size S).toInt - 2).toNat)) ((a_codes S) (((f_size S).toInt - 2).toNat)) ((a_reals S) (((f_size S).toInt - 2).toNat)) := i_vals (((f_size S).toInt - 2).toNat) (by omega)
                    have rkv3 := vk_rng kv3
                    refine jm_ci (w := (fun _ => S)) hK hP hD hS hA (va_runV (As := [.int x3]) (rest := []) F (m_kindOf l D T h0 ar S x3 H.size (show 0 ≤ x3.toInt ∧ x3.toInt < 1300 by first | omega | (simp only [fx3]; omega)) (show 0 ≤ ((a_kinds S) x3.toInt.toNat).toInt by first | omega | (simp only [fx3]; omega))) (j_cV (k := 1) (C := "PageScribeModel") hts k_7_174 k_1_12 k_7_171 k_7_173 k_0_102 (by decide +kernel) ⟨Nat.le_of_ble_eq_true rfl, Nat.le_of_ble_eq_true rfl⟩) (jm_pre hK hP hD) rfl rfl hl.1 rfl (lv_room (Nat.le_of_ble_eq_true rfl)) d_Mo_suitsOther_111 ⟨Nat.le_of_ble_eq_true rfl, Nat.le_of_ble_eq_true rfl⟩) (fun rv4 u4 H locs hw4 hP hD hS => ?_)
                    have hP : va_P D classes (mW T h0 ar S) H := hP
                    have hD : va_D A (mW T h0 ar S) := hD
                    have qhw4 : rv4.toInt = ((a_kinds S) ((f_size S).toInt - 2).toNat).toInt % 8 := by simpa only [fx3] using hw4
                    refine lv_iload_n hx hb d_Mo_suitsOther_114 rfl (lv_at hl 1 rfl) ?_
                    refine lv_icmp_ne (tgt := 122) hx hb d_Mo_suitsOther_115 (by decide) (fun c115_2 => ?_) (fun c115_2 => ?_)
                    · have fc115_2 : ¬ rv4.toInt = rv1.toInt := zt_ne (show rv4.toInt = _ from rfl) (show rv1.toInt = _ from rfl) c115_2
                      refine lv_iconst (v := 0) hx hb d_Mo_suitsOther_122 (by decide) ?_
                      exact j_zret F hr (by decide +kernel) hlocks hK hS () (show ((0 : Int32).toInt = 1 ∧ othP p0.toInt S) ∨ (0 : Int32).toInt = 0 by have := tI_0; first | (right; omega) | (left; refine ⟨by omega, ?_⟩; unfold othP; refine ⟨fun q => ?_, fun q => ?_, fun q => ?_, fun q => ?_, fun q => ?_⟩ <;> omega)) hP hD d_Mo_suitsOther_123
                    · have fc115_2 : rv4.toInt = rv1.toInt := zt_eq (show rv4.toInt = _ from rfl) (show rv1.toInt = _ from rfl) c115_2
                      refine lv_iconst (v := 1) hx hb d_Mo_suitsOther_118 (by decide) ?_
                      refine lv_goto (tgt := 123) hx hb d_Mo_suitsOther_119 (by decide) ?_
                      exact j_zret F hr (by decide +kernel) hlocks hK hS () (show ((1 : Int32).toInt = 1 ∧ othP p0.toInt S) ∨ (1 : Int32).toInt = 0 by have := tI_1; first | (right; omega) | (left; refine ⟨by omega, ?_⟩; unfold othP; refine ⟨fun q => ?_, fun q => ?_, fun q => ?_, fun q => ?_, fun q => ?_⟩ <;> omega)) hP hD d_Mo_suitsOther_123
              · have fc89_1 : ¬ p0.toInt = 29 := zt_ne (show p0.toInt = _ from rfl) tI_29 c89_1
                refine lv_iload_n hx hb d_Mo_suitsOther_92 rfl (lv_at hl 4 rfl) ?_
                refine lv_bipush (v := 30) hx hb d_Mo_suitsOther_93 (by decide) ?_
                refine lv_icmp_ne (tgt := 124) hx hb d_Mo_suitsOther_95 (by decide) (fun c95_1 => ?_) (fun c95_1 => ?_)
                · have fc95_1 : ¬ p0.toInt = 30 := zt_ne (show p0.toInt = _ from rfl) tI_30 c95_1
                  refine lv_iload_n hx hb d_Mo_suitsOther_124 rfl (lv_at hl 4 rfl) ?_
                  refine lv_bipush (v := 31) hx hb d_Mo_suitsOther_125 (by decide) ?_
                  refine lv_icmp_ne (tgt := 145) hx hb d_Mo_suitsOther_127 (by decide) (fun c127_1 => ?_) (fun c127_1 => ?_)
                  · have fc127_1 : ¬ p0.toInt = 31 := zt_ne (show p0.toInt = _ from rfl) tI_31 c127_1
                    refine lv_iload_n hx hb d_Mo_suitsOther_145 rfl (lv_at hl 4 rfl) ?_
                    refine lv_bipush (v := 38) hx hb d_Mo_suitsOther_146 (by decide) ?_
                    refine lv_icmp_ne (tgt := 168) hx hb d_Mo_suitsOther_148 (by decide) (fun c148_1 => ?_) (fun c148_1 => ?_)
                    · have fc148_1 : ¬ p0.toInt = 38 := zt_ne (show p0.toInt = _ from rfl) tI_38 c148_1
                      refine lv_iload_n hx hb d_Mo_suitsOther_168 rfl (lv_at hl 1 rfl) ?_
                      refine lv_iconst (v := 5) hx hb d_Mo_suitsOther_169 (by decide) ?_
                      refine lv_icmp_ne (tgt := 178) hx hb d_Mo_suitsOther_170 (by decide) (fun c170_1 => ?_) (fun c170_1 => ?_)
                      · have fc170_1 : ¬ rv1.toInt = 5 := zt_ne (show rv1.toInt = _ from rfl) tI_5 c170_1
                        refine lv_iload_n hx hb d_Mo_suitsOther_178 rfl (lv_at hl 1 rfl) ?_
                        refine lv_bipush (v := 6) hx hb d_Mo_suitsOther_179 (by decide) ?_
                        refine lv_icmp_ne (tgt := 194) hx hb d_Mo_suitsOther_181 (by decide) (fun c181_1 => ?_) (fun c181_1 => ?_)
                        · have fc181_1 : ¬ rv1.toInt = 6 := zt_ne (show rv1.toInt = _ from rfl) tI_6 c181_1
                          refine lv_iconst (v := 0) hx hb d_Mo_suitsOther_194 (by decide) ?_
                          exact j_zret F hr (by decide +kernel) hlocks hK hS () (show ((0 : Int32).toInt = 1 ∧ othP p0.toInt S) ∨ (0 : Int32).toInt = 0 by have := tI_0; first | (right; omega) | (left; refine ⟨by omega, ?_⟩; unfold othP; refine ⟨fun q => ?_, fun q => ?_, fun q => ?_, fun q => ?_, fun q => ?_⟩ <;> omega)) hP hD d_Mo_suitsOther_195
                        · have fc181_1 : rv1.toInt = 6 := zt_eq (show rv1.toInt = _ from rfl) tI_6 c181_1
                          refine lv_iload hx hb d_Mo_suitsOther_184 (lv_at hl 0 rfl) ?_
                          refine lv_iconst (v := 3) hx hb d_Mo_suitsOther_186 (by decide) ?_
                          refine lv_icmp_ne (tgt := 194) hx hb d_Mo_suitsOther_187 (by decide) (fun c187_1 => ?_) (fun c187_1 => ?_)
                          · have fc187_1 : ¬ rv2.toInt = 3 := zt_ne (show rv2.toInt = _ from rfl) tI_3 c187_1
                            refine lv_iconst (v := 0) hx hb d_Mo_suitsOther_194 (by decide) ?_
                            exact j_zret F hr (by decide +kernel) hlocks hK hS () (show ((0 : Int32).toInt = 1 ∧ othP p0.toInt S) ∨ (0 : Int32).toInt = 0 by have := tI_0; first | (right; omega) | (left; refine ⟨by omega, ?_⟩; unfold othP; refine ⟨fun q => ?_, fun q => ?_, fun q => ?_, fun q => ?_, fun q => ?_⟩ <;> omega)) hP hD d_Mo_suitsOther_195
                          · have fc187_1 : rv2.toInt = 3 := zt_eq (show rv2.toInt = _ from rfl) tI_3 c187_1
                            refine lv_iconst (v := 1) hx hb d_Mo_suitsOther_190 (by decide) ?_
                            refine lv_goto (tgt := 195) hx hb d_Mo_suitsOther_191 (by decide) ?_
                            exact j_zret F hr (by decide +kernel) hlocks hK hS () (show ((1 : Int32).toInt = 1 ∧ othP p0.toInt S) ∨ (1 : Int32).toInt = 0 by have := tI_1; first | (right; omega) | (left; refine ⟨by omega, ?_⟩; unfold othP; refine ⟨fun q => ?_, fun q => ?_, fun q => ?_, fun q => ?_, fun q => ?_⟩ <;> omega)) hP hD d_Mo_suitsOther_195
                      · have fc170_1 : rv1.toInt = 5 := zt_eq (show rv1.toInt = _ from rfl) tI_5 c170_1
                        refine lv_iload hx hb d_Mo_suitsOther_173 (lv_at hl 0 rfl) ?_
                        refine lv_if_eq (tgt := 190) hx hb d_Mo_suitsOther_175 (by decide) (fun c175_1 => ?_) (fun c175_1 => ?_)
                        · have fc175_1 : rv2.toInt = 0 := zt_eq (show rv2.toInt = _ from rfl) tI_0 c175_1
                          refine lv_iconst (v := 1) hx hb d_Mo_suitsOther_190 (by decide) ?_
                          refine lv_goto (tgt := 195) hx hb d_Mo_suitsOther_191 (by decide) ?_
                          exact j_zret F hr (by decide +kernel) hlocks hK hS () (show ((1 : Int32).toInt = 1 ∧ othP p0.toInt S) ∨ (1 : Int32).toInt = 0 by have := tI_1; first | (right; omega) | (left; refine ⟨by omega, ?_⟩; unfold othP; refine ⟨fun q => ?_, fun q => ?_, fun q => ?_, fun q => ?_, fun q => ?_⟩ <;> omega)) hP hD d_Mo_suitsOther_195
                        · have fc175_1 : ¬ rv2.toInt = 0 := zt_ne (show rv2.toInt = _ from rfl) tI_0 c175_1
                          refine lv_iload_n hx hb d_Mo_suitsOther_178 rfl (lv_at hl 1 rfl) ?_
                          refine lv_bipush (v := 6) hx hb d_Mo_suitsOther_179 (by decide) ?_
                          refine lv_icmp_ne (tgt := 194) hx hb d_Mo_suitsOther_181 (by decide) (fun c181_2 => ?_) (fun c181_2 => ?_)
                          · have fc181_2 : ¬ rv1.toInt = 6 := zt_ne (show rv1.toInt = _ from rfl) tI_6 c181_2
                            refine lv_iconst (v := 0) hx hb d_Mo_suitsOther_194 (by decide) ?_
                            exact j_zret F hr (by decide +kernel) hlocks hK hS () (show ((0 : Int32).toInt = 1 ∧ othP p0.toInt S) ∨ (0 : Int32).toInt = 0 by have := tI_0; first | (right; omega) | (left; refine ⟨by omega, ?_⟩; unfold othP; refine ⟨fun q => ?_, fun q => ?_, fun q => ?_, fun q => ?_, fun q => ?_⟩ <;> omega)) hP hD d_Mo_suitsOther_195
                          · have fc181_2 : rv1.toInt = 6 := zt_eq (show rv1.toInt = _ from rfl) tI_6 c181_2
                            refine lv_iload hx hb d_Mo_suitsOther_184 (lv_at hl 0 rfl) ?_
                            refine lv_iconst (v := 3) hx hb d_Mo_suitsOther_186 (by decide) ?_
                            refine lv_icmp_ne (tgt := 194) hx hb d_Mo_suitsOther_187 (by decide) (fun c187_2 => ?_) (fun c187_2 => ?_)
                            · have fc187_2 : ¬ rv2.toInt = 3 := zt_ne (show rv2.toInt = _ from rfl) tI_3 c187_2
                              refine lv_iconst (v := 0) hx hb d_Mo_suitsOther_194 (by decide) ?_
                              exact j_zret F hr (by decide +kernel) hlocks hK hS () (show ((0 : Int32).toInt = 1 ∧ othP p0.toInt S) ∨ (0 : Int32).toInt = 0 by have := tI_0; first | (right; omega) | (left; refine ⟨by omega, ?_⟩; unfold othP; refine ⟨fun q => ?_, fun q => ?_, fun q => ?_, fun q => ?_, fun q => ?_⟩ <;> omega)) hP hD d_Mo_suitsOther_195
                            · have fc187_2 : rv2.toInt = 3 := zt_eq (show rv2.toInt = _ from rfl) tI_3 c187_2
                              refine lv_iconst (v := 1) hx hb d_Mo_suitsOther_190 (by decide) ?_
                              refine lv_goto (tgt := 195) hx hb d_Mo_suitsOther_191 (by decide) ?_
                              exact j_zret F hr (by decide +kernel) hlocks hK hS () (show ((1 : Int32).toInt = 1 ∧ othP p0.toInt S) ∨ (1 : Int32).toInt = 0 by have := tI_1; first | (right; omega) | (left; refine ⟨by omega, ?_⟩; unfold othP; refine ⟨fun q => ?_, fun q => ?_, fun q => ?_, fun q => ?_, fun q => ?_⟩ <;> omega)) hP hD d_Mo_suitsOther_195
                    · have fc148_1 : p0.toInt = 38 := zt_eq (show p0.toInt = _ from rfl) tI_38 c148_1
                      refine lv_iload_n hx hb d_Mo_suitsOther_151 rfl (lv_at hl 1 rfl) ?_
                      refine lv_iconst (v := 5) hx hb d_Mo_suitsOther_152 (by decide) ?_
                      refine lv_icmp_eq (tgt := 162) hx hb d_Mo_suitsOther_153 (by decide) (fun c153_1 => ?_) (fun c153_1 => ?_)
                      · have fc153_1 : rv1.toInt = 5 := zt_eq (show rv1.toInt = _ from rfl) tI_5 c153_1
                        refine lv_iconst (v := 1) hx hb d_Mo_suitsOther_162 (by decide) ?_
                        refine lv_goto (tgt := 167) hx hb d_Mo_suitsOther_163 (by decide) ?_
                        exact j_zret F hr (by decide +kernel) hlocks hK hS () (show ((1 : Int32).toInt = 1 ∧ othP p0.toInt S) ∨ (1 : Int32).toInt = 0 by have := tI_1; first | (right; omega) | (left; refine ⟨by omega, ?_⟩; unfold othP; refine ⟨fun q => ?_, fun q => ?_, fun q => ?_, fun q => ?_, fun q => ?_⟩ <;> omega)) hP hD d_Mo_suitsOther_167
                      · have fc153_1 : ¬ rv1.toInt = 5 := zt_ne (show rv1.toInt = _ from rfl) tI_5 c153_1
                        refine lv_iload_n hx hb d_Mo_suitsOther_156 rfl (lv_at hl 1 rfl) ?_
                        refine lv_bipush (v := 6) hx hb d_Mo_suitsOther_157 (by decide) ?_
                        refine lv_icmp_ne (tgt := 166) hx hb d_Mo_suitsOther_159 (by decide) (fun c159_1 => ?_) (fun c159_1 => ?_)
                        · have fc159_1 : ¬ rv1.toInt = 6 := zt_ne (show rv1.toInt = _ from rfl) tI_6 c159_1
                          refine lv_iconst (v := 0) hx hb d_Mo_suitsOther_166 (by decide) ?_
                          exact j_zret F hr (by decide +kernel) hlocks hK hS () (show ((0 : Int32).toInt = 1 ∧ othP p0.toInt S) ∨ (0 : Int32).toInt = 0 by have := tI_0; first | (right; omega) | (left; refine ⟨by omega, ?_⟩; unfold othP; refine ⟨fun q => ?_, fun q => ?_, fun q => ?_, fun q => ?_, fun q => ?_⟩ <;> omega)) hP hD d_Mo_suitsOther_167
                        · have fc159_1 : rv1.toInt = 6 := zt_eq (show rv1.toInt = _ from rfl) tI_6 c159_1
                          refine lv_iconst (v := 1) hx hb d_Mo_suitsOther_162 (by decide) ?_
                          refine lv_goto (tgt := 167) hx hb d_Mo_suitsOther_163 (by decide) ?_
                          exact j_zret F hr (by decide +kernel) hlocks hK hS () (show ((1 : Int32).toInt = 1 ∧ othP p0.toInt S) ∨ (1 : Int32).toInt = 0 by have := tI_1; first | (right; omega) | (left; refine ⟨by omega, ?_⟩; unfold othP; refine ⟨fun q => ?_, fun q => ?_, fun q => ?_, fun q => ?_, fun q => ?_⟩ <;> omega)) hP hD d_Mo_suitsOther_167
                  · have fc127_1 : p0.toInt = 31 := zt_eq (show p0.toInt = _ from rfl) tI_31 c127_1
                    refine lv_iload_n hx hb d_Mo_suitsOther_130 rfl (lv_at hl 1 rfl) ?_
                    refine lv_iconst (v := 2) hx hb d_Mo_suitsOther_131 (by decide) ?_
                    refine lv_icmp_eq (tgt := 139) hx hb d_Mo_suitsOther_132 (by decide) (fun c132_1 => ?_) (fun c132_1 => ?_)
                    · have fc132_1 : rv1.toInt = 2 := zt_eq (show rv1.toInt = _ from rfl) tI_2 c132_1
                      refine lv_iconst (v := 1) hx hb d_Mo_suitsOther_139 (by decide) ?_
                      refine lv_goto (tgt := 144) hx hb d_Mo_suitsOther_140 (by decide) ?_
                      exact j_zret F hr (by decide +kernel) hlocks hK hS () (show ((1 : Int32).toInt = 1 ∧ othP p0.toInt S) ∨ (1 : Int32).toInt = 0 by have := tI_1; first | (right; omega) | (left; refine ⟨by omega, ?_⟩; unfold othP; refine ⟨fun q => ?_, fun q => ?_, fun q => ?_, fun q => ?_, fun q => ?_⟩ <;> omega)) hP hD d_Mo_suitsOther_144
                    · have fc132_1 : ¬ rv1.toInt = 2 := zt_ne (show rv1.toInt = _ from rfl) tI_2 c132_1
                      refine lv_iload_n hx hb d_Mo_suitsOther_135 rfl (lv_at hl 1 rfl) ?_
                      refine lv_if_ne (tgt := 143) hx hb d_Mo_suitsOther_136 (by decide) (fun c136_1 => ?_) (fun c136_1 => ?_)
                      · have fc136_1 : ¬ rv1.toInt = 0 := zt_ne (show rv1.toInt = _ from rfl) tI_0 c136_1
                        refine lv_iconst (v := 0) hx hb d_Mo_suitsOther_143 (by decide) ?_
                        exact j_zret F hr (by decide +kernel) hlocks hK hS () (show ((0 : Int32).toInt = 1 ∧ othP p0.toInt S) ∨ (0 : Int32).toInt = 0 by have := tI_0; first | (right; omega) | (left; refine ⟨by omega, ?_⟩; unfold othP; refine ⟨fun q => ?_, fun q => ?_, fun q => ?_, fun q => ?_, fun q => ?_⟩ <;> omega)) hP hD d_Mo_suitsOther_144
                      · have fc136_1 : rv1.toInt = 0 := zt_eq (show rv1.toInt = _ from rfl) tI_0 c136_1
                        refine lv_iconst (v := 1) hx hb d_Mo_suitsOther_139 (by decide) ?_
                        refine lv_goto (tgt := 144) hx hb d_Mo_suitsOther_140 (by decide) ?_
                        exact j_zret F hr (by decide +kernel) hlocks hK hS () (show ((1 : Int32).toInt = 1 ∧ othP p0.toInt S) ∨ (1 : Int32).toInt = 0 by have := tI_1; first | (right; omega) | (left; refine ⟨by omega, ?_⟩; unfold othP; refine ⟨fun q => ?_, fun q => ?_, fun q => ?_, fun q => ?_, fun q => ?_⟩ <;> omega)) hP hD d_Mo_suitsOther_144
                · have fc95_1 : p0.toInt = 30 := zt_eq (show p0.toInt = _ from rfl) tI_30 c95_1
                  refine lv_iload_n hx hb d_Mo_suitsOther_98 rfl (lv_at hl 1 rfl) ?_
                  refine lv_iconst (v := 2) hx hb d_Mo_suitsOther_99 (by decide) ?_
                  refine lv_icmp_eq (tgt := 107) hx hb d_Mo_suitsOther_100 (by decide) (fun c100_2 => ?_) (fun c100_2 => ?_)
                  · have fc100_2 : rv1.toInt = 2 := zt_eq (show rv1.toInt = _ from rfl) tI_2 c100_2
                    refine lv_aload_n hx hb d_Mo_suitsOther_107 rfl (lv_at hl 3 rfl) ?_
                    refine lv_iload_n hx hb d_Mo_suitsOther_108 rfl (lv_at hl 2 rfl) ?_
                    refine lv_iconst (v := 1) hx hb d_Mo_suitsOther_109 (by decide) ?_
                    refine lv_isub hx hb d_Mo_suitsOther_110 ?_
                    refine lv_topi (fun x4 ex4 => ?_)
                    have fx4 : x4.toInt = ((f_size S).toInt - 2) := by rw [ex4]; exact (zt_sub fx1 tI_1 (by omega) (by omega)).trans (by omega)
                    have kv4 : vOk ((a_kinds S) (((f_size S).toInt - 2).toNat)) ((a_codes S) (((f_size S).toInt - 2).toNat)) ((a_reals S) (((f_size S).toInt - 2).toNat)) := i_vals (((f_size S).toInt - 2).toNat) (by omega)
                    have rkv4 := vk_rng kv4
                    refine jm_ci (w := (fun _ => S)) hK hP hD hS hA (va_runV (As := [.int x4]) (rest := []) F (m_kindOf l D T h0 ar S x4 H.size (show 0 ≤ x4.toInt ∧ x4.toInt < 1300 by first | omega | (simp only [fx4]; omega)) (show 0 ≤ ((a_kinds S) x4.toInt.toNat).toInt by first | omega | (simp only [fx4]; omega))) (j_cV (k := 1) (C := "PageScribeModel") hts k_7_174 k_1_12 k_7_171 k_7_173 k_0_102 (by decide +kernel) ⟨Nat.le_of_ble_eq_true rfl, Nat.le_of_ble_eq_true rfl⟩) (jm_pre hK hP hD) rfl rfl hl.1 rfl (lv_room (Nat.le_of_ble_eq_true rfl)) d_Mo_suitsOther_111 ⟨Nat.le_of_ble_eq_true rfl, Nat.le_of_ble_eq_true rfl⟩) (fun rv5 u5 H locs hw5 hP hD hS => ?_)
                    have hP : va_P D classes (mW T h0 ar S) H := hP
                    have hD : va_D A (mW T h0 ar S) := hD
                    have qhw5 : rv5.toInt = ((a_kinds S) ((f_size S).toInt - 2).toNat).toInt % 8 := by simpa only [fx4] using hw5
                    refine lv_iload_n hx hb d_Mo_suitsOther_114 rfl (lv_at hl 1 rfl) ?_
                    refine lv_icmp_ne (tgt := 122) hx hb d_Mo_suitsOther_115 (by decide) (fun c115_3 => ?_) (fun c115_3 => ?_)
                    · have fc115_3 : ¬ rv5.toInt = rv1.toInt := zt_ne (show rv5.toInt = _ from rfl) (show rv1.toInt = _ from rfl) c115_3
                      refine lv_iconst (v := 0) hx hb d_Mo_suitsOther_122 (by decide) ?_
                      exact j_zret F hr (by decide +kernel) hlocks hK hS () (show ((0 : Int32).toInt = 1 ∧ othP p0.toInt S) ∨ (0 : Int32).toInt = 0 by have := tI_0; first | (right; omega) | (left; refine ⟨by omega, ?_⟩; unfold othP; refine ⟨fun q => ?_, fun q => ?_, fun q => ?_, fun q => ?_, fun q => ?_⟩ <;> omega)) hP hD d_Mo_suitsOther_123
                    · have fc115_3 : rv5.toInt = rv1.toInt := zt_eq (show rv5.toInt = _ from rfl) (show rv1.toInt = _ from rfl) c115_3
                      refine lv_iconst (v := 1) hx hb d_Mo_suitsOther_118 (by decide) ?_
                      refine lv_goto (tgt := 123) hx hb d_Mo_suitsOther_119 (by decide) ?_
                      exact j_zret F hr (by decide +kernel) hlocks hK hS () (show ((1 : Int32).toInt = 1 ∧ othP p0.toInt S) ∨ (1 : Int32).toInt = 0 by have := tI_1; first | (right; omega) | (left; refine ⟨by omega, ?_⟩; unfold othP; refine ⟨fun q => ?_, fun q => ?_, fun q => ?_, fun q => ?_, fun q => ?_⟩ <;> omega)) hP hD d_Mo_suitsOther_123
                  · have fc100_2 : ¬ rv1.toInt = 2 := zt_ne (show rv1.toInt = _ from rfl) tI_2 c100_2
                    refine lv_iload_n hx hb d_Mo_suitsOther_103 rfl (lv_at hl 1 rfl) ?_
                    refine lv_if_ne (tgt := 122) hx hb d_Mo_suitsOther_104 (by decide) (fun c104_2 => ?_) (fun c104_2 => ?_)
                    · have fc104_2 : ¬ rv1.toInt = 0 := zt_ne (show rv1.toInt = _ from rfl) tI_0 c104_2
                      refine lv_iconst (v := 0) hx hb d_Mo_suitsOther_122 (by decide) ?_
                      exact j_zret F hr (by decide +kernel) hlocks hK hS () (show ((0 : Int32).toInt = 1 ∧ othP p0.toInt S) ∨ (0 : Int32).toInt = 0 by have := tI_0; first | (right; omega) | (left; refine ⟨by omega, ?_⟩; unfold othP; refine ⟨fun q => ?_, fun q => ?_, fun q => ?_, fun q => ?_, fun q => ?_⟩ <;> omega)) hP hD d_Mo_suitsOther_123
                    · have fc104_2 : rv1.toInt = 0 := zt_eq (show rv1.toInt = _ from rfl) tI_0 c104_2
                      refine lv_aload_n hx hb d_Mo_suitsOther_107 rfl (lv_at hl 3 rfl) ?_
                      refine lv_iload_n hx hb d_Mo_suitsOther_108 rfl (lv_at hl 2 rfl) ?_
                      refine lv_iconst (v := 1) hx hb d_Mo_suitsOther_109 (by decide) ?_
                      refine lv_isub hx hb d_Mo_suitsOther_110 ?_
                      refine lv_topi (fun x5 ex5 => ?_)
                      have fx5 : x5.toInt = ((f_size S).toInt - 2) := by rw [ex5]; exact (zt_sub fx1 tI_1 (by omega) (by omega)).trans (by omega)
                      have kv5 : vOk ((a_kinds S) (((f_size S).toInt - 2).toNat)) ((a_codes S) (((f_size S).toInt - 2).toNat)) ((a_reals S) (((f_size S).toInt - 2).toNat)) := i_vals (((f_size S).toInt - 2).toNat) (by omega)
                      have rkv5 := vk_rng kv5
                      refine jm_ci (w := (fun _ => S)) hK hP hD hS hA (va_runV (As := [.int x5]) (rest := []) F (m_kindOf l D T h0 ar S x5 H.size (show 0 ≤ x5.toInt ∧ x5.toInt < 1300 by first | omega | (simp only [fx5]; omega)) (show 0 ≤ ((a_kinds S) x5.toInt.toNat).toInt by first | omega | (simp only [fx5]; omega))) (j_cV (k := 1) (C := "PageScribeModel") hts k_7_174 k_1_12 k_7_171 k_7_173 k_0_102 (by decide +kernel) ⟨Nat.le_of_ble_eq_true rfl, Nat.le_of_ble_eq_true rfl⟩) (jm_pre hK hP hD) rfl rfl hl.1 rfl (lv_room (Nat.le_of_ble_eq_true rfl)) d_Mo_suitsOther_111 ⟨Nat.le_of_ble_eq_true rfl, Nat.le_of_ble_eq_true rfl⟩) (fun rv6 u6 H locs hw6 hP hD hS => ?_)
                      have hP : va_P D classes (mW T h0 ar S) H := hP
                      have hD : va_D A (mW T h0 ar S) := hD
                      have qhw6 : rv6.toInt = ((a_kinds S) ((f_size S).toInt - 2).toNat).toInt % 8 := by simpa only [fx5] using hw6
                      refine lv_iload_n hx hb d_Mo_suitsOther_114 rfl (lv_at hl 1 rfl) ?_
                      refine lv_icmp_ne (tgt := 122) hx hb d_Mo_suitsOther_115 (by decide) (fun c115_4 => ?_) (fun c115_4 => ?_)
                      · have fc115_4 : ¬ rv6.toInt = rv1.toInt := zt_ne (show rv6.toInt = _ from rfl) (show rv1.toInt = _ from rfl) c115_4
                        refine lv_iconst (v := 0) hx hb d_Mo_suitsOther_122 (by decide) ?_
                        exact j_zret F hr (by decide +kernel) hlocks hK hS () (show ((0 : Int32).toInt = 1 ∧ othP p0.toInt S) ∨ (0 : Int32).toInt = 0 by have := tI_0; first | (right; omega) | (left; refine ⟨by omega, ?_⟩; unfold othP; refine ⟨fun q => ?_, fun q => ?_, fun q => ?_, fun q => ?_, fun q => ?_⟩ <;> omega)) hP hD d_Mo_suitsOther_123
                      · have fc115_4 : rv6.toInt = rv1.toInt := zt_eq (show rv6.toInt = _ from rfl) (show rv1.toInt = _ from rfl) c115_4
                        refine lv_iconst (v := 1) hx hb d_Mo_suitsOther_118 (by decide) ?_
                        refine lv_goto (tgt := 123) hx hb d_Mo_suitsOther_119 (by decide) ?_
                        exact j_zret F hr (by decide +kernel) hlocks hK hS () (show ((1 : Int32).toInt = 1 ∧ othP p0.toInt S) ∨ (1 : Int32).toInt = 0 by have := tI_1; first | (right; omega) | (left; refine ⟨by omega, ?_⟩; unfold othP; refine ⟨fun q => ?_, fun q => ?_, fun q => ?_, fun q => ?_, fun q => ?_⟩ <;> omega)) hP hD d_Mo_suitsOther_123
            · have fc66_1 : p0.toInt = 40 := zt_eq (show p0.toInt = _ from rfl) tI_40 c66_1
              refine lv_aload_n hx hb d_Mo_suitsOther_69 rfl (lv_at hl 2 rfl) ?_
              refine lv_iload_n hx hb d_Mo_suitsOther_70 rfl (lv_at hl 1 rfl) ?_
              refine lv_iconst (v := 1) hx hb d_Mo_suitsOther_71 (by decide) ?_
              refine lv_isub hx hb d_Mo_suitsOther_72 ?_
              refine lv_topi (fun x6 ex6 => ?_)
              have fx6 : x6.toInt = ((f_size S).toInt - 2) := by rw [ex6]; exact (zt_sub fx1 tI_1 (by omega) (by omega)).trans (by omega)
              have kv6 : vOk ((a_kinds S) (((f_size S).toInt - 2).toNat)) ((a_codes S) (((f_size S).toInt - 2).toNat)) ((a_reals S) (((f_size S).toInt - 2).toNat)) := i_vals (((f_size S).toInt - 2).toNat) (by omega)
              have rkv6 := vk_rng kv6
              refine jm_ci (w := (fun _ => S)) hK hP hD hS hA (va_runV (As := [.int x6]) (rest := []) F (m_kindOf l D T h0 ar S x6 H.size (show 0 ≤ x6.toInt ∧ x6.toInt < 1300 by first | omega | (simp only [fx6]; omega)) (show 0 ≤ ((a_kinds S) x6.toInt.toNat).toInt by first | omega | (simp only [fx6]; omega))) (j_cV (k := 1) (C := "PageScribeModel") hts k_7_174 k_1_12 k_7_171 k_7_173 k_0_102 (by decide +kernel) ⟨Nat.le_of_ble_eq_true rfl, Nat.le_of_ble_eq_true rfl⟩) (jm_pre hK hP hD) rfl rfl hl.1 rfl (lv_room (Nat.le_of_ble_eq_true rfl)) d_Mo_suitsOther_73 ⟨Nat.le_of_ble_eq_true rfl, Nat.le_of_ble_eq_true rfl⟩) (fun rv7 u7 H locs hw7 hP hD hS => ?_)
              have hP : va_P D classes (mW T h0 ar S) H := hP
              have hD : va_D A (mW T h0 ar S) := hD
              have qhw7 : rv7.toInt = ((a_kinds S) ((f_size S).toInt - 2).toNat).toInt % 8 := by simpa only [fx6] using hw7
              refine lv_goto (tgt := 84) hx hb d_Mo_suitsOther_76 (by decide) ?_
              refine lv_istore (lv' := [(4, .int rv7), (3, .int rv1), (2, .int x1), (0, .ref h0), (1, .int p0)]) hx hb d_Mo_suitsOther_84 hl (by decide) rfl (fun ls hl => ?_)
              refine lv_iload_n hx hb d_Mo_suitsOther_86 rfl (lv_at hl 4 rfl) ?_
              refine lv_bipush (v := 29) hx hb d_Mo_suitsOther_87 (by decide) ?_
              refine lv_icmp_eq (tgt := 98) hx hb d_Mo_suitsOther_89 (by decide) (fun c89_2 => ?_) (fun c89_2 => ?_)
              · have fc89_2 : p0.toInt = 29 := zt_eq (show p0.toInt = _ from rfl) tI_29 c89_2
                refine lv_iload_n hx hb d_Mo_suitsOther_98 rfl (lv_at hl 1 rfl) ?_
                refine lv_iconst (v := 2) hx hb d_Mo_suitsOther_99 (by decide) ?_
                refine lv_icmp_eq (tgt := 107) hx hb d_Mo_suitsOther_100 (by decide) (fun c100_3 => ?_) (fun c100_3 => ?_)
                · have fc100_3 : rv1.toInt = 2 := zt_eq (show rv1.toInt = _ from rfl) tI_2 c100_3
                  refine lv_aload_n hx hb d_Mo_suitsOther_107 rfl (lv_at hl 3 rfl) ?_
                  refine lv_iload_n hx hb d_Mo_suitsOther_108 rfl (lv_at hl 2 rfl) ?_
                  refine lv_iconst (v := 1) hx hb d_Mo_suitsOther_109 (by decide) ?_
                  refine lv_isub hx hb d_Mo_suitsOther_110 ?_
                  refine j_eqi (y := x6) ex6.symm ?_
                  refine jm_ci (w := (fun _ => S)) hK hP hD hS hA (va_runV (As := [.int x6]) (rest := []) F (m_kindOf l D T h0 ar S x6 H.size (show 0 ≤ x6.toInt ∧ x6.toInt < 1300 by first | omega | (simp only [fx6]; omega)) (show 0 ≤ ((a_kinds S) x6.toInt.toNat).toInt by first | omega | (simp only [fx6]; omega))) (j_cV (k := 1) (C := "PageScribeModel") hts k_7_174 k_1_12 k_7_171 k_7_173 k_0_102 (by decide +kernel) ⟨Nat.le_of_ble_eq_true rfl, Nat.le_of_ble_eq_true rfl⟩) (jm_pre hK hP hD) rfl rfl hl.1 rfl (lv_room (Nat.le_of_ble_eq_true rfl)) d_Mo_suitsOther_111 ⟨Nat.le_of_ble_eq_true rfl, Nat.le_of_ble_eq_true rfl⟩) (fun rv8 u8 H locs hw8 hP hD hS => ?_)
                  have hP : va_P D classes (mW T h0 ar S) H := hP
                  have hD : va_D A (mW T h0 ar S) := hD
                  have qhw8 : rv8.toInt = ((a_kinds S) ((f_size S).toInt - 2).toNat).toInt % 8 := by simpa only [fx6] using hw8
                  refine lv_iload_n hx hb d_Mo_suitsOther_114 rfl (lv_at hl 1 rfl) ?_
                  refine lv_icmp_ne (tgt := 122) hx hb d_Mo_suitsOther_115 (by decide) (fun c115_5 => ?_) (fun c115_5 => ?_)
                  · have fc115_5 : ¬ rv8.toInt = rv1.toInt := zt_ne (show rv8.toInt = _ from rfl) (show rv1.toInt = _ from rfl) c115_5
                    refine lv_iconst (v := 0) hx hb d_Mo_suitsOther_122 (by decide) ?_
                    exact j_zret F hr (by decide +kernel) hlocks hK hS () (show ((0 : Int32).toInt = 1 ∧ othP p0.toInt S) ∨ (0 : Int32).toInt = 0 by have := tI_0; first | (right; omega) | (left; refine ⟨by omega, ?_⟩; unfold othP; refine ⟨fun q => ?_, fun q => ?_, fun q => ?_, fun q => ?_, fun q => ?_⟩ <;> omega)) hP hD d_Mo_suitsOther_123
                  · have fc115_5 : rv8.toInt = rv1.toInt := zt_eq (show rv8.toInt = _ from rfl) (show rv1.toInt = _ from rfl) c115_5
                    refine lv_iconst (v := 1) hx hb d_Mo_suitsOther_118 (by decide) ?_
                    refine lv_goto (tgt := 123) hx hb d_Mo_suitsOther_119 (by decide) ?_
                    exact j_zret F hr (by decide +kernel) hlocks hK hS () (show ((1 : Int32).toInt = 1 ∧ othP p0.toInt S) ∨ (1 : Int32).toInt = 0 by have := tI_1; first | (right; omega) | (left; refine ⟨by omega, ?_⟩; unfold othP; refine ⟨fun q => ?_, fun q => ?_, fun q => ?_, fun q => ?_, fun q => ?_⟩ <;> omega)) hP hD d_Mo_suitsOther_123
                · have fc100_3 : ¬ rv1.toInt = 2 := zt_ne (show rv1.toInt = _ from rfl) tI_2 c100_3
                  refine lv_iload_n hx hb d_Mo_suitsOther_103 rfl (lv_at hl 1 rfl) ?_
                  refine lv_if_ne (tgt := 122) hx hb d_Mo_suitsOther_104 (by decide) (fun c104_3 => ?_) (fun c104_3 => ?_)
                  · have fc104_3 : ¬ rv1.toInt = 0 := zt_ne (show rv1.toInt = _ from rfl) tI_0 c104_3
                    refine lv_iconst (v := 0) hx hb d_Mo_suitsOther_122 (by decide) ?_
                    exact j_zret F hr (by decide +kernel) hlocks hK hS () (show ((0 : Int32).toInt = 1 ∧ othP p0.toInt S) ∨ (0 : Int32).toInt = 0 by have := tI_0; first | (right; omega) | (left; refine ⟨by omega, ?_⟩; unfold othP; refine ⟨fun q => ?_, fun q => ?_, fun q => ?_, fun q => ?_, fun q => ?_⟩ <;> omega)) hP hD d_Mo_suitsOther_123
                  · have fc104_3 : rv1.toInt = 0 := zt_eq (show rv1.toInt = _ from rfl) tI_0 c104_3
                    refine lv_aload_n hx hb d_Mo_suitsOther_107 rfl (lv_at hl 3 rfl) ?_
                    refine lv_iload_n hx hb d_Mo_suitsOther_108 rfl (lv_at hl 2 rfl) ?_
                    refine lv_iconst (v := 1) hx hb d_Mo_suitsOther_109 (by decide) ?_
                    refine lv_isub hx hb d_Mo_suitsOther_110 ?_
                    refine j_eqi (y := x6) ex6.symm ?_
                    refine jm_ci (w := (fun _ => S)) hK hP hD hS hA (va_runV (As := [.int x6]) (rest := []) F (m_kindOf l D T h0 ar S x6 H.size (show 0 ≤ x6.toInt ∧ x6.toInt < 1300 by first | omega | (simp only [fx6]; omega)) (show 0 ≤ ((a_kinds S) x6.toInt.toNat).toInt by first | omega | (simp only [fx6]; omega))) (j_cV (k := 1) (C := "PageScribeModel") hts k_7_174 k_1_12 k_7_171 k_7_173 k_0_102 (by decide +kernel) ⟨Nat.le_of_ble_eq_true rfl, Nat.le_of_ble_eq_true rfl⟩) (jm_pre hK hP hD) rfl rfl hl.1 rfl (lv_room (Nat.le_of_ble_eq_true rfl)) d_Mo_suitsOther_111 ⟨Nat.le_of_ble_eq_true rfl, Nat.le_of_ble_eq_true rfl⟩) (fun rv9 u9 H locs hw9 hP hD hS => ?_)
                    have hP : va_P D classes (mW T h0 ar S) H := hP
                    have hD : va_D A (mW T h0 ar S) := hD
                    have qhw9 : rv9.toInt = ((a_kinds S) ((f_size S).toInt - 2).toNat).toInt % 8 := by simpa only [fx6] using hw9
                    refine lv_iload_n hx hb d_Mo_suitsOther_114 rfl (lv_at hl 1 rfl) ?_
                    refine lv_icmp_ne (tgt := 122) hx hb d_Mo_suitsOther_115 (by decide) (fun c115_6 => ?_) (fun c115_6 => ?_)
                    · have fc115_6 : ¬ rv9.toInt = rv1.toInt := zt_ne (show rv9.toInt = _ from rfl) (show rv1.toInt = _ from rfl) c115_6
                      refine lv_iconst (v := 0) hx hb d_Mo_suitsOther_122 (by decide) ?_
                      exact j_zret F hr (by decide +kernel) hlocks hK hS () (show ((0 : Int32).toInt = 1 ∧ othP p0.toInt S) ∨ (0 : Int32).toInt = 0 by have := tI_0; first | (right; omega) | (left; refine ⟨by omega, ?_⟩; unfold othP; refine ⟨fun q => ?_, fun q => ?_, fun q => ?_, fun q => ?_, fun q => ?_⟩ <;> omega)) hP hD d_Mo_suitsOther_123
                    · have fc115_6 : rv9.toInt = rv1.toInt := zt_eq (show rv9.toInt = _ from rfl) (show rv1.toInt = _ from rfl) c115_6
                      refine lv_iconst (v := 1) hx hb d_Mo_suitsOther_118 (by decide) ?_
                      refine lv_goto (tgt := 123) hx hb d_Mo_suitsOther_119 (by decide) ?_
                      exact j_zret F hr (by decide +kernel) hlocks hK hS () (show ((1 : Int32).toInt = 1 ∧ othP p0.toInt S) ∨ (1 : Int32).toInt = 0 by have := tI_1; first | (right; omega) | (left; refine ⟨by omega, ?_⟩; unfold othP; refine ⟨fun q => ?_, fun q => ?_, fun q => ?_, fun q => ?_, fun q => ?_⟩ <;> omega)) hP hD d_Mo_suitsOther_123
              · have fc89_2 : ¬ p0.toInt = 29 := zt_ne (show p0.toInt = _ from rfl) tI_29 c89_2
                refine lv_iload_n hx hb d_Mo_suitsOther_92 rfl (lv_at hl 4 rfl) ?_
                refine lv_bipush (v := 30) hx hb d_Mo_suitsOther_93 (by decide) ?_
                refine lv_icmp_ne (tgt := 124) hx hb d_Mo_suitsOther_95 (by decide) (fun c95_2 => ?_) (fun c95_2 => ?_)
                · have fc95_2 : ¬ p0.toInt = 30 := zt_ne (show p0.toInt = _ from rfl) tI_30 c95_2
                  refine lv_iload_n hx hb d_Mo_suitsOther_124 rfl (lv_at hl 4 rfl) ?_
                  refine lv_bipush (v := 31) hx hb d_Mo_suitsOther_125 (by decide) ?_
                  refine lv_icmp_ne (tgt := 145) hx hb d_Mo_suitsOther_127 (by decide) (fun c127_2 => ?_) (fun c127_2 => ?_)
                  · have fc127_2 : ¬ p0.toInt = 31 := zt_ne (show p0.toInt = _ from rfl) tI_31 c127_2
                    refine lv_iload_n hx hb d_Mo_suitsOther_145 rfl (lv_at hl 4 rfl) ?_
                    refine lv_bipush (v := 38) hx hb d_Mo_suitsOther_146 (by decide) ?_
                    refine lv_icmp_ne (tgt := 168) hx hb d_Mo_suitsOther_148 (by decide) (fun c148_2 => ?_) (fun c148_2 => ?_)
                    · have fc148_2 : ¬ p0.toInt = 38 := zt_ne (show p0.toInt = _ from rfl) tI_38 c148_2
                      refine lv_iload_n hx hb d_Mo_suitsOther_168 rfl (lv_at hl 1 rfl) ?_
                      refine lv_iconst (v := 5) hx hb d_Mo_suitsOther_169 (by decide) ?_
                      refine lv_icmp_ne (tgt := 178) hx hb d_Mo_suitsOther_170 (by decide) (fun c170_2 => ?_) (fun c170_2 => ?_)
                      · have fc170_2 : ¬ rv1.toInt = 5 := zt_ne (show rv1.toInt = _ from rfl) tI_5 c170_2
                        refine lv_iload_n hx hb d_Mo_suitsOther_178 rfl (lv_at hl 1 rfl) ?_
                        refine lv_bipush (v := 6) hx hb d_Mo_suitsOther_179 (by decide) ?_
                        refine lv_icmp_ne (tgt := 194) hx hb d_Mo_suitsOther_181 (by decide) (fun c181_3 => ?_) (fun c181_3 => ?_)
                        · have fc181_3 : ¬ rv1.toInt = 6 := zt_ne (show rv1.toInt = _ from rfl) tI_6 c181_3
                          refine lv_iconst (v := 0) hx hb d_Mo_suitsOther_194 (by decide) ?_
                          exact j_zret F hr (by decide +kernel) hlocks hK hS () (show ((0 : Int32).toInt = 1 ∧ othP p0.toInt S) ∨ (0 : Int32).toInt = 0 by have := tI_0; first | (right; omega) | (left; refine ⟨by omega, ?_⟩; unfold othP; refine ⟨fun q => ?_, fun q => ?_, fun q => ?_, fun q => ?_, fun q => ?_⟩ <;> omega)) hP hD d_Mo_suitsOther_195
                        · have fc181_3 : rv1.toInt = 6 := zt_eq (show rv1.toInt = _ from rfl) tI_6 c181_3
                          refine lv_iload hx hb d_Mo_suitsOther_184 (lv_at hl 0 rfl) ?_
                          refine lv_iconst (v := 3) hx hb d_Mo_suitsOther_186 (by decide) ?_
                          refine lv_icmp_ne (tgt := 194) hx hb d_Mo_suitsOther_187 (by decide) (fun c187_3 => ?_) (fun c187_3 => ?_)
                          · have fc187_3 : ¬ rv7.toInt = 3 := zt_ne (show rv7.toInt = _ from rfl) tI_3 c187_3
                            refine lv_iconst (v := 0) hx hb d_Mo_suitsOther_194 (by decide) ?_
                            exact j_zret F hr (by decide +kernel) hlocks hK hS () (show ((0 : Int32).toInt = 1 ∧ othP p0.toInt S) ∨ (0 : Int32).toInt = 0 by have := tI_0; first | (right; omega) | (left; refine ⟨by omega, ?_⟩; unfold othP; refine ⟨fun q => ?_, fun q => ?_, fun q => ?_, fun q => ?_, fun q => ?_⟩ <;> omega)) hP hD d_Mo_suitsOther_195
                          · have fc187_3 : rv7.toInt = 3 := zt_eq (show rv7.toInt = _ from rfl) tI_3 c187_3
                            refine lv_iconst (v := 1) hx hb d_Mo_suitsOther_190 (by decide) ?_
                            refine lv_goto (tgt := 195) hx hb d_Mo_suitsOther_191 (by decide) ?_
                            exact j_zret F hr (by decide +kernel) hlocks hK hS () (show ((1 : Int32).toInt = 1 ∧ othP p0.toInt S) ∨ (1 : Int32).toInt = 0 by have := tI_1; first | (right; omega) | (left; refine ⟨by omega, ?_⟩; unfold othP; refine ⟨fun q => ?_, fun q => ?_, fun q => ?_, fun q => ?_, fun q => ?_⟩ <;> omega)) hP hD d_Mo_suitsOther_195
                      · have fc170_2 : rv1.toInt = 5 := zt_eq (show rv1.toInt = _ from rfl) tI_5 c170_2
                        refine lv_iload hx hb d_Mo_suitsOther_173 (lv_at hl 0 rfl) ?_
                        refine lv_if_eq (tgt := 190) hx hb d_Mo_suitsOther_175 (by decide) (fun c175_2 => ?_) (fun c175_2 => ?_)
                        · have fc175_2 : rv7.toInt = 0 := zt_eq (show rv7.toInt = _ from rfl) tI_0 c175_2
                          refine lv_iconst (v := 1) hx hb d_Mo_suitsOther_190 (by decide) ?_
                          refine lv_goto (tgt := 195) hx hb d_Mo_suitsOther_191 (by decide) ?_
                          exact j_zret F hr (by decide +kernel) hlocks hK hS () (show ((1 : Int32).toInt = 1 ∧ othP p0.toInt S) ∨ (1 : Int32).toInt = 0 by have := tI_1; first | (right; omega) | (left; refine ⟨by omega, ?_⟩; unfold othP; refine ⟨fun q => ?_, fun q => ?_, fun q => ?_, fun q => ?_, fun q => ?_⟩ <;> omega)) hP hD d_Mo_suitsOther_195
                        · have fc175_2 : ¬ rv7.toInt = 0 := zt_ne (show rv7.toInt = _ from rfl) tI_0 c175_2
                          refine lv_iload_n hx hb d_Mo_suitsOther_178 rfl (lv_at hl 1 rfl) ?_
                          refine lv_bipush (v := 6) hx hb d_Mo_suitsOther_179 (by decide) ?_
                          refine lv_icmp_ne (tgt := 194) hx hb d_Mo_suitsOther_181 (by decide) (fun c181_4 => ?_) (fun c181_4 => ?_)
                          · have fc181_4 : ¬ rv1.toInt = 6 := zt_ne (show rv1.toInt = _ from rfl) tI_6 c181_4
                            refine lv_iconst (v := 0) hx hb d_Mo_suitsOther_194 (by decide) ?_
                            exact j_zret F hr (by decide +kernel) hlocks hK hS () (show ((0 : Int32).toInt = 1 ∧ othP p0.toInt S) ∨ (0 : Int32).toInt = 0 by have := tI_0; first | (right; omega) | (left; refine ⟨by omega, ?_⟩; unfold othP; refine ⟨fun q => ?_, fun q => ?_, fun q => ?_, fun q => ?_, fun q => ?_⟩ <;> omega)) hP hD d_Mo_suitsOther_195
                          · have fc181_4 : rv1.toInt = 6 := zt_eq (show rv1.toInt = _ from rfl) tI_6 c181_4
                            refine lv_iload hx hb d_Mo_suitsOther_184 (lv_at hl 0 rfl) ?_
                            refine lv_iconst (v := 3) hx hb d_Mo_suitsOther_186 (by decide) ?_
                            refine lv_icmp_ne (tgt := 194) hx hb d_Mo_suitsOther_187 (by decide) (fun c187_4 => ?_) (fun c187_4 => ?_)
                            · have fc187_4 : ¬ rv7.toInt = 3 := zt_ne (show rv7.toInt = _ from rfl) tI_3 c187_4
                              refine lv_iconst (v := 0) hx hb d_Mo_suitsOther_194 (by decide) ?_
                              exact j_zret F hr (by decide +kernel) hlocks hK hS () (show ((0 : Int32).toInt = 1 ∧ othP p0.toInt S) ∨ (0 : Int32).toInt = 0 by have := tI_0; first | (right; omega) | (left; refine ⟨by omega, ?_⟩; unfold othP; refine ⟨fun q => ?_, fun q => ?_, fun q => ?_, fun q => ?_, fun q => ?_⟩ <;> omega)) hP hD d_Mo_suitsOther_195
                            · have fc187_4 : rv7.toInt = 3 := zt_eq (show rv7.toInt = _ from rfl) tI_3 c187_4
                              refine lv_iconst (v := 1) hx hb d_Mo_suitsOther_190 (by decide) ?_
                              refine lv_goto (tgt := 195) hx hb d_Mo_suitsOther_191 (by decide) ?_
                              exact j_zret F hr (by decide +kernel) hlocks hK hS () (show ((1 : Int32).toInt = 1 ∧ othP p0.toInt S) ∨ (1 : Int32).toInt = 0 by have := tI_1; first | (right; omega) | (left; refine ⟨by omega, ?_⟩; unfold othP; refine ⟨fun q => ?_, fun q => ?_, fun q => ?_, fun q => ?_, fun q => ?_⟩ <;> omega)) hP hD d_Mo_suitsOther_195
                    · have fc148_2 : p0.toInt = 38 := zt_eq (show p0.toInt = _ from rfl) tI_38 c148_2
                      refine lv_iload_n hx hb d_Mo_suitsOther_151 rfl (lv_at hl 1 rfl) ?_
                      refine lv_iconst (v := 5) hx hb d_Mo_suitsOther_152 (by decide) ?_
                      refine lv_icmp_eq (tgt := 162) hx hb d_Mo_suitsOther_153 (by decide) (fun c153_2 => ?_) (fun c153_2 => ?_)
                      · have fc153_2 : rv1.toInt = 5 := zt_eq (show rv1.toInt = _ from rfl) tI_5 c153_2
                        refine lv_iconst (v := 1) hx hb d_Mo_suitsOther_162 (by decide) ?_
                        refine lv_goto (tgt := 167) hx hb d_Mo_suitsOther_163 (by decide) ?_
                        exact j_zret F hr (by decide +kernel) hlocks hK hS () (show ((1 : Int32).toInt = 1 ∧ othP p0.toInt S) ∨ (1 : Int32).toInt = 0 by have := tI_1; first | (right; omega) | (left; refine ⟨by omega, ?_⟩; unfold othP; refine ⟨fun q => ?_, fun q => ?_, fun q => ?_, fun q => ?_, fun q => ?_⟩ <;> omega)) hP hD d_Mo_suitsOther_167
                      · have fc153_2 : ¬ rv1.toInt = 5 := zt_ne (show rv1.toInt = _ from rfl) tI_5 c153_2
                        refine lv_iload_n hx hb d_Mo_suitsOther_156 rfl (lv_at hl 1 rfl) ?_
                        refine lv_bipush (v := 6) hx hb d_Mo_suitsOther_157 (by decide) ?_
                        refine lv_icmp_ne (tgt := 166) hx hb d_Mo_suitsOther_159 (by decide) (fun c159_2 => ?_) (fun c159_2 => ?_)
                        · have fc159_2 : ¬ rv1.toInt = 6 := zt_ne (show rv1.toInt = _ from rfl) tI_6 c159_2
                          refine lv_iconst (v := 0) hx hb d_Mo_suitsOther_166 (by decide) ?_
                          exact j_zret F hr (by decide +kernel) hlocks hK hS () (show ((0 : Int32).toInt = 1 ∧ othP p0.toInt S) ∨ (0 : Int32).toInt = 0 by have := tI_0; first | (right; omega) | (left; refine ⟨by omega, ?_⟩; unfold othP; refine ⟨fun q => ?_, fun q => ?_, fun q => ?_, fun q => ?_, fun q => ?_⟩ <;> omega)) hP hD d_Mo_suitsOther_167
                        · have fc159_2 : rv1.toInt = 6 := zt_eq (show rv1.toInt = _ from rfl) tI_6 c159_2
                          refine lv_iconst (v := 1) hx hb d_Mo_suitsOther_162 (by decide) ?_
                          refine lv_goto (tgt := 167) hx hb d_Mo_suitsOther_163 (by decide) ?_
                          exact j_zret F hr (by decide +kernel) hlocks hK hS () (show ((1 : Int32).toInt = 1 ∧ othP p0.toInt S) ∨ (1 : Int32).toInt = 0 by have := tI_1; first | (right; omega) | (left; refine ⟨by omega, ?_⟩; unfold othP; refine ⟨fun q => ?_, fun q => ?_, fun q => ?_, fun q => ?_, fun q => ?_⟩ <;> omega)) hP hD d_Mo_suitsOther_167
                  · have fc127_2 : p0.toInt = 31 := zt_eq (show p0.toInt = _ from rfl) tI_31 c127_2
                    refine lv_iload_n hx hb d_Mo_suitsOther_130 rfl (lv_at hl 1 rfl) ?_
                    refine lv_iconst (v := 2) hx hb d_Mo_suitsOther_131 (by decide) ?_
                    refine lv_icmp_eq (tgt := 139) hx hb d_Mo_suitsOther_132 (by decide) (fun c132_2 => ?_) (fun c132_2 => ?_)
                    · have fc132_2 : rv1.toInt = 2 := zt_eq (show rv1.toInt = _ from rfl) tI_2 c132_2
                      refine lv_iconst (v := 1) hx hb d_Mo_suitsOther_139 (by decide) ?_
                      refine lv_goto (tgt := 144) hx hb d_Mo_suitsOther_140 (by decide) ?_
                      exact j_zret F hr (by decide +kernel) hlocks hK hS () (show ((1 : Int32).toInt = 1 ∧ othP p0.toInt S) ∨ (1 : Int32).toInt = 0 by have := tI_1; first | (right; omega) | (left; refine ⟨by omega, ?_⟩; unfold othP; refine ⟨fun q => ?_, fun q => ?_, fun q => ?_, fun q => ?_, fun q => ?_⟩ <;> omega)) hP hD d_Mo_suitsOther_144
                    · have fc132_2 : ¬ rv1.toInt = 2 := zt_ne (show rv1.toInt = _ from rfl) tI_2 c132_2
                      refine lv_iload_n hx hb d_Mo_suitsOther_135 rfl (lv_at hl 1 rfl) ?_
                      refine lv_if_ne (tgt := 143) hx hb d_Mo_suitsOther_136 (by decide) (fun c136_2 => ?_) (fun c136_2 => ?_)
                      · have fc136_2 : ¬ rv1.toInt = 0 := zt_ne (show rv1.toInt = _ from rfl) tI_0 c136_2
                        refine lv_iconst (v := 0) hx hb d_Mo_suitsOther_143 (by decide) ?_
                        exact j_zret F hr (by decide +kernel) hlocks hK hS () (show ((0 : Int32).toInt = 1 ∧ othP p0.toInt S) ∨ (0 : Int32).toInt = 0 by have := tI_0; first | (right; omega) | (left; refine ⟨by omega, ?_⟩; unfold othP; refine ⟨fun q => ?_, fun q => ?_, fun q => ?_, fun q => ?_, fun q => ?_⟩ <;> omega)) hP hD d_Mo_suitsOther_144
                      · have fc136_2 : rv1.toInt = 0 := zt_eq (show rv1.toInt = _ from rfl) tI_0 c136_2
                        refine lv_iconst (v := 1) hx hb d_Mo_suitsOther_139 (by decide) ?_
                        refine lv_goto (tgt := 144) hx hb d_Mo_suitsOther_140 (by decide) ?_
                        exact j_zret F hr (by decide +kernel) hlocks hK hS () (show ((1 : Int32).toInt = 1 ∧ othP p0.toInt S) ∨ (1 : Int32).toInt = 0 by have := tI_1; first | (right; omega) | (left; refine ⟨by omega, ?_⟩; unfold othP; refine ⟨fun q => ?_, fun q => ?_, fun q => ?_, fun q => ?_, fun q => ?_⟩ <;> omega)) hP hD d_Mo_suitsOther_144
                · have fc95_2 : p0.toInt = 30 := zt_eq (show p0.toInt = _ from rfl) tI_30 c95_2
                  refine lv_iload_n hx hb d_Mo_suitsOther_98 rfl (lv_at hl 1 rfl) ?_
                  refine lv_iconst (v := 2) hx hb d_Mo_suitsOther_99 (by decide) ?_
                  refine lv_icmp_eq (tgt := 107) hx hb d_Mo_suitsOther_100 (by decide) (fun c100_4 => ?_) (fun c100_4 => ?_)
                  · have fc100_4 : rv1.toInt = 2 := zt_eq (show rv1.toInt = _ from rfl) tI_2 c100_4
                    refine lv_aload_n hx hb d_Mo_suitsOther_107 rfl (lv_at hl 3 rfl) ?_
                    refine lv_iload_n hx hb d_Mo_suitsOther_108 rfl (lv_at hl 2 rfl) ?_
                    refine lv_iconst (v := 1) hx hb d_Mo_suitsOther_109 (by decide) ?_
                    refine lv_isub hx hb d_Mo_suitsOther_110 ?_
                    refine j_eqi (y := x6) ex6.symm ?_
                    refine jm_ci (w := (fun _ => S)) hK hP hD hS hA (va_runV (As := [.int x6]) (rest := []) F (m_kindOf l D T h0 ar S x6 H.size (show 0 ≤ x6.toInt ∧ x6.toInt < 1300 by first | omega | (simp only [fx6]; omega)) (show 0 ≤ ((a_kinds S) x6.toInt.toNat).toInt by first | omega | (simp only [fx6]; omega))) (j_cV (k := 1) (C := "PageScribeModel") hts k_7_174 k_1_12 k_7_171 k_7_173 k_0_102 (by decide +kernel) ⟨Nat.le_of_ble_eq_true rfl, Nat.le_of_ble_eq_true rfl⟩) (jm_pre hK hP hD) rfl rfl hl.1 rfl (lv_room (Nat.le_of_ble_eq_true rfl)) d_Mo_suitsOther_111 ⟨Nat.le_of_ble_eq_true rfl, Nat.le_of_ble_eq_true rfl⟩) (fun rv10 u10 H locs hw10 hP hD hS => ?_)
                    have hP : va_P D classes (mW T h0 ar S) H := hP
                    have hD : va_D A (mW T h0 ar S) := hD
                    have qhw10 : rv10.toInt = ((a_kinds S) ((f_size S).toInt - 2).toNat).toInt % 8 := by simpa only [fx6] using hw10
                    refine lv_iload_n hx hb d_Mo_suitsOther_114 rfl (lv_at hl 1 rfl) ?_
                    refine lv_icmp_ne (tgt := 122) hx hb d_Mo_suitsOther_115 (by decide) (fun c115_7 => ?_) (fun c115_7 => ?_)
                    · have fc115_7 : ¬ rv10.toInt = rv1.toInt := zt_ne (show rv10.toInt = _ from rfl) (show rv1.toInt = _ from rfl) c115_7
                      refine lv_iconst (v := 0) hx hb d_Mo_suitsOther_122 (by decide) ?_
                      exact j_zret F hr (by decide +kernel) hlocks hK hS () (show ((0 : Int32).toInt = 1 ∧ othP p0.toInt S) ∨ (0 : Int32).toInt = 0 by have := tI_0; first | (right; omega) | (left; refine ⟨by omega, ?_⟩; unfold othP; refine ⟨fun q => ?_, fun q => ?_, fun q => ?_, fun q => ?_, fun q => ?_⟩ <;> omega)) hP hD d_Mo_suitsOther_123
                    · have fc115_7 : rv10.toInt = rv1.toInt := zt_eq (show rv10.toInt = _ from rfl) (show rv1.toInt = _ from rfl) c115_7
                      refine lv_iconst (v := 1) hx hb d_Mo_suitsOther_118 (by decide) ?_
                      refine lv_goto (tgt := 123) hx hb d_Mo_suitsOther_119 (by decide) ?_
                      exact j_zret F hr (by decide +kernel) hlocks hK hS () (show ((1 : Int32).toInt = 1 ∧ othP p0.toInt S) ∨ (1 : Int32).toInt = 0 by have := tI_1; first | (right; omega) | (left; refine ⟨by omega, ?_⟩; unfold othP; refine ⟨fun q => ?_, fun q => ?_, fun q => ?_, fun q => ?_, fun q => ?_⟩ <;> omega)) hP hD d_Mo_suitsOther_123
                  · have fc100_4 : ¬ rv1.toInt = 2 := zt_ne (show rv1.toInt = _ from rfl) tI_2 c100_4
                    refine lv_iload_n hx hb d_Mo_suitsOther_103 rfl (lv_at hl 1 rfl) ?_
                    refine lv_if_ne (tgt := 122) hx hb d_Mo_suitsOther_104 (by decide) (fun c104_4 => ?_) (fun c104_4 => ?_)
                    · have fc104_4 : ¬ rv1.toInt = 0 := zt_ne (show rv1.toInt = _ from rfl) tI_0 c104_4
                      refine lv_iconst (v := 0) hx hb d_Mo_suitsOther_122 (by decide) ?_
                      exact j_zret F hr (by decide +kernel) hlocks hK hS () (show ((0 : Int32).toInt = 1 ∧ othP p0.toInt S) ∨ (0 : Int32).toInt = 0 by have := tI_0; first | (right; omega) | (left; refine ⟨by omega, ?_⟩; unfold othP; refine ⟨fun q => ?_, fun q => ?_, fun q => ?_, fun q => ?_, fun q => ?_⟩ <;> omega)) hP hD d_Mo_suitsOther_123
                    · have fc104_4 : rv1.toInt = 0 := zt_eq (show rv1.toInt = _ from rfl) tI_0 c104_4
                      refine lv_aload_n hx hb d_Mo_suitsOther_107 rfl (lv_at hl 3 rfl) ?_
                      refine lv_iload_n hx hb d_Mo_suitsOther_108 rfl (lv_at hl 2 rfl) ?_
                      refine lv_iconst (v := 1) hx hb d_Mo_suitsOther_109 (by decide) ?_
                      refine lv_isub hx hb d_Mo_suitsOther_110 ?_
                      refine j_eqi (y := x6) ex6.symm ?_
                      refine jm_ci (w := (fun _ => S)) hK hP hD hS hA (va_runV (As := [.int x6]) (rest := []) F (m_kindOf l D T h0 ar S x6 H.size (show 0 ≤ x6.toInt ∧ x6.toInt < 1300 by first | omega | (simp only [fx6]; omega)) (show 0 ≤ ((a_kinds S) x6.toInt.toNat).toInt by first | omega | (simp only [fx6]; omega))) (j_cV (k := 1) (C := "PageScribeModel") hts k_7_174 k_1_12 k_7_171 k_7_173 k_0_102 (by decide +kernel) ⟨Nat.le_of_ble_eq_true rfl, Nat.le_of_ble_eq_true rfl⟩) (jm_pre hK hP hD) rfl rfl hl.1 rfl (lv_room (Nat.le_of_ble_eq_true rfl)) d_Mo_suitsOther_111 ⟨Nat.le_of_ble_eq_true rfl, Nat.le_of_ble_eq_true rfl⟩) (fun rv11 u11 H locs hw11 hP hD hS => ?_)
                      have hP : va_P D classes (mW T h0 ar S) H := hP
                      have hD : va_D A (mW T h0 ar S) := hD
                      have qhw11 : rv11.toInt = ((a_kinds S) ((f_size S).toInt - 2).toNat).toInt % 8 := by simpa only [fx6] using hw11
                      refine lv_iload_n hx hb d_Mo_suitsOther_114 rfl (lv_at hl 1 rfl) ?_
                      refine lv_icmp_ne (tgt := 122) hx hb d_Mo_suitsOther_115 (by decide) (fun c115_8 => ?_) (fun c115_8 => ?_)
                      · have fc115_8 : ¬ rv11.toInt = rv1.toInt := zt_ne (show rv11.toInt = _ from rfl) (show rv1.toInt = _ from rfl) c115_8
                        refine lv_iconst (v := 0) hx hb d_Mo_suitsOther_122 (by decide) ?_
                        exact j_zret F hr (by decide +kernel) hlocks hK hS () (show ((0 : Int32).toInt = 1 ∧ othP p0.toInt S) ∨ (0 : Int32).toInt = 0 by have := tI_0; first | (right; omega) | (left; refine ⟨by omega, ?_⟩; unfold othP; refine ⟨fun q => ?_, fun q => ?_, fun q => ?_, fun q => ?_, fun q => ?_⟩ <;> omega)) hP hD d_Mo_suitsOther_123
                      · have fc115_8 : rv11.toInt = rv1.toInt := zt_eq (show rv11.toInt = _ from rfl) (show rv1.toInt = _ from rfl) c115_8
                        refine lv_iconst (v := 1) hx hb d_Mo_suitsOther_118 (by decide) ?_
                        refine lv_goto (tgt := 123) hx hb d_Mo_suitsOther_119 (by decide) ?_
                        exact j_zret F hr (by decide +kernel) hlocks hK hS () (show ((1 : Int32).toInt = 1 ∧ othP p0.toInt S) ∨ (1 : Int32).toInt = 0 by have := tI_1; first | (right; omega) | (left; refine ⟨by omega, ?_⟩; unfold othP; refine ⟨fun q => ?_, fun q => ?_, fun q => ?_, fun q => ?_, fun q => ?_⟩ <;> omega)) hP hD d_Mo_suitsOther_123
          · have fc49_1 : p0.toInt = 39 := zt_eq (show p0.toInt = _ from rfl) tI_39 c49_1
            refine lv_iload_n hx hb d_Mo_suitsOther_52 rfl (lv_at hl 0 rfl) ?_
            refine lv_iconst (v := 1) hx hb d_Mo_suitsOther_53 (by decide) ?_
            refine lv_isub hx hb d_Mo_suitsOther_54 ?_
            refine lv_topi (fun x7 ex7 => ?_)
            have fx7 : x7.toInt = ((f_size S).toInt - 2) := by rw [ex7]; exact (zt_sub fx1 tI_1 (by omega) (by omega)).trans (by omega)
            refine lv_goto (tgt := 59) hx hb d_Mo_suitsOther_55 (by decide) ?_
            have kv7 : vOk ((a_kinds S) (((f_size S).toInt - 2).toNat)) ((a_codes S) (((f_size S).toInt - 2).toNat)) ((a_reals S) (((f_size S).toInt - 2).toNat)) := i_vals (((f_size S).toInt - 2).toNat) (by omega)
            have rkv7 := vk_rng kv7
            refine jm_ci (w := (fun _ => S)) hK hP hD hS hA (va_runV (As := [.int x7]) (rest := []) F (m_kindOf l D T h0 ar S x7 s.heap.size (show 0 ≤ x7.toInt ∧ x7.toInt < 1300 by first | omega | (simp only [fx7]; omega)) (show 0 ≤ ((a_kinds S) x7.toInt.toNat).toInt by first | omega | (simp only [fx7]; omega))) (j_cV (k := 1) (C := "PageScribeModel") hts k_7_174 k_1_12 k_7_171 k_7_173 k_0_102 (by decide +kernel) ⟨Nat.le_of_ble_eq_true rfl, Nat.le_of_ble_eq_true rfl⟩) (jm_pre hK hP hD) rfl rfl hl.1 rfl (lv_room (Nat.le_of_ble_eq_true rfl)) d_Mo_suitsOther_59 ⟨Nat.le_of_ble_eq_true rfl, Nat.le_of_ble_eq_true rfl⟩) (fun rv12 u12 H locs hw12 hP hD hS => ?_)
            have hP : va_P D classes (mW T h0 ar S) H := hP
            have hD : va_D A (mW T h0 ar S) := hD
            have qhw12 : rv12.toInt = ((a_kinds S) ((f_size S).toInt - 2).toNat).toInt % 8 := by simpa only [fx7] using hw12
            refine lv_istore_n (lv' := [(3, .int rv12), (2, .int x1), (0, .ref h0), (1, .int p0)]) hx hb d_Mo_suitsOther_62 rfl hl (by decide) rfl (fun ls hl => ?_)
            refine lv_iload_n hx hb d_Mo_suitsOther_63 rfl (lv_at hl 3 rfl) ?_
            refine lv_bipush (v := 40) hx hb d_Mo_suitsOther_64 (by decide) ?_
            refine lv_icmp_ne (tgt := 79) hx hb d_Mo_suitsOther_66 (by decide) (fun c66_2 => ?_) (fun c66_2 => ?_)
            · have fc66_2 : ¬ p0.toInt = 40 := zt_ne (show p0.toInt = _ from rfl) tI_40 c66_2
              refine lv_aload_n hx hb d_Mo_suitsOther_79 rfl (lv_at hl 2 rfl) ?_
              refine lv_iload_n hx hb d_Mo_suitsOther_80 rfl (lv_at hl 1 rfl) ?_
              have kv8 : vOk ((a_kinds S) (((f_size S).toInt - 1).toNat)) ((a_codes S) (((f_size S).toInt - 1).toNat)) ((a_reals S) (((f_size S).toInt - 1).toNat)) := i_vals (((f_size S).toInt - 1).toNat) (by omega)
              have rkv8 := vk_rng kv8
              refine jm_ci (w := (fun _ => S)) hK hP hD hS hA (va_runV (As := [.int x1]) (rest := []) F (m_kindOf l D T h0 ar S x1 H.size (show 0 ≤ x1.toInt ∧ x1.toInt < 1300 by first | omega | (simp only [fx1]; omega)) (show 0 ≤ ((a_kinds S) x1.toInt.toNat).toInt by first | omega | (simp only [fx1]; omega))) (j_cV (k := 1) (C := "PageScribeModel") hts k_7_174 k_1_12 k_7_171 k_7_173 k_0_102 (by decide +kernel) ⟨Nat.le_of_ble_eq_true rfl, Nat.le_of_ble_eq_true rfl⟩) (jm_pre hK hP hD) rfl rfl hl.1 rfl (lv_room (Nat.le_of_ble_eq_true rfl)) d_Mo_suitsOther_81 ⟨Nat.le_of_ble_eq_true rfl, Nat.le_of_ble_eq_true rfl⟩) (fun rv13 u13 H locs hw13 hP hD hS => ?_)
              have hP : va_P D classes (mW T h0 ar S) H := hP
              have hD : va_D A (mW T h0 ar S) := hD
              have qhw13 : rv13.toInt = ((a_kinds S) ((f_size S).toInt - 1).toNat).toInt % 8 := by simpa only [fx1] using hw13
              refine lv_istore (lv' := [(4, .int rv13), (3, .int rv12), (2, .int x1), (0, .ref h0), (1, .int p0)]) hx hb d_Mo_suitsOther_84 hl (by decide) rfl (fun ls hl => ?_)
              refine lv_iload_n hx hb d_Mo_suitsOther_86 rfl (lv_at hl 4 rfl) ?_
              refine lv_bipush (v := 29) hx hb d_Mo_suitsOther_87 (by decide) ?_
              refine lv_icmp_eq (tgt := 98) hx hb d_Mo_suitsOther_89 (by decide) (fun c89_3 => ?_) (fun c89_3 => ?_)
              · have fc89_3 : p0.toInt = 29 := zt_eq (show p0.toInt = _ from rfl) tI_29 c89_3
                refine lv_iload_n hx hb d_Mo_suitsOther_98 rfl (lv_at hl 1 rfl) ?_
                refine lv_iconst (v := 2) hx hb d_Mo_suitsOther_99 (by decide) ?_
                refine lv_icmp_eq (tgt := 107) hx hb d_Mo_suitsOther_100 (by decide) (fun c100_5 => ?_) (fun c100_5 => ?_)
                · have fc100_5 : rv12.toInt = 2 := zt_eq (show rv12.toInt = _ from rfl) tI_2 c100_5
                  refine lv_aload_n hx hb d_Mo_suitsOther_107 rfl (lv_at hl 3 rfl) ?_
                  refine lv_iload_n hx hb d_Mo_suitsOther_108 rfl (lv_at hl 2 rfl) ?_
                  refine lv_iconst (v := 1) hx hb d_Mo_suitsOther_109 (by decide) ?_
                  refine lv_isub hx hb d_Mo_suitsOther_110 ?_
                  refine j_eqi (y := x7) ex7.symm ?_
                  refine jm_ci (w := (fun _ => S)) hK hP hD hS hA (va_runV (As := [.int x7]) (rest := []) F (m_kindOf l D T h0 ar S x7 H.size (show 0 ≤ x7.toInt ∧ x7.toInt < 1300 by first | omega | (simp only [fx7]; omega)) (show 0 ≤ ((a_kinds S) x7.toInt.toNat).toInt by first | omega | (simp only [fx7]; omega))) (j_cV (k := 1) (C := "PageScribeModel") hts k_7_174 k_1_12 k_7_171 k_7_173 k_0_102 (by decide +kernel) ⟨Nat.le_of_ble_eq_true rfl, Nat.le_of_ble_eq_true rfl⟩) (jm_pre hK hP hD) rfl rfl hl.1 rfl (lv_room (Nat.le_of_ble_eq_true rfl)) d_Mo_suitsOther_111 ⟨Nat.le_of_ble_eq_true rfl, Nat.le_of_ble_eq_true rfl⟩) (fun rv14 u14 H locs hw14 hP hD hS => ?_)
                  have hP : va_P D classes (mW T h0 ar S) H := hP
                  have hD : va_D A (mW T h0 ar S) := hD
                  have qhw14 : rv14.toInt = ((a_kinds S) ((f_size S).toInt - 2).toNat).toInt % 8 := by simpa only [fx7] using hw14
                  refine lv_iload_n hx hb d_Mo_suitsOther_114 rfl (lv_at hl 1 rfl) ?_
                  refine lv_icmp_ne (tgt := 122) hx hb d_Mo_suitsOther_115 (by decide) (fun c115_9 => ?_) (fun c115_9 => ?_)
                  · have fc115_9 : ¬ rv14.toInt = rv12.toInt := zt_ne (show rv14.toInt = _ from rfl) (show rv12.toInt = _ from rfl) c115_9
                    refine lv_iconst (v := 0) hx hb d_Mo_suitsOther_122 (by decide) ?_
                    exact j_zret F hr (by decide +kernel) hlocks hK hS () (show ((0 : Int32).toInt = 1 ∧ othP p0.toInt S) ∨ (0 : Int32).toInt = 0 by have := tI_0; first | (right; omega) | (left; refine ⟨by omega, ?_⟩; unfold othP; refine ⟨fun q => ?_, fun q => ?_, fun q => ?_, fun q => ?_, fun q => ?_⟩ <;> omega)) hP hD d_Mo_suitsOther_123
                  · have fc115_9 : rv14.toInt = rv12.toInt := zt_eq (show rv14.toInt = _ from rfl) (show rv12.toInt = _ from rfl) c115_9
                    refine lv_iconst (v := 1) hx hb d_Mo_suitsOther_118 (by decide) ?_
                    refine lv_goto (tgt := 123) hx hb d_Mo_suitsOther_119 (by decide) ?_
                    exact j_zret F hr (by decide +kernel) hlocks hK hS () (show ((1 : Int32).toInt = 1 ∧ othP p0.toInt S) ∨ (1 : Int32).toInt = 0 by have := tI_1; first | (right; omega) | (left; refine ⟨by omega, ?_⟩; unfold othP; refine ⟨fun q => ?_, fun q => ?_, fun q => ?_, fun q => ?_, fun q => ?_⟩ <;> omega)) hP hD d_Mo_suitsOther_123
                · have fc100_5 : ¬ rv12.toInt = 2 := zt_ne (show rv12.toInt = _ from rfl) tI_2 c100_5
                  refine lv_iload_n hx hb d_Mo_suitsOther_103 rfl (lv_at hl 1 rfl) ?_
                  refine lv_if_ne (tgt := 122) hx hb d_Mo_suitsOther_104 (by decide) (fun c104_5 => ?_) (fun c104_5 => ?_)
                  · have fc104_5 : ¬ rv12.toInt = 0 := zt_ne (show rv12.toInt = _ from rfl) tI_0 c104_5
                    refine lv_iconst (v := 0) hx hb d_Mo_suitsOther_122 (by decide) ?_
                    exact j_zret F hr (by decide +kernel) hlocks hK hS () (show ((0 : Int32).toInt = 1 ∧ othP p0.toInt S) ∨ (0 : Int32).toInt = 0 by have := tI_0; first | (right; omega) | (left; refine ⟨by omega, ?_⟩; unfold othP; refine ⟨fun q => ?_, fun q => ?_, fun q => ?_, fun q => ?_, fun q => ?_⟩ <;> omega)) hP hD d_Mo_suitsOther_123
                  · have fc104_5 : rv12.toInt = 0 := zt_eq (show rv12.toInt = _ from rfl) tI_0 c104_5
                    refine lv_aload_n hx hb d_Mo_suitsOther_107 rfl (lv_at hl 3 rfl) ?_
                    refine lv_iload_n hx hb d_Mo_suitsOther_108 rfl (lv_at hl 2 rfl) ?_
                    refine lv_iconst (v := 1) hx hb d_Mo_suitsOther_109 (by decide) ?_
                    refine lv_isub hx hb d_Mo_suitsOther_110 ?_
                    refine j_eqi (y := x7) ex7.symm ?_
                    refine jm_ci (w := (fun _ => S)) hK hP hD hS hA (va_runV (As := [.int x7]) (rest := []) F (m_kindOf l D T h0 ar S x7 H.size (show 0 ≤ x7.toInt ∧ x7.toInt < 1300 by first | omega | (simp only [fx7]; omega)) (show 0 ≤ ((a_kinds S) x7.toInt.toNat).toInt by first | omega | (simp only [fx7]; omega))) (j_cV (k := 1) (C := "PageScribeModel") hts k_7_174 k_1_12 k_7_171 k_7_173 k_0_102 (by decide +kernel) ⟨Nat.le_of_ble_eq_true rfl, Nat.le_of_ble_eq_true rfl⟩) (jm_pre hK hP hD) rfl rfl hl.1 rfl (lv_room (Nat.le_of_ble_eq_true rfl)) d_Mo_suitsOther_111 ⟨Nat.le_of_ble_eq_true rfl, Nat.le_of_ble_eq_true rfl⟩) (fun rv15 u15 H locs hw15 hP hD hS => ?_)
                    have hP : va_P D classes (mW T h0 ar S) H := hP
                    have hD : va_D A (mW T h0 ar S) := hD
                    have qhw15 : rv15.toInt = ((a_kinds S) ((f_size S).toInt - 2).toNat).toInt % 8 := by simpa only [fx7] using hw15
                    refine lv_iload_n hx hb d_Mo_suitsOther_114 rfl (lv_at hl 1 rfl) ?_
                    refine lv_icmp_ne (tgt := 122) hx hb d_Mo_suitsOther_115 (by decide) (fun c115_10 => ?_) (fun c115_10 => ?_)
                    · have fc115_10 : ¬ rv15.toInt = rv12.toInt := zt_ne (show rv15.toInt = _ from rfl) (show rv12.toInt = _ from rfl) c115_10
                      refine lv_iconst (v := 0) hx hb d_Mo_suitsOther_122 (by decide) ?_
                      exact j_zret F hr (by decide +kernel) hlocks hK hS () (show ((0 : Int32).toInt = 1 ∧ othP p0.toInt S) ∨ (0 : Int32).toInt = 0 by have := tI_0; first | (right; omega) | (left; refine ⟨by omega, ?_⟩; unfold othP; refine ⟨fun q => ?_, fun q => ?_, fun q => ?_, fun q => ?_, fun q => ?_⟩ <;> omega)) hP hD d_Mo_suitsOther_123
                    · have fc115_10 : rv15.toInt = rv12.toInt := zt_eq (show rv15.toInt = _ from rfl) (show rv12.toInt = _ from rfl) c115_10
                      refine lv_iconst (v := 1) hx hb d_Mo_suitsOther_118 (by decide) ?_
                      refine lv_goto (tgt := 123) hx hb d_Mo_suitsOther_119 (by decide) ?_
                      exact j_zret F hr (by decide +kernel) hlocks hK hS () (show ((1 : Int32).toInt = 1 ∧ othP p0.toInt S) ∨ (1 : Int32).toInt = 0 by have := tI_1; first | (right; omega) | (left; refine ⟨by omega, ?_⟩; unfold othP; refine ⟨fun q => ?_, fun q => ?_, fun q => ?_, fun q => ?_, fun q => ?_⟩ <;> omega)) hP hD d_Mo_suitsOther_123
              · have fc89_3 : ¬ p0.toInt = 29 := zt_ne (show p0.toInt = _ from rfl) tI_29 c89_3
                refine lv_iload_n hx hb d_Mo_suitsOther_92 rfl (lv_at hl 4 rfl) ?_
                refine lv_bipush (v := 30) hx hb d_Mo_suitsOther_93 (by decide) ?_
                refine lv_icmp_ne (tgt := 124) hx hb d_Mo_suitsOther_95 (by decide) (fun c95_3 => ?_) (fun c95_3 => ?_)
                · have fc95_3 : ¬ p0.toInt = 30 := zt_ne (show p0.toInt = _ from rfl) tI_30 c95_3
                  refine lv_iload_n hx hb d_Mo_suitsOther_124 rfl (lv_at hl 4 rfl) ?_
                  refine lv_bipush (v := 31) hx hb d_Mo_suitsOther_125 (by decide) ?_
                  refine lv_icmp_ne (tgt := 145) hx hb d_Mo_suitsOther_127 (by decide) (fun c127_3 => ?_) (fun c127_3 => ?_)
                  · have fc127_3 : ¬ p0.toInt = 31 := zt_ne (show p0.toInt = _ from rfl) tI_31 c127_3
                    refine lv_iload_n hx hb d_Mo_suitsOther_145 rfl (lv_at hl 4 rfl) ?_
                    refine lv_bipush (v := 38) hx hb d_Mo_suitsOther_146 (by decide) ?_
                    refine lv_icmp_ne (tgt := 168) hx hb d_Mo_suitsOther_148 (by decide) (fun c148_3 => ?_) (fun c148_3 => ?_)
                    · have fc148_3 : ¬ p0.toInt = 38 := zt_ne (show p0.toInt = _ from rfl) tI_38 c148_3
                      refine lv_iload_n hx hb d_Mo_suitsOther_168 rfl (lv_at hl 1 rfl) ?_
                      refine lv_iconst (v := 5) hx hb d_Mo_suitsOther_169 (by decide) ?_
                      refine lv_icmp_ne (tgt := 178) hx hb d_Mo_suitsOther_170 (by decide) (fun c170_3 => ?_) (fun c170_3 => ?_)
                      · have fc170_3 : ¬ rv12.toInt = 5 := zt_ne (show rv12.toInt = _ from rfl) tI_5 c170_3
                        refine lv_iload_n hx hb d_Mo_suitsOther_178 rfl (lv_at hl 1 rfl) ?_
                        refine lv_bipush (v := 6) hx hb d_Mo_suitsOther_179 (by decide) ?_
                        refine lv_icmp_ne (tgt := 194) hx hb d_Mo_suitsOther_181 (by decide) (fun c181_5 => ?_) (fun c181_5 => ?_)
                        · have fc181_5 : ¬ rv12.toInt = 6 := zt_ne (show rv12.toInt = _ from rfl) tI_6 c181_5
                          refine lv_iconst (v := 0) hx hb d_Mo_suitsOther_194 (by decide) ?_
                          exact j_zret F hr (by decide +kernel) hlocks hK hS () (show ((0 : Int32).toInt = 1 ∧ othP p0.toInt S) ∨ (0 : Int32).toInt = 0 by have := tI_0; first | (right; omega) | (left; refine ⟨by omega, ?_⟩; unfold othP; refine ⟨fun q => ?_, fun q => ?_, fun q => ?_, fun q => ?_, fun q => ?_⟩ <;> omega)) hP hD d_Mo_suitsOther_195
                        · have fc181_5 : rv12.toInt = 6 := zt_eq (show rv12.toInt = _ from rfl) tI_6 c181_5
                          refine lv_iload hx hb d_Mo_suitsOther_184 (lv_at hl 0 rfl) ?_
                          refine lv_iconst (v := 3) hx hb d_Mo_suitsOther_186 (by decide) ?_
                          refine lv_icmp_ne (tgt := 194) hx hb d_Mo_suitsOther_187 (by decide) (fun c187_5 => ?_) (fun c187_5 => ?_)
                          · have fc187_5 : ¬ rv13.toInt = 3 := zt_ne (show rv13.toInt = _ from rfl) tI_3 c187_5
                            refine lv_iconst (v := 0) hx hb d_Mo_suitsOther_194 (by decide) ?_
                            exact j_zret F hr (by decide +kernel) hlocks hK hS () (show ((0 : Int32).toInt = 1 ∧ othP p0.toInt S) ∨ (0 : Int32).toInt = 0 by have := tI_0; first | (right; omega) | (left; refine ⟨by omega, ?_⟩; unfold othP; refine ⟨fun q => ?_, fun q => ?_, fun q => ?_, fun q => ?_, fun q => ?_⟩ <;> omega)) hP hD d_Mo_suitsOther_195
                          · have fc187_5 : rv13.toInt = 3 := zt_eq (show rv13.toInt = _ from rfl) tI_3 c187_5
                            refine lv_iconst (v := 1) hx hb d_Mo_suitsOther_190 (by decide) ?_
                            refine lv_goto (tgt := 195) hx hb d_Mo_suitsOther_191 (by decide) ?_
                            exact j_zret F hr (by decide +kernel) hlocks hK hS () (show ((1 : Int32).toInt = 1 ∧ othP p0.toInt S) ∨ (1 : Int32).toInt = 0 by have := tI_1; first | (right; omega) | (left; refine ⟨by omega, ?_⟩; unfold othP; refine ⟨fun q => ?_, fun q => ?_, fun q => ?_, fun q => ?_, fun q => ?_⟩ <;> omega)) hP hD d_Mo_suitsOther_195
                      · have fc170_3 : rv12.toInt = 5 := zt_eq (show rv12.toInt = _ from rfl) tI_5 c170_3
                        refine lv_iload hx hb d_Mo_suitsOther_173 (lv_at hl 0 rfl) ?_
                        refine lv_if_eq (tgt := 190) hx hb d_Mo_suitsOther_175 (by decide) (fun c175_3 => ?_) (fun c175_3 => ?_)
                        · have fc175_3 : rv13.toInt = 0 := zt_eq (show rv13.toInt = _ from rfl) tI_0 c175_3
                          refine lv_iconst (v := 1) hx hb d_Mo_suitsOther_190 (by decide) ?_
                          refine lv_goto (tgt := 195) hx hb d_Mo_suitsOther_191 (by decide) ?_
                          exact j_zret F hr (by decide +kernel) hlocks hK hS () (show ((1 : Int32).toInt = 1 ∧ othP p0.toInt S) ∨ (1 : Int32).toInt = 0 by have := tI_1; first | (right; omega) | (left; refine ⟨by omega, ?_⟩; unfold othP; refine ⟨fun q => ?_, fun q => ?_, fun q => ?_, fun q => ?_, fun q => ?_⟩ <;> omega)) hP hD d_Mo_suitsOther_195
                        · have fc175_3 : ¬ rv13.toInt = 0 := zt_ne (show rv13.toInt = _ from rfl) tI_0 c175_3
                          refine lv_iload_n hx hb d_Mo_suitsOther_178 rfl (lv_at hl 1 rfl) ?_
                          refine lv_bipush (v := 6) hx hb d_Mo_suitsOther_179 (by decide) ?_
                          refine lv_icmp_ne (tgt := 194) hx hb d_Mo_suitsOther_181 (by decide) (fun c181_6 => ?_) (fun c181_6 => ?_)
                          · have fc181_6 : ¬ rv12.toInt = 6 := zt_ne (show rv12.toInt = _ from rfl) tI_6 c181_6
                            refine lv_iconst (v := 0) hx hb d_Mo_suitsOther_194 (by decide) ?_
                            exact j_zret F hr (by decide +kernel) hlocks hK hS () (show ((0 : Int32).toInt = 1 ∧ othP p0.toInt S) ∨ (0 : Int32).toInt = 0 by have := tI_0; first | (right; omega) | (left; refine ⟨by omega, ?_⟩; unfold othP; refine ⟨fun q => ?_, fun q => ?_, fun q => ?_, fun q => ?_, fun q => ?_⟩ <;> omega)) hP hD d_Mo_suitsOther_195
                          · have fc181_6 : rv12.toInt = 6 := zt_eq (show rv12.toInt = _ from rfl) tI_6 c181_6
                            refine lv_iload hx hb d_Mo_suitsOther_184 (lv_at hl 0 rfl) ?_
                            refine lv_iconst (v := 3) hx hb d_Mo_suitsOther_186 (by decide) ?_
                            refine lv_icmp_ne (tgt := 194) hx hb d_Mo_suitsOther_187 (by decide) (fun c187_6 => ?_) (fun c187_6 => ?_)
                            · have fc187_6 : ¬ rv13.toInt = 3 := zt_ne (show rv13.toInt = _ from rfl) tI_3 c187_6
                              refine lv_iconst (v := 0) hx hb d_Mo_suitsOther_194 (by decide) ?_
                              exact j_zret F hr (by decide +kernel) hlocks hK hS () (show ((0 : Int32).toInt = 1 ∧ othP p0.toInt S) ∨ (0 : Int32).toInt = 0 by have := tI_0; first | (right; omega) | (left; refine ⟨by omega, ?_⟩; unfold othP; refine ⟨fun q => ?_, fun q => ?_, fun q => ?_, fun q => ?_, fun q => ?_⟩ <;> omega)) hP hD d_Mo_suitsOther_195
                            · have fc187_6 : rv13.toInt = 3 := zt_eq (show rv13.toInt = _ from rfl) tI_3 c187_6
                              refine lv_iconst (v := 1) hx hb d_Mo_suitsOther_190 (by decide) ?_
                              refine lv_goto (tgt := 195) hx hb d_Mo_suitsOther_191 (by decide) ?_
                              exact j_zret F hr (by decide +kernel) hlocks hK hS () (show ((1 : Int32).toInt = 1 ∧ othP p0.toInt S) ∨ (1 : Int32).toInt = 0 by have := tI_1; first | (right; omega) | (left; refine ⟨by omega, ?_⟩; unfold othP; refine ⟨fun q => ?_, fun q => ?_, fun q => ?_, fun q => ?_, fun q => ?_⟩ <;> omega)) hP hD d_Mo_suitsOther_195
                    · have fc148_3 : p0.toInt = 38 := zt_eq (show p0.toInt = _ from rfl) tI_38 c148_3
                      refine lv_iload_n hx hb d_Mo_suitsOther_151 rfl (lv_at hl 1 rfl) ?_
                      refine lv_iconst (v := 5) hx hb d_Mo_suitsOther_152 (by decide) ?_
                      refine lv_icmp_eq (tgt := 162) hx hb d_Mo_suitsOther_153 (by decide) (fun c153_3 => ?_) (fun c153_3 => ?_)
                      · have fc153_3 : rv12.toInt = 5 := zt_eq (show rv12.toInt = _ from rfl) tI_5 c153_3
                        refine lv_iconst (v := 1) hx hb d_Mo_suitsOther_162 (by decide) ?_
                        refine lv_goto (tgt := 167) hx hb d_Mo_suitsOther_163 (by decide) ?_
                        exact j_zret F hr (by decide +kernel) hlocks hK hS () (show ((1 : Int32).toInt = 1 ∧ othP p0.toInt S) ∨ (1 : Int32).toInt = 0 by have := tI_1; first | (right; omega) | (left; refine ⟨by omega, ?_⟩; unfold othP; refine ⟨fun q => ?_, fun q => ?_, fun q => ?_, fun q => ?_, fun q => ?_⟩ <;> omega)) hP hD d_Mo_suitsOther_167
                      · have fc153_3 : ¬ rv12.toInt = 5 := zt_ne (show rv12.toInt = _ from rfl) tI_5 c153_3
                        refine lv_iload_n hx hb d_Mo_suitsOther_156 rfl (lv_at hl 1 rfl) ?_
                        refine lv_bipush (v := 6) hx hb d_Mo_suitsOther_157 (by decide) ?_
                        refine lv_icmp_ne (tgt := 166) hx hb d_Mo_suitsOther_159 (by decide) (fun c159_3 => ?_) (fun c159_3 => ?_)
                        · have fc159_3 : ¬ rv12.toInt = 6 := zt_ne (show rv12.toInt = _ from rfl) tI_6 c159_3
                          refine lv_iconst (v := 0) hx hb d_Mo_suitsOther_166 (by decide) ?_
                          exact j_zret F hr (by decide +kernel) hlocks hK hS () (show ((0 : Int32).toInt = 1 ∧ othP p0.toInt S) ∨ (0 : Int32).toInt = 0 by have := tI_0; first | (right; omega) | (left; refine ⟨by omega, ?_⟩; unfold othP; refine ⟨fun q => ?_, fun q => ?_, fun q => ?_, fun q => ?_, fun q => ?_⟩ <;> omega)) hP hD d_Mo_suitsOther_167
                        · have fc159_3 : rv12.toInt = 6 := zt_eq (show rv12.toInt = _ from rfl) tI_6 c159_3
                          refine lv_iconst (v := 1) hx hb d_Mo_suitsOther_162 (by decide) ?_
                          refine lv_goto (tgt := 167) hx hb d_Mo_suitsOther_163 (by decide) ?_
                          exact j_zret F hr (by decide +kernel) hlocks hK hS () (show ((1 : Int32).toInt = 1 ∧ othP p0.toInt S) ∨ (1 : Int32).toInt = 0 by have := tI_1; first | (right; omega) | (left; refine ⟨by omega, ?_⟩; unfold othP; refine ⟨fun q => ?_, fun q => ?_, fun q => ?_, fun q => ?_, fun q => ?_⟩ <;> omega)) hP hD d_Mo_suitsOther_167
                  · have fc127_3 : p0.toInt = 31 := zt_eq (show p0.toInt = _ from rfl) tI_31 c127_3
                    refine lv_iload_n hx hb d_Mo_suitsOther_130 rfl (lv_at hl 1 rfl) ?_
                    refine lv_iconst (v := 2) hx hb d_Mo_suitsOther_131 (by decide) ?_
                    refine lv_icmp_eq (tgt := 139) hx hb d_Mo_suitsOther_132 (by decide) (fun c132_3 => ?_) (fun c132_3 => ?_)
                    · have fc132_3 : rv12.toInt = 2 := zt_eq (show rv12.toInt = _ from rfl) tI_2 c132_3
                      refine lv_iconst (v := 1) hx hb d_Mo_suitsOther_139 (by decide) ?_
                      refine lv_goto (tgt := 144) hx hb d_Mo_suitsOther_140 (by decide) ?_
                      exact j_zret F hr (by decide +kernel) hlocks hK hS () (show ((1 : Int32).toInt = 1 ∧ othP p0.toInt S) ∨ (1 : Int32).toInt = 0 by have := tI_1; first | (right; omega) | (left; refine ⟨by omega, ?_⟩; unfold othP; refine ⟨fun q => ?_, fun q => ?_, fun q => ?_, fun q => ?_, fun q => ?_⟩ <;> omega)) hP hD d_Mo_suitsOther_144
                    · have fc132_3 : ¬ rv12.toInt = 2 := zt_ne (show rv12.toInt = _ from rfl) tI_2 c132_3
                      refine lv_iload_n hx hb d_Mo_suitsOther_135 rfl (lv_at hl 1 rfl) ?_
                      refine lv_if_ne (tgt := 143) hx hb d_Mo_suitsOther_136 (by decide) (fun c136_3 => ?_) (fun c136_3 => ?_)
                      · have fc136_3 : ¬ rv12.toInt = 0 := zt_ne (show rv12.toInt = _ from rfl) tI_0 c136_3
                        refine lv_iconst (v := 0) hx hb d_Mo_suitsOther_143 (by decide) ?_
                        exact j_zret F hr (by decide +kernel) hlocks hK hS () (show ((0 : Int32).toInt = 1 ∧ othP p0.toInt S) ∨ (0 : Int32).toInt = 0 by have := tI_0; first | (right; omega) | (left; refine ⟨by omega, ?_⟩; unfold othP; refine ⟨fun q => ?_, fun q => ?_, fun q => ?_, fun q => ?_, fun q => ?_⟩ <;> omega)) hP hD d_Mo_suitsOther_144
                      · have fc136_3 : rv12.toInt = 0 := zt_eq (show rv12.toInt = _ from rfl) tI_0 c136_3
                        refine lv_iconst (v := 1) hx hb d_Mo_suitsOther_139 (by decide) ?_
                        refine lv_goto (tgt := 144) hx hb d_Mo_suitsOther_140 (by decide) ?_
                        exact j_zret F hr (by decide +kernel) hlocks hK hS () (show ((1 : Int32).toInt = 1 ∧ othP p0.toInt S) ∨ (1 : Int32).toInt = 0 by have := tI_1; first | (right; omega) | (left; refine ⟨by omega, ?_⟩; unfold othP; refine ⟨fun q => ?_, fun q => ?_, fun q => ?_, fun q => ?_, fun q => ?_⟩ <;> omega)) hP hD d_Mo_suitsOther_144
                · have fc95_3 : p0.toInt = 30 := zt_eq (show p0.toInt = _ from rfl) tI_30 c95_3
                  refine lv_iload_n hx hb d_Mo_suitsOther_98 rfl (lv_at hl 1 rfl) ?_
                  refine lv_iconst (v := 2) hx hb d_Mo_suitsOther_99 (by decide) ?_
                  refine lv_icmp_eq (tgt := 107) hx hb d_Mo_suitsOther_100 (by decide) (fun c100_6 => ?_) (fun c100_6 => ?_)
                  · have fc100_6 : rv12.toInt = 2 := zt_eq (show rv12.toInt = _ from rfl) tI_2 c100_6
                    refine lv_aload_n hx hb d_Mo_suitsOther_107 rfl (lv_at hl 3 rfl) ?_
                    refine lv_iload_n hx hb d_Mo_suitsOther_108 rfl (lv_at hl 2 rfl) ?_
                    refine lv_iconst (v := 1) hx hb d_Mo_suitsOther_109 (by decide) ?_
                    refine lv_isub hx hb d_Mo_suitsOther_110 ?_
                    refine j_eqi (y := x7) ex7.symm ?_
                    refine jm_ci (w := (fun _ => S)) hK hP hD hS hA (va_runV (As := [.int x7]) (rest := []) F (m_kindOf l D T h0 ar S x7 H.size (show 0 ≤ x7.toInt ∧ x7.toInt < 1300 by first | omega | (simp only [fx7]; omega)) (show 0 ≤ ((a_kinds S) x7.toInt.toNat).toInt by first | omega | (simp only [fx7]; omega))) (j_cV (k := 1) (C := "PageScribeModel") hts k_7_174 k_1_12 k_7_171 k_7_173 k_0_102 (by decide +kernel) ⟨Nat.le_of_ble_eq_true rfl, Nat.le_of_ble_eq_true rfl⟩) (jm_pre hK hP hD) rfl rfl hl.1 rfl (lv_room (Nat.le_of_ble_eq_true rfl)) d_Mo_suitsOther_111 ⟨Nat.le_of_ble_eq_true rfl, Nat.le_of_ble_eq_true rfl⟩) (fun rv16 u16 H locs hw16 hP hD hS => ?_)
                    have hP : va_P D classes (mW T h0 ar S) H := hP
                    have hD : va_D A (mW T h0 ar S) := hD
                    have qhw16 : rv16.toInt = ((a_kinds S) ((f_size S).toInt - 2).toNat).toInt % 8 := by simpa only [fx7] using hw16
                    refine lv_iload_n hx hb d_Mo_suitsOther_114 rfl (lv_at hl 1 rfl) ?_
                    refine lv_icmp_ne (tgt := 122) hx hb d_Mo_suitsOther_115 (by decide) (fun c115_11 => ?_) (fun c115_11 => ?_)
                    · have fc115_11 : ¬ rv16.toInt = rv12.toInt := zt_ne (show rv16.toInt = _ from rfl) (show rv12.toInt = _ from rfl) c115_11
                      refine lv_iconst (v := 0) hx hb d_Mo_suitsOther_122 (by decide) ?_
                      exact j_zret F hr (by decide +kernel) hlocks hK hS () (show ((0 : Int32).toInt = 1 ∧ othP p0.toInt S) ∨ (0 : Int32).toInt = 0 by have := tI_0; first | (right; omega) | (left; refine ⟨by omega, ?_⟩; unfold othP; refine ⟨fun q => ?_, fun q => ?_, fun q => ?_, fun q => ?_, fun q => ?_⟩ <;> omega)) hP hD d_Mo_suitsOther_123
                    · have fc115_11 : rv16.toInt = rv12.toInt := zt_eq (show rv16.toInt = _ from rfl) (show rv12.toInt = _ from rfl) c115_11
                      refine lv_iconst (v := 1) hx hb d_Mo_suitsOther_118 (by decide) ?_
                      refine lv_goto (tgt := 123) hx hb d_Mo_suitsOther_119 (by decide) ?_
                      exact j_zret F hr (by decide +kernel) hlocks hK hS () (show ((1 : Int32).toInt = 1 ∧ othP p0.toInt S) ∨ (1 : Int32).toInt = 0 by have := tI_1; first | (right; omega) | (left; refine ⟨by omega, ?_⟩; unfold othP; refine ⟨fun q => ?_, fun q => ?_, fun q => ?_, fun q => ?_, fun q => ?_⟩ <;> omega)) hP hD d_Mo_suitsOther_123
                  · have fc100_6 : ¬ rv12.toInt = 2 := zt_ne (show rv12.toInt = _ from rfl) tI_2 c100_6
                    refine lv_iload_n hx hb d_Mo_suitsOther_103 rfl (lv_at hl 1 rfl) ?_
                    refine lv_if_ne (tgt := 122) hx hb d_Mo_suitsOther_104 (by decide) (fun c104_6 => ?_) (fun c104_6 => ?_)
                    · have fc104_6 : ¬ rv12.toInt = 0 := zt_ne (show rv12.toInt = _ from rfl) tI_0 c104_6
                      refine lv_iconst (v := 0) hx hb d_Mo_suitsOther_122 (by decide) ?_
                      exact j_zret F hr (by decide +kernel) hlocks hK hS () (show ((0 : Int32).toInt = 1 ∧ othP p0.toInt S) ∨ (0 : Int32).toInt = 0 by have := tI_0; first | (right; omega) | (left; refine ⟨by omega, ?_⟩; unfold othP; refine ⟨fun q => ?_, fun q => ?_, fun q => ?_, fun q => ?_, fun q => ?_⟩ <;> omega)) hP hD d_Mo_suitsOther_123
                    · have fc104_6 : rv12.toInt = 0 := zt_eq (show rv12.toInt = _ from rfl) tI_0 c104_6
                      refine lv_aload_n hx hb d_Mo_suitsOther_107 rfl (lv_at hl 3 rfl) ?_
                      refine lv_iload_n hx hb d_Mo_suitsOther_108 rfl (lv_at hl 2 rfl) ?_
                      refine lv_iconst (v := 1) hx hb d_Mo_suitsOther_109 (by decide) ?_
                      refine lv_isub hx hb d_Mo_suitsOther_110 ?_
                      refine j_eqi (y := x7) ex7.symm ?_
                      refine jm_ci (w := (fun _ => S)) hK hP hD hS hA (va_runV (As := [.int x7]) (rest := []) F (m_kindOf l D T h0 ar S x7 H.size (show 0 ≤ x7.toInt ∧ x7.toInt < 1300 by first | omega | (simp only [fx7]; omega)) (show 0 ≤ ((a_kinds S) x7.toInt.toNat).toInt by first | omega | (simp only [fx7]; omega))) (j_cV (k := 1) (C := "PageScribeModel") hts k_7_174 k_1_12 k_7_171 k_7_173 k_0_102 (by decide +kernel) ⟨Nat.le_of_ble_eq_true rfl, Nat.le_of_ble_eq_true rfl⟩) (jm_pre hK hP hD) rfl rfl hl.1 rfl (lv_room (Nat.le_of_ble_eq_true rfl)) d_Mo_suitsOther_111 ⟨Nat.le_of_ble_eq_true rfl, Nat.le_of_ble_eq_true rfl⟩) (fun rv17 u17 H locs hw17 hP hD hS => ?_)
                      have hP : va_P D classes (mW T h0 ar S) H := hP
                      have hD : va_D A (mW T h0 ar S) := hD
                      have qhw17 : rv17.toInt = ((a_kinds S) ((f_size S).toInt - 2).toNat).toInt % 8 := by simpa only [fx7] using hw17
                      refine lv_iload_n hx hb d_Mo_suitsOther_114 rfl (lv_at hl 1 rfl) ?_
                      refine lv_icmp_ne (tgt := 122) hx hb d_Mo_suitsOther_115 (by decide) (fun c115_12 => ?_) (fun c115_12 => ?_)
                      · have fc115_12 : ¬ rv17.toInt = rv12.toInt := zt_ne (show rv17.toInt = _ from rfl) (show rv12.toInt = _ from rfl) c115_12
                        refine lv_iconst (v := 0) hx hb d_Mo_suitsOther_122 (by decide) ?_
                        exact j_zret F hr (by decide +kernel) hlocks hK hS () (show ((0 : Int32).toInt = 1 ∧ othP p0.toInt S) ∨ (0 : Int32).toInt = 0 by have := tI_0; first | (right; omega) | (left; refine ⟨by omega, ?_⟩; unfold othP; refine ⟨fun q => ?_, fun q => ?_, fun q => ?_, fun q => ?_, fun q => ?_⟩ <;> omega)) hP hD d_Mo_suitsOther_123
                      · have fc115_12 : rv17.toInt = rv12.toInt := zt_eq (show rv17.toInt = _ from rfl) (show rv12.toInt = _ from rfl) c115_12
                        refine lv_iconst (v := 1) hx hb d_Mo_suitsOther_118 (by decide) ?_
                        refine lv_goto (tgt := 123) hx hb d_Mo_suitsOther_119 (by decide) ?_
                        exact j_zret F hr (by decide +kernel) hlocks hK hS () (show ((1 : Int32).toInt = 1 ∧ othP p0.toInt S) ∨ (1 : Int32).toInt = 0 by have := tI_1; first | (right; omega) | (left; refine ⟨by omega, ?_⟩; unfold othP; refine ⟨fun q => ?_, fun q => ?_, fun q => ?_, fun q => ?_, fun q => ?_⟩ <;> omega)) hP hD d_Mo_suitsOther_123
            · have fc66_2 : p0.toInt = 40 := zt_eq (show p0.toInt = _ from rfl) tI_40 c66_2
              refine lv_aload_n hx hb d_Mo_suitsOther_69 rfl (lv_at hl 2 rfl) ?_
              refine lv_iload_n hx hb d_Mo_suitsOther_70 rfl (lv_at hl 1 rfl) ?_
              refine lv_iconst (v := 1) hx hb d_Mo_suitsOther_71 (by decide) ?_
              refine lv_isub hx hb d_Mo_suitsOther_72 ?_
              refine j_eqi (y := x7) ex7.symm ?_
              refine jm_ci (w := (fun _ => S)) hK hP hD hS hA (va_runV (As := [.int x7]) (rest := []) F (m_kindOf l D T h0 ar S x7 H.size (show 0 ≤ x7.toInt ∧ x7.toInt < 1300 by first | omega | (simp only [fx7]; omega)) (show 0 ≤ ((a_kinds S) x7.toInt.toNat).toInt by first | omega | (simp only [fx7]; omega))) (j_cV (k := 1) (C := "PageScribeModel") hts k_7_174 k_1_12 k_7_171 k_7_173 k_0_102 (by decide +kernel) ⟨Nat.le_of_ble_eq_true rfl, Nat.le_of_ble_eq_true rfl⟩) (jm_pre hK hP hD) rfl rfl hl.1 rfl (lv_room (Nat.le_of_ble_eq_true rfl)) d_Mo_suitsOther_73 ⟨Nat.le_of_ble_eq_true rfl, Nat.le_of_ble_eq_true rfl⟩) (fun rv18 u18 H locs hw18 hP hD hS => ?_)
              have hP : va_P D classes (mW T h0 ar S) H := hP
              have hD : va_D A (mW T h0 ar S) := hD
              have qhw18 : rv18.toInt = ((a_kinds S) ((f_size S).toInt - 2).toNat).toInt % 8 := by simpa only [fx7] using hw18
              refine lv_goto (tgt := 84) hx hb d_Mo_suitsOther_76 (by decide) ?_
              refine lv_istore (lv' := [(4, .int rv18), (3, .int rv12), (2, .int x1), (0, .ref h0), (1, .int p0)]) hx hb d_Mo_suitsOther_84 hl (by decide) rfl (fun ls hl => ?_)
              refine lv_iload_n hx hb d_Mo_suitsOther_86 rfl (lv_at hl 4 rfl) ?_
              refine lv_bipush (v := 29) hx hb d_Mo_suitsOther_87 (by decide) ?_
              refine lv_icmp_eq (tgt := 98) hx hb d_Mo_suitsOther_89 (by decide) (fun c89_4 => ?_) (fun c89_4 => ?_)
              · have fc89_4 : p0.toInt = 29 := zt_eq (show p0.toInt = _ from rfl) tI_29 c89_4
                refine lv_iload_n hx hb d_Mo_suitsOther_98 rfl (lv_at hl 1 rfl) ?_
                refine lv_iconst (v := 2) hx hb d_Mo_suitsOther_99 (by decide) ?_
                refine lv_icmp_eq (tgt := 107) hx hb d_Mo_suitsOther_100 (by decide) (fun c100_7 => ?_) (fun c100_7 => ?_)
                · have fc100_7 : rv12.toInt = 2 := zt_eq (show rv12.toInt = _ from rfl) tI_2 c100_7
                  refine lv_aload_n hx hb d_Mo_suitsOther_107 rfl (lv_at hl 3 rfl) ?_
                  refine lv_iload_n hx hb d_Mo_suitsOther_108 rfl (lv_at hl 2 rfl) ?_
                  refine lv_iconst (v := 1) hx hb d_Mo_suitsOther_109 (by decide) ?_
                  refine lv_isub hx hb d_Mo_suitsOther_110 ?_
                  refine j_eqi (y := x7) ex7.symm ?_
                  refine jm_ci (w := (fun _ => S)) hK hP hD hS hA (va_runV (As := [.int x7]) (rest := []) F (m_kindOf l D T h0 ar S x7 H.size (show 0 ≤ x7.toInt ∧ x7.toInt < 1300 by first | omega | (simp only [fx7]; omega)) (show 0 ≤ ((a_kinds S) x7.toInt.toNat).toInt by first | omega | (simp only [fx7]; omega))) (j_cV (k := 1) (C := "PageScribeModel") hts k_7_174 k_1_12 k_7_171 k_7_173 k_0_102 (by decide +kernel) ⟨Nat.le_of_ble_eq_true rfl, Nat.le_of_ble_eq_true rfl⟩) (jm_pre hK hP hD) rfl rfl hl.1 rfl (lv_room (Nat.le_of_ble_eq_true rfl)) d_Mo_suitsOther_111 ⟨Nat.le_of_ble_eq_true rfl, Nat.le_of_ble_eq_true rfl⟩) (fun rv19 u19 H locs hw19 hP hD hS => ?_)
                  have hP : va_P D classes (mW T h0 ar S) H := hP
                  have hD : va_D A (mW T h0 ar S) := hD
                  have qhw19 : rv19.toInt = ((a_kinds S) ((f_size S).toInt - 2).toNat).toInt % 8 := by simpa only [fx7] using hw19
                  refine lv_iload_n hx hb d_Mo_suitsOther_114 rfl (lv_at hl 1 rfl) ?_
                  refine lv_icmp_ne (tgt := 122) hx hb d_Mo_suitsOther_115 (by decide) (fun c115_13 => ?_) (fun c115_13 => ?_)
                  · have fc115_13 : ¬ rv19.toInt = rv12.toInt := zt_ne (show rv19.toInt = _ from rfl) (show rv12.toInt = _ from rfl) c115_13
                    refine lv_iconst (v := 0) hx hb d_Mo_suitsOther_122 (by decide) ?_
                    exact j_zret F hr (by decide +kernel) hlocks hK hS () (show ((0 : Int32).toInt = 1 ∧ othP p0.toInt S) ∨ (0 : Int32).toInt = 0 by have := tI_0; first | (right; omega) | (left; refine ⟨by omega, ?_⟩; unfold othP; refine ⟨fun q => ?_, fun q => ?_, fun q => ?_, fun q => ?_, fun q => ?_⟩ <;> omega)) hP hD d_Mo_suitsOther_123
                  · have fc115_13 : rv19.toInt = rv12.toInt := zt_eq (show rv19.toInt = _ from rfl) (show rv12.toInt = _ from rfl) c115_13
                    refine lv_iconst (v := 1) hx hb d_Mo_suitsOther_118 (by decide) ?_
                    refine lv_goto (tgt := 123) hx hb d_Mo_suitsOther_119 (by decide) ?_
                    exact j_zret F hr (by decide +kernel) hlocks hK hS () (show ((1 : Int32).toInt = 1 ∧ othP p0.toInt S) ∨ (1 : Int32).toInt = 0 by have := tI_1; first | (right; omega) | (left; refine ⟨by omega, ?_⟩; unfold othP; refine ⟨fun q => ?_, fun q => ?_, fun q => ?_, fun q => ?_, fun q => ?_⟩ <;> omega)) hP hD d_Mo_suitsOther_123
                · have fc100_7 : ¬ rv12.toInt = 2 := zt_ne (show rv12.toInt = _ from rfl) tI_2 c100_7
                  refine lv_iload_n hx hb d_Mo_suitsOther_103 rfl (lv_at hl 1 rfl) ?_
                  refine lv_if_ne (tgt := 122) hx hb d_Mo_suitsOther_104 (by decide) (fun c104_7 => ?_) (fun c104_7 => ?_)
                  · have fc104_7 : ¬ rv12.toInt = 0 := zt_ne (show rv12.toInt = _ from rfl) tI_0 c104_7
                    refine lv_iconst (v := 0) hx hb d_Mo_suitsOther_122 (by decide) ?_
                    exact j_zret F hr (by decide +kernel) hlocks hK hS () (show ((0 : Int32).toInt = 1 ∧ othP p0.toInt S) ∨ (0 : Int32).toInt = 0 by have := tI_0; first | (right; omega) | (left; refine ⟨by omega, ?_⟩; unfold othP; refine ⟨fun q => ?_, fun q => ?_, fun q => ?_, fun q => ?_, fun q => ?_⟩ <;> omega)) hP hD d_Mo_suitsOther_123
                  · have fc104_7 : rv12.toInt = 0 := zt_eq (show rv12.toInt = _ from rfl) tI_0 c104_7
                    refine lv_aload_n hx hb d_Mo_suitsOther_107 rfl (lv_at hl 3 rfl) ?_
                    refine lv_iload_n hx hb d_Mo_suitsOther_108 rfl (lv_at hl 2 rfl) ?_
                    refine lv_iconst (v := 1) hx hb d_Mo_suitsOther_109 (by decide) ?_
                    refine lv_isub hx hb d_Mo_suitsOther_110 ?_
                    refine j_eqi (y := x7) ex7.symm ?_
                    refine jm_ci (w := (fun _ => S)) hK hP hD hS hA (va_runV (As := [.int x7]) (rest := []) F (m_kindOf l D T h0 ar S x7 H.size (show 0 ≤ x7.toInt ∧ x7.toInt < 1300 by first | omega | (simp only [fx7]; omega)) (show 0 ≤ ((a_kinds S) x7.toInt.toNat).toInt by first | omega | (simp only [fx7]; omega))) (j_cV (k := 1) (C := "PageScribeModel") hts k_7_174 k_1_12 k_7_171 k_7_173 k_0_102 (by decide +kernel) ⟨Nat.le_of_ble_eq_true rfl, Nat.le_of_ble_eq_true rfl⟩) (jm_pre hK hP hD) rfl rfl hl.1 rfl (lv_room (Nat.le_of_ble_eq_true rfl)) d_Mo_suitsOther_111 ⟨Nat.le_of_ble_eq_true rfl, Nat.le_of_ble_eq_true rfl⟩) (fun rv20 u20 H locs hw20 hP hD hS => ?_)
                    have hP : va_P D classes (mW T h0 ar S) H := hP
                    have hD : va_D A (mW T h0 ar S) := hD
                    have qhw20 : rv20.toInt = ((a_kinds S) ((f_size S).toInt - 2).toNat).toInt % 8 := by simpa only [fx7] using hw20
                    refine lv_iload_n hx hb d_Mo_suitsOther_114 rfl (lv_at hl 1 rfl) ?_
                    refine lv_icmp_ne (tgt := 122) hx hb d_Mo_suitsOther_115 (by decide) (fun c115_14 => ?_) (fun c115_14 => ?_)
                    · have fc115_14 : ¬ rv20.toInt = rv12.toInt := zt_ne (show rv20.toInt = _ from rfl) (show rv12.toInt = _ from rfl) c115_14
                      refine lv_iconst (v := 0) hx hb d_Mo_suitsOther_122 (by decide) ?_
                      exact j_zret F hr (by decide +kernel) hlocks hK hS () (show ((0 : Int32).toInt = 1 ∧ othP p0.toInt S) ∨ (0 : Int32).toInt = 0 by have := tI_0; first | (right; omega) | (left; refine ⟨by omega, ?_⟩; unfold othP; refine ⟨fun q => ?_, fun q => ?_, fun q => ?_, fun q => ?_, fun q => ?_⟩ <;> omega)) hP hD d_Mo_suitsOther_123
                    · have fc115_14 : rv20.toInt = rv12.toInt := zt_eq (show rv20.toInt = _ from rfl) (show rv12.toInt = _ from rfl) c115_14
                      refine lv_iconst (v := 1) hx hb d_Mo_suitsOther_118 (by decide) ?_
                      refine lv_goto (tgt := 123) hx hb d_Mo_suitsOther_119 (by decide) ?_
                      exact j_zret F hr (by decide +kernel) hlocks hK hS () (show ((1 : Int32).toInt = 1 ∧ othP p0.toInt S) ∨ (1 : Int32).toInt = 0 by have := tI_1; first | (right; omega) | (left; refine ⟨by omega, ?_⟩; unfold othP; refine ⟨fun q => ?_, fun q => ?_, fun q => ?_, fun q => ?_, fun q => ?_⟩ <;> omega)) hP hD d_Mo_suitsOther_123
              · have fc89_4 : ¬ p0.toInt = 29 := zt_ne (show p0.toInt = _ from rfl) tI_29 c89_4
                refine lv_iload_n hx hb d_Mo_suitsOther_92 rfl (lv_at hl 4 rfl) ?_
                refine lv_bipush (v := 30) hx hb d_Mo_suitsOther_93 (by decide) ?_
                refine lv_icmp_ne (tgt := 124) hx hb d_Mo_suitsOther_95 (by decide) (fun c95_4 => ?_) (fun c95_4 => ?_)
                · have fc95_4 : ¬ p0.toInt = 30 := zt_ne (show p0.toInt = _ from rfl) tI_30 c95_4
                  refine lv_iload_n hx hb d_Mo_suitsOther_124 rfl (lv_at hl 4 rfl) ?_
                  refine lv_bipush (v := 31) hx hb d_Mo_suitsOther_125 (by decide) ?_
                  refine lv_icmp_ne (tgt := 145) hx hb d_Mo_suitsOther_127 (by decide) (fun c127_4 => ?_) (fun c127_4 => ?_)
                  · have fc127_4 : ¬ p0.toInt = 31 := zt_ne (show p0.toInt = _ from rfl) tI_31 c127_4
                    refine lv_iload_n hx hb d_Mo_suitsOther_145 rfl (lv_at hl 4 rfl) ?_
                    refine lv_bipush (v := 38) hx hb d_Mo_suitsOther_146 (by decide) ?_
                    refine lv_icmp_ne (tgt := 168) hx hb d_Mo_suitsOther_148 (by decide) (fun c148_4 => ?_) (fun c148_4 => ?_)
                    · have fc148_4 : ¬ p0.toInt = 38 := zt_ne (show p0.toInt = _ from rfl) tI_38 c148_4
                      refine lv_iload_n hx hb d_Mo_suitsOther_168 rfl (lv_at hl 1 rfl) ?_
                      refine lv_iconst (v := 5) hx hb d_Mo_suitsOther_169 (by decide) ?_
                      refine lv_icmp_ne (tgt := 178) hx hb d_Mo_suitsOther_170 (by decide) (fun c170_4 => ?_) (fun c170_4 => ?_)
                      · have fc170_4 : ¬ rv12.toInt = 5 := zt_ne (show rv12.toInt = _ from rfl) tI_5 c170_4
                        refine lv_iload_n hx hb d_Mo_suitsOther_178 rfl (lv_at hl 1 rfl) ?_
                        refine lv_bipush (v := 6) hx hb d_Mo_suitsOther_179 (by decide) ?_
                        refine lv_icmp_ne (tgt := 194) hx hb d_Mo_suitsOther_181 (by decide) (fun c181_7 => ?_) (fun c181_7 => ?_)
                        · have fc181_7 : ¬ rv12.toInt = 6 := zt_ne (show rv12.toInt = _ from rfl) tI_6 c181_7
                          refine lv_iconst (v := 0) hx hb d_Mo_suitsOther_194 (by decide) ?_
                          exact j_zret F hr (by decide +kernel) hlocks hK hS () (show ((0 : Int32).toInt = 1 ∧ othP p0.toInt S) ∨ (0 : Int32).toInt = 0 by have := tI_0; first | (right; omega) | (left; refine ⟨by omega, ?_⟩; unfold othP; refine ⟨fun q => ?_, fun q => ?_, fun q => ?_, fun q => ?_, fun q => ?_⟩ <;> omega)) hP hD d_Mo_suitsOther_195
                        · have fc181_7 : rv12.toInt = 6 := zt_eq (show rv12.toInt = _ from rfl) tI_6 c181_7
                          refine lv_iload hx hb d_Mo_suitsOther_184 (lv_at hl 0 rfl) ?_
                          refine lv_iconst (v := 3) hx hb d_Mo_suitsOther_186 (by decide) ?_
                          refine lv_icmp_ne (tgt := 194) hx hb d_Mo_suitsOther_187 (by decide) (fun c187_7 => ?_) (fun c187_7 => ?_)
                          · have fc187_7 : ¬ rv18.toInt = 3 := zt_ne (show rv18.toInt = _ from rfl) tI_3 c187_7
                            refine lv_iconst (v := 0) hx hb d_Mo_suitsOther_194 (by decide) ?_
                            exact j_zret F hr (by decide +kernel) hlocks hK hS () (show ((0 : Int32).toInt = 1 ∧ othP p0.toInt S) ∨ (0 : Int32).toInt = 0 by have := tI_0; first | (right; omega) | (left; refine ⟨by omega, ?_⟩; unfold othP; refine ⟨fun q => ?_, fun q => ?_, fun q => ?_, fun q => ?_, fun q => ?_⟩ <;> omega)) hP hD d_Mo_suitsOther_195
                          · have fc187_7 : rv18.toInt = 3 := zt_eq (show rv18.toInt = _ from rfl) tI_3 c187_7
                            refine lv_iconst (v := 1) hx hb d_Mo_suitsOther_190 (by decide) ?_
                            refine lv_goto (tgt := 195) hx hb d_Mo_suitsOther_191 (by decide) ?_
                            exact j_zret F hr (by decide +kernel) hlocks hK hS () (show ((1 : Int32).toInt = 1 ∧ othP p0.toInt S) ∨ (1 : Int32).toInt = 0 by have := tI_1; first | (right; omega) | (left; refine ⟨by omega, ?_⟩; unfold othP; refine ⟨fun q => ?_, fun q => ?_, fun q => ?_, fun q => ?_, fun q => ?_⟩ <;> omega)) hP hD d_Mo_suitsOther_195
                      · have fc170_4 : rv12.toInt = 5 := zt_eq (show rv12.toInt = _ from rfl) tI_5 c170_4
                        refine lv_iload hx hb d_Mo_suitsOther_173 (lv_at hl 0 rfl) ?_
                        refine lv_if_eq (tgt := 190) hx hb d_Mo_suitsOther_175 (by decide) (fun c175_4 => ?_) (fun c175_4 => ?_)
                        · have fc175_4 : rv18.toInt = 0 := zt_eq (show rv18.toInt = _ from rfl) tI_0 c175_4
                          refine lv_iconst (v := 1) hx hb d_Mo_suitsOther_190 (by decide) ?_
                          refine lv_goto (tgt := 195) hx hb d_Mo_suitsOther_191 (by decide) ?_
                          exact j_zret F hr (by decide +kernel) hlocks hK hS () (show ((1 : Int32).toInt = 1 ∧ othP p0.toInt S) ∨ (1 : Int32).toInt = 0 by have := tI_1; first | (right; omega) | (left; refine ⟨by omega, ?_⟩; unfold othP; refine ⟨fun q => ?_, fun q => ?_, fun q => ?_, fun q => ?_, fun q => ?_⟩ <;> omega)) hP hD d_Mo_suitsOther_195
                        · have fc175_4 : ¬ rv18.toInt = 0 := zt_ne (show rv18.toInt = _ from rfl) tI_0 c175_4
                          refine lv_iload_n hx hb d_Mo_suitsOther_178 rfl (lv_at hl 1 rfl) ?_
                          refine lv_bipush (v := 6) hx hb d_Mo_suitsOther_179 (by decide) ?_
                          refine lv_icmp_ne (tgt := 194) hx hb d_Mo_suitsOther_181 (by decide) (fun c181_8 => ?_) (fun c181_8 => ?_)
                          · have fc181_8 : ¬ rv12.toInt = 6 := zt_ne (show rv12.toInt = _ from rfl) tI_6 c181_8
                            refine lv_iconst (v := 0) hx hb d_Mo_suitsOther_194 (by decide) ?_
                            exact j_zret F hr (by decide +kernel) hlocks hK hS () (show ((0 : Int32).toInt = 1 ∧ othP p0.toInt S) ∨ (0 : Int32).toInt = 0 by have := tI_0; first | (right; omega) | (left; refine ⟨by omega, ?_⟩; unfold othP; refine ⟨fun q => ?_, fun q => ?_, fun q => ?_, fun q => ?_, fun q => ?_⟩ <;> omega)) hP hD d_Mo_suitsOther_195
                          · have fc181_8 : rv12.toInt = 6 := zt_eq (show rv12.toInt = _ from rfl) tI_6 c181_8
                            refine lv_iload hx hb d_Mo_suitsOther_184 (lv_at hl 0 rfl) ?_
                            refine lv_iconst (v := 3) hx hb d_Mo_suitsOther_186 (by decide) ?_
                            refine lv_icmp_ne (tgt := 194) hx hb d_Mo_suitsOther_187 (by decide) (fun c187_8 => ?_) (fun c187_8 => ?_)
                            · have fc187_8 : ¬ rv18.toInt = 3 := zt_ne (show rv18.toInt = _ from rfl) tI_3 c187_8
                              refine lv_iconst (v := 0) hx hb d_Mo_suitsOther_194 (by decide) ?_
                              exact j_zret F hr (by decide +kernel) hlocks hK hS () (show ((0 : Int32).toInt = 1 ∧ othP p0.toInt S) ∨ (0 : Int32).toInt = 0 by have := tI_0; first | (right; omega) | (left; refine ⟨by omega, ?_⟩; unfold othP; refine ⟨fun q => ?_, fun q => ?_, fun q => ?_, fun q => ?_, fun q => ?_⟩ <;> omega)) hP hD d_Mo_suitsOther_195
                            · have fc187_8 : rv18.toInt = 3 := zt_eq (show rv18.toInt = _ from rfl) tI_3 c187_8
                              refine lv_iconst (v := 1) hx hb d_Mo_suitsOther_190 (by decide) ?_
                              refine lv_goto (tgt := 195) hx hb d_Mo_suitsOther_191 (by decide) ?_
                              exact j_zret F hr (by decide +kernel) hlocks hK hS () (show ((1 : Int32).toInt = 1 ∧ othP p0.toInt S) ∨ (1 : Int32).toInt = 0 by have := tI_1; first | (right; omega) | (left; refine ⟨by omega, ?_⟩; unfold othP; refine ⟨fun q => ?_, fun q => ?_, fun q => ?_, fun q => ?_, fun q => ?_⟩ <;> omega)) hP hD d_Mo_suitsOther_195
                    · have fc148_4 : p0.toInt = 38 := zt_eq (show p0.toInt = _ from rfl) tI_38 c148_4
                      refine lv_iload_n hx hb d_Mo_suitsOther_151 rfl (lv_at hl 1 rfl) ?_
                      refine lv_iconst (v := 5) hx hb d_Mo_suitsOther_152 (by decide) ?_
                      refine lv_icmp_eq (tgt := 162) hx hb d_Mo_suitsOther_153 (by decide) (fun c153_4 => ?_) (fun c153_4 => ?_)
                      · have fc153_4 : rv12.toInt = 5 := zt_eq (show rv12.toInt = _ from rfl) tI_5 c153_4
                        refine lv_iconst (v := 1) hx hb d_Mo_suitsOther_162 (by decide) ?_
                        refine lv_goto (tgt := 167) hx hb d_Mo_suitsOther_163 (by decide) ?_
                        exact j_zret F hr (by decide +kernel) hlocks hK hS () (show ((1 : Int32).toInt = 1 ∧ othP p0.toInt S) ∨ (1 : Int32).toInt = 0 by have := tI_1; first | (right; omega) | (left; refine ⟨by omega, ?_⟩; unfold othP; refine ⟨fun q => ?_, fun q => ?_, fun q => ?_, fun q => ?_, fun q => ?_⟩ <;> omega)) hP hD d_Mo_suitsOther_167
                      · have fc153_4 : ¬ rv12.toInt = 5 := zt_ne (show rv12.toInt = _ from rfl) tI_5 c153_4
                        refine lv_iload_n hx hb d_Mo_suitsOther_156 rfl (lv_at hl 1 rfl) ?_
                        refine lv_bipush (v := 6) hx hb d_Mo_suitsOther_157 (by decide) ?_
                        refine lv_icmp_ne (tgt := 166) hx hb d_Mo_suitsOther_159 (by decide) (fun c159_4 => ?_) (fun c159_4 => ?_)
                        · have fc159_4 : ¬ rv12.toInt = 6 := zt_ne (show rv12.toInt = _ from rfl) tI_6 c159_4
                          refine lv_iconst (v := 0) hx hb d_Mo_suitsOther_166 (by decide) ?_
                          exact j_zret F hr (by decide +kernel) hlocks hK hS () (show ((0 : Int32).toInt = 1 ∧ othP p0.toInt S) ∨ (0 : Int32).toInt = 0 by have := tI_0; first | (right; omega) | (left; refine ⟨by omega, ?_⟩; unfold othP; refine ⟨fun q => ?_, fun q => ?_, fun q => ?_, fun q => ?_, fun q => ?_⟩ <;> omega)) hP hD d_Mo_suitsOther_167
                        · have fc159_4 : rv12.toInt = 6 := zt_eq (show rv12.toInt = _ from rfl) tI_6 c159_4
                          refine lv_iconst (v := 1) hx hb d_Mo_suitsOther_162 (by decide) ?_
                          refine lv_goto (tgt := 167) hx hb d_Mo_suitsOther_163 (by decide) ?_
                          exact j_zret F hr (by decide +kernel) hlocks hK hS () (show ((1 : Int32).toInt = 1 ∧ othP p0.toInt S) ∨ (1 : Int32).toInt = 0 by have := tI_1; first | (right; omega) | (left; refine ⟨by omega, ?_⟩; unfold othP; refine ⟨fun q => ?_, fun q => ?_, fun q => ?_, fun q => ?_, fun q => ?_⟩ <;> omega)) hP hD d_Mo_suitsOther_167
                  · have fc127_4 : p0.toInt = 31 := zt_eq (show p0.toInt = _ from rfl) tI_31 c127_4
                    refine lv_iload_n hx hb d_Mo_suitsOther_130 rfl (lv_at hl 1 rfl) ?_
                    refine lv_iconst (v := 2) hx hb d_Mo_suitsOther_131 (by decide) ?_
                    refine lv_icmp_eq (tgt := 139) hx hb d_Mo_suitsOther_132 (by decide) (fun c132_4 => ?_) (fun c132_4 => ?_)
                    · have fc132_4 : rv12.toInt = 2 := zt_eq (show rv12.toInt = _ from rfl) tI_2 c132_4
                      refine lv_iconst (v := 1) hx hb d_Mo_suitsOther_139 (by decide) ?_
                      refine lv_goto (tgt := 144) hx hb d_Mo_suitsOther_140 (by decide) ?_
                      exact j_zret F hr (by decide +kernel) hlocks hK hS () (show ((1 : Int32).toInt = 1 ∧ othP p0.toInt S) ∨ (1 : Int32).toInt = 0 by have := tI_1; first | (right; omega) | (left; refine ⟨by omega, ?_⟩; unfold othP; refine ⟨fun q => ?_, fun q => ?_, fun q => ?_, fun q => ?_, fun q => ?_⟩ <;> omega)) hP hD d_Mo_suitsOther_144
                    · have fc132_4 : ¬ rv12.toInt = 2 := zt_ne (show rv12.toInt = _ from rfl) tI_2 c132_4
                      refine lv_iload_n hx hb d_Mo_suitsOther_135 rfl (lv_at hl 1 rfl) ?_
                      refine lv_if_ne (tgt := 143) hx hb d_Mo_suitsOther_136 (by decide) (fun c136_4 => ?_) (fun c136_4 => ?_)
                      · have fc136_4 : ¬ rv12.toInt = 0 := zt_ne (show rv12.toInt = _ from rfl) tI_0 c136_4
                        refine lv_iconst (v := 0) hx hb d_Mo_suitsOther_143 (by decide) ?_
                        exact j_zret F hr (by decide +kernel) hlocks hK hS () (show ((0 : Int32).toInt = 1 ∧ othP p0.toInt S) ∨ (0 : Int32).toInt = 0 by have := tI_0; first | (right; omega) | (left; refine ⟨by omega, ?_⟩; unfold othP; refine ⟨fun q => ?_, fun q => ?_, fun q => ?_, fun q => ?_, fun q => ?_⟩ <;> omega)) hP hD d_Mo_suitsOther_144
                      · have fc136_4 : rv12.toInt = 0 := zt_eq (show rv12.toInt = _ from rfl) tI_0 c136_4
                        refine lv_iconst (v := 1) hx hb d_Mo_suitsOther_139 (by decide) ?_
                        refine lv_goto (tgt := 144) hx hb d_Mo_suitsOther_140 (by decide) ?_
                        exact j_zret F hr (by decide +kernel) hlocks hK hS () (show ((1 : Int32).toInt = 1 ∧ othP p0.toInt S) ∨ (1 : Int32).toInt = 0 by have := tI_1; first | (right; omega) | (left; refine ⟨by omega, ?_⟩; unfold othP; refine ⟨fun q => ?_, fun q => ?_, fun q => ?_, fun q => ?_, fun q => ?_⟩ <;> omega)) hP hD d_Mo_suitsOther_144
                · have fc95_4 : p0.toInt = 30 := zt_eq (show p0.toInt = _ from rfl) tI_30 c95_4
                  refine lv_iload_n hx hb d_Mo_suitsOther_98 rfl (lv_at hl 1 rfl) ?_
                  refine lv_iconst (v := 2) hx hb d_Mo_suitsOther_99 (by decide) ?_
                  refine lv_icmp_eq (tgt := 107) hx hb d_Mo_suitsOther_100 (by decide) (fun c100_8 => ?_) (fun c100_8 => ?_)
                  · have fc100_8 : rv12.toInt = 2 := zt_eq (show rv12.toInt = _ from rfl) tI_2 c100_8
                    refine lv_aload_n hx hb d_Mo_suitsOther_107 rfl (lv_at hl 3 rfl) ?_
                    refine lv_iload_n hx hb d_Mo_suitsOther_108 rfl (lv_at hl 2 rfl) ?_
                    refine lv_iconst (v := 1) hx hb d_Mo_suitsOther_109 (by decide) ?_
                    refine lv_isub hx hb d_Mo_suitsOther_110 ?_
                    refine j_eqi (y := x7) ex7.symm ?_
                    refine jm_ci (w := (fun _ => S)) hK hP hD hS hA (va_runV (As := [.int x7]) (rest := []) F (m_kindOf l D T h0 ar S x7 H.size (show 0 ≤ x7.toInt ∧ x7.toInt < 1300 by first | omega | (simp only [fx7]; omega)) (show 0 ≤ ((a_kinds S) x7.toInt.toNat).toInt by first | omega | (simp only [fx7]; omega))) (j_cV (k := 1) (C := "PageScribeModel") hts k_7_174 k_1_12 k_7_171 k_7_173 k_0_102 (by decide +kernel) ⟨Nat.le_of_ble_eq_true rfl, Nat.le_of_ble_eq_true rfl⟩) (jm_pre hK hP hD) rfl rfl hl.1 rfl (lv_room (Nat.le_of_ble_eq_true rfl)) d_Mo_suitsOther_111 ⟨Nat.le_of_ble_eq_true rfl, Nat.le_of_ble_eq_true rfl⟩) (fun rv21 u21 H locs hw21 hP hD hS => ?_)
                    have hP : va_P D classes (mW T h0 ar S) H := hP
                    have hD : va_D A (mW T h0 ar S) := hD
                    have qhw21 : rv21.toInt = ((a_kinds S) ((f_size S).toInt - 2).toNat).toInt % 8 := by simpa only [fx7] using hw21
                    refine lv_iload_n hx hb d_Mo_suitsOther_114 rfl (lv_at hl 1 rfl) ?_
                    refine lv_icmp_ne (tgt := 122) hx hb d_Mo_suitsOther_115 (by decide) (fun c115_15 => ?_) (fun c115_15 => ?_)
                    · have fc115_15 : ¬ rv21.toInt = rv12.toInt := zt_ne (show rv21.toInt = _ from rfl) (show rv12.toInt = _ from rfl) c115_15
                      refine lv_iconst (v := 0) hx hb d_Mo_suitsOther_122 (by decide) ?_
                      exact j_zret F hr (by decide +kernel) hlocks hK hS () (show ((0 : Int32).toInt = 1 ∧ othP p0.toInt S) ∨ (0 : Int32).toInt = 0 by have := tI_0; first | (right; omega) | (left; refine ⟨by omega, ?_⟩; unfold othP; refine ⟨fun q => ?_, fun q => ?_, fun q => ?_, fun q => ?_, fun q => ?_⟩ <;> omega)) hP hD d_Mo_suitsOther_123
                    · have fc115_15 : rv21.toInt = rv12.toInt := zt_eq (show rv21.toInt = _ from rfl) (show rv12.toInt = _ from rfl) c115_15
                      refine lv_iconst (v := 1) hx hb d_Mo_suitsOther_118 (by decide) ?_
                      refine lv_goto (tgt := 123) hx hb d_Mo_suitsOther_119 (by decide) ?_
                      exact j_zret F hr (by decide +kernel) hlocks hK hS () (show ((1 : Int32).toInt = 1 ∧ othP p0.toInt S) ∨ (1 : Int32).toInt = 0 by have := tI_1; first | (right; omega) | (left; refine ⟨by omega, ?_⟩; unfold othP; refine ⟨fun q => ?_, fun q => ?_, fun q => ?_, fun q => ?_, fun q => ?_⟩ <;> omega)) hP hD d_Mo_suitsOther_123
                  · have fc100_8 : ¬ rv12.toInt = 2 := zt_ne (show rv12.toInt = _ from rfl) tI_2 c100_8
                    refine lv_iload_n hx hb d_Mo_suitsOther_103 rfl (lv_at hl 1 rfl) ?_
                    refine lv_if_ne (tgt := 122) hx hb d_Mo_suitsOther_104 (by decide) (fun c104_8 => ?_) (fun c104_8 => ?_)
                    · have fc104_8 : ¬ rv12.toInt = 0 := zt_ne (show rv12.toInt = _ from rfl) tI_0 c104_8
                      refine lv_iconst (v := 0) hx hb d_Mo_suitsOther_122 (by decide) ?_
                      exact j_zret F hr (by decide +kernel) hlocks hK hS () (show ((0 : Int32).toInt = 1 ∧ othP p0.toInt S) ∨ (0 : Int32).toInt = 0 by have := tI_0; first | (right; omega) | (left; refine ⟨by omega, ?_⟩; unfold othP; refine ⟨fun q => ?_, fun q => ?_, fun q => ?_, fun q => ?_, fun q => ?_⟩ <;> omega)) hP hD d_Mo_suitsOther_123
                    · have fc104_8 : rv12.toInt = 0 := zt_eq (show rv12.toInt = _ from rfl) tI_0 c104_8
                      refine lv_aload_n hx hb d_Mo_suitsOther_107 rfl (lv_at hl 3 rfl) ?_
                      refine lv_iload_n hx hb d_Mo_suitsOther_108 rfl (lv_at hl 2 rfl) ?_
                      refine lv_iconst (v := 1) hx hb d_Mo_suitsOther_109 (by decide) ?_
                      refine lv_isub hx hb d_Mo_suitsOther_110 ?_
                      refine j_eqi (y := x7) ex7.symm ?_
                      refine jm_ci (w := (fun _ => S)) hK hP hD hS hA (va_runV (As := [.int x7]) (rest := []) F (m_kindOf l D T h0 ar S x7 H.size (show 0 ≤ x7.toInt ∧ x7.toInt < 1300 by first | omega | (simp only [fx7]; omega)) (show 0 ≤ ((a_kinds S) x7.toInt.toNat).toInt by first | omega | (simp only [fx7]; omega))) (j_cV (k := 1) (C := "PageScribeModel") hts k_7_174 k_1_12 k_7_171 k_7_173 k_0_102 (by decide +kernel) ⟨Nat.le_of_ble_eq_true rfl, Nat.le_of_ble_eq_true rfl⟩) (jm_pre hK hP hD) rfl rfl hl.1 rfl (lv_room (Nat.le_of_ble_eq_true rfl)) d_Mo_suitsOther_111 ⟨Nat.le_of_ble_eq_true rfl, Nat.le_of_ble_eq_true rfl⟩) (fun rv22 u22 H locs hw22 hP hD hS => ?_)
                      have hP : va_P D classes (mW T h0 ar S) H := hP
                      have hD : va_D A (mW T h0 ar S) := hD
                      have qhw22 : rv22.toInt = ((a_kinds S) ((f_size S).toInt - 2).toNat).toInt % 8 := by simpa only [fx7] using hw22
                      refine lv_iload_n hx hb d_Mo_suitsOther_114 rfl (lv_at hl 1 rfl) ?_
                      refine lv_icmp_ne (tgt := 122) hx hb d_Mo_suitsOther_115 (by decide) (fun c115_16 => ?_) (fun c115_16 => ?_)
                      · have fc115_16 : ¬ rv22.toInt = rv12.toInt := zt_ne (show rv22.toInt = _ from rfl) (show rv12.toInt = _ from rfl) c115_16
                        refine lv_iconst (v := 0) hx hb d_Mo_suitsOther_122 (by decide) ?_
                        exact j_zret F hr (by decide +kernel) hlocks hK hS () (show ((0 : Int32).toInt = 1 ∧ othP p0.toInt S) ∨ (0 : Int32).toInt = 0 by have := tI_0; first | (right; omega) | (left; refine ⟨by omega, ?_⟩; unfold othP; refine ⟨fun q => ?_, fun q => ?_, fun q => ?_, fun q => ?_, fun q => ?_⟩ <;> omega)) hP hD d_Mo_suitsOther_123
                      · have fc115_16 : rv22.toInt = rv12.toInt := zt_eq (show rv22.toInt = _ from rfl) (show rv12.toInt = _ from rfl) c115_16
                        refine lv_iconst (v := 1) hx hb d_Mo_suitsOther_118 (by decide) ?_
                        refine lv_goto (tgt := 123) hx hb d_Mo_suitsOther_119 (by decide) ?_
                        exact j_zret F hr (by decide +kernel) hlocks hK hS () (show ((1 : Int32).toInt = 1 ∧ othP p0.toInt S) ∨ (1 : Int32).toInt = 0 by have := tI_1; first | (right; omega) | (left; refine ⟨by omega, ?_⟩; unfold othP; refine ⟨fun q => ?_, fun q => ?_, fun q => ?_, fun q => ?_, fun q => ?_⟩ <;> omega)) hP hD d_Mo_suitsOther_123
        · have fc37_1 : p0.toInt = 40 := zt_eq (show p0.toInt = _ from rfl) tI_40 c37_1
          refine lv_iload_n hx hb d_Mo_suitsOther_40 rfl (lv_at hl 0 rfl) ?_
          refine lv_iconst (v := 2) hx hb d_Mo_suitsOther_41 (by decide) ?_
          refine lv_isub hx hb d_Mo_suitsOther_42 ?_
          refine lv_topi (fun x8 ex8 => ?_)
          have fx8 : x8.toInt = ((f_size S).toInt - 3) := by rw [ex8]; exact (zt_sub fx1 tI_2 (by omega) (by omega)).trans (by omega)
          refine lv_goto (tgt := 59) hx hb d_Mo_suitsOther_43 (by decide) ?_
          have kv9 : vOk ((a_kinds S) (((f_size S).toInt - 3).toNat)) ((a_codes S) (((f_size S).toInt - 3).toNat)) ((a_reals S) (((f_size S).toInt - 3).toNat)) := i_vals (((f_size S).toInt - 3).toNat) (by omega)
          have rkv9 := vk_rng kv9
          refine jm_ci (w := (fun _ => S)) hK hP hD hS hA (va_runV (As := [.int x8]) (rest := []) F (m_kindOf l D T h0 ar S x8 s.heap.size (show 0 ≤ x8.toInt ∧ x8.toInt < 1300 by first | omega | (simp only [fx8]; omega)) (show 0 ≤ ((a_kinds S) x8.toInt.toNat).toInt by first | omega | (simp only [fx8]; omega))) (j_cV (k := 1) (C := "PageScribeModel") hts k_7_174 k_1_12 k_7_171 k_7_173 k_0_102 (by decide +kernel) ⟨Nat.le_of_ble_eq_true rfl, Nat.le_of_ble_eq_true rfl⟩) (jm_pre hK hP hD) rfl rfl hl.1 rfl (lv_room (Nat.le_of_ble_eq_true rfl)) d_Mo_suitsOther_59 ⟨Nat.le_of_ble_eq_true rfl, Nat.le_of_ble_eq_true rfl⟩) (fun rv23 u23 H locs hw23 hP hD hS => ?_)
          have hP : va_P D classes (mW T h0 ar S) H := hP
          have hD : va_D A (mW T h0 ar S) := hD
          have qhw23 : rv23.toInt = ((a_kinds S) ((f_size S).toInt - 3).toNat).toInt % 8 := by simpa only [fx8] using hw23
          refine lv_istore_n (lv' := [(3, .int rv23), (2, .int x1), (0, .ref h0), (1, .int p0)]) hx hb d_Mo_suitsOther_62 rfl hl (by decide) rfl (fun ls hl => ?_)
          refine lv_iload_n hx hb d_Mo_suitsOther_63 rfl (lv_at hl 3 rfl) ?_
          refine lv_bipush (v := 40) hx hb d_Mo_suitsOther_64 (by decide) ?_
          refine lv_icmp_ne (tgt := 79) hx hb d_Mo_suitsOther_66 (by decide) (fun c66_3 => ?_) (fun c66_3 => ?_)
          · have fc66_3 : ¬ p0.toInt = 40 := zt_ne (show p0.toInt = _ from rfl) tI_40 c66_3
            refine lv_aload_n hx hb d_Mo_suitsOther_79 rfl (lv_at hl 2 rfl) ?_
            refine lv_iload_n hx hb d_Mo_suitsOther_80 rfl (lv_at hl 1 rfl) ?_
            have kv10 : vOk ((a_kinds S) (((f_size S).toInt - 1).toNat)) ((a_codes S) (((f_size S).toInt - 1).toNat)) ((a_reals S) (((f_size S).toInt - 1).toNat)) := i_vals (((f_size S).toInt - 1).toNat) (by omega)
            have rkv10 := vk_rng kv10
            refine jm_ci (w := (fun _ => S)) hK hP hD hS hA (va_runV (As := [.int x1]) (rest := []) F (m_kindOf l D T h0 ar S x1 H.size (show 0 ≤ x1.toInt ∧ x1.toInt < 1300 by first | omega | (simp only [fx1]; omega)) (show 0 ≤ ((a_kinds S) x1.toInt.toNat).toInt by first | omega | (simp only [fx1]; omega))) (j_cV (k := 1) (C := "PageScribeModel") hts k_7_174 k_1_12 k_7_171 k_7_173 k_0_102 (by decide +kernel) ⟨Nat.le_of_ble_eq_true rfl, Nat.le_of_ble_eq_true rfl⟩) (jm_pre hK hP hD) rfl rfl hl.1 rfl (lv_room (Nat.le_of_ble_eq_true rfl)) d_Mo_suitsOther_81 ⟨Nat.le_of_ble_eq_true rfl, Nat.le_of_ble_eq_true rfl⟩) (fun rv24 u24 H locs hw24 hP hD hS => ?_)
            have hP : va_P D classes (mW T h0 ar S) H := hP
            have hD : va_D A (mW T h0 ar S) := hD
            have qhw24 : rv24.toInt = ((a_kinds S) ((f_size S).toInt - 1).toNat).toInt % 8 := by simpa only [fx1] using hw24
            refine lv_istore (lv' := [(4, .int rv24), (3, .int rv23), (2, .int x1), (0, .ref h0), (1, .int p0)]) hx hb d_Mo_suitsOther_84 hl (by decide) rfl (fun ls hl => ?_)
            refine lv_iload_n hx hb d_Mo_suitsOther_86 rfl (lv_at hl 4 rfl) ?_
            refine lv_bipush (v := 29) hx hb d_Mo_suitsOther_87 (by decide) ?_
            refine lv_icmp_eq (tgt := 98) hx hb d_Mo_suitsOther_89 (by decide) (fun c89_5 => ?_) (fun c89_5 => ?_)
            · have fc89_5 : p0.toInt = 29 := zt_eq (show p0.toInt = _ from rfl) tI_29 c89_5
              refine lv_iload_n hx hb d_Mo_suitsOther_98 rfl (lv_at hl 1 rfl) ?_
              refine lv_iconst (v := 2) hx hb d_Mo_suitsOther_99 (by decide) ?_
              refine lv_icmp_eq (tgt := 107) hx hb d_Mo_suitsOther_100 (by decide) (fun c100_9 => ?_) (fun c100_9 => ?_)
              · have fc100_9 : rv23.toInt = 2 := zt_eq (show rv23.toInt = _ from rfl) tI_2 c100_9
                refine lv_aload_n hx hb d_Mo_suitsOther_107 rfl (lv_at hl 3 rfl) ?_
                refine lv_iload_n hx hb d_Mo_suitsOther_108 rfl (lv_at hl 2 rfl) ?_
                refine lv_iconst (v := 1) hx hb d_Mo_suitsOther_109 (by decide) ?_
                refine lv_isub hx hb d_Mo_suitsOther_110 ?_
                refine lv_topi (fun x9 ex9 => ?_)
                have fx9 : x9.toInt = ((f_size S).toInt - 2) := by rw [ex9]; exact (zt_sub fx1 tI_1 (by omega) (by omega)).trans (by omega)
                have kv11 : vOk ((a_kinds S) (((f_size S).toInt - 2).toNat)) ((a_codes S) (((f_size S).toInt - 2).toNat)) ((a_reals S) (((f_size S).toInt - 2).toNat)) := i_vals (((f_size S).toInt - 2).toNat) (by omega)
                have rkv11 := vk_rng kv11
                refine jm_ci (w := (fun _ => S)) hK hP hD hS hA (va_runV (As := [.int x9]) (rest := []) F (m_kindOf l D T h0 ar S x9 H.size (show 0 ≤ x9.toInt ∧ x9.toInt < 1300 by first | omega | (simp only [fx9]; omega)) (show 0 ≤ ((a_kinds S) x9.toInt.toNat).toInt by first | omega | (simp only [fx9]; omega))) (j_cV (k := 1) (C := "PageScribeModel") hts k_7_174 k_1_12 k_7_171 k_7_173 k_0_102 (by decide +kernel) ⟨Nat.le_of_ble_eq_true rfl, Nat.le_of_ble_eq_true rfl⟩) (jm_pre hK hP hD) rfl rfl hl.1 rfl (lv_room (Nat.le_of_ble_eq_true rfl)) d_Mo_suitsOther_111 ⟨Nat.le_of_ble_eq_true rfl, Nat.le_of_ble_eq_true rfl⟩) (fun rv25 u25 H locs hw25 hP hD hS => ?_)
                have hP : va_P D classes (mW T h0 ar S) H := hP
                have hD : va_D A (mW T h0 ar S) := hD
                have qhw25 : rv25.toInt = ((a_kinds S) ((f_size S).toInt - 2).toNat).toInt % 8 := by simpa only [fx9] using hw25
                refine lv_iload_n hx hb d_Mo_suitsOther_114 rfl (lv_at hl 1 rfl) ?_
                refine lv_icmp_ne (tgt := 122) hx hb d_Mo_suitsOther_115 (by decide) (fun c115_17 => ?_) (fun c115_17 => ?_)
                · have fc115_17 : ¬ rv25.toInt = rv23.toInt := zt_ne (show rv25.toInt = _ from rfl) (show rv23.toInt = _ from rfl) c115_17
                  refine lv_iconst (v := 0) hx hb d_Mo_suitsOther_122 (by decide) ?_
                  exact j_zret F hr (by decide +kernel) hlocks hK hS () (show ((0 : Int32).toInt = 1 ∧ othP p0.toInt S) ∨ (0 : Int32).toInt = 0 by have := tI_0; first | (right; omega) | (left; refine ⟨by omega, ?_⟩; unfold othP; refine ⟨fun q => ?_, fun q => ?_, fun q => ?_, fun q => ?_, fun q => ?_⟩ <;> omega)) hP hD d_Mo_suitsOther_123
                · have fc115_17 : rv25.toInt = rv23.toInt := zt_eq (show rv25.toInt = _ from rfl) (show rv23.toInt = _ from rfl) c115_17
                  refine lv_iconst (v := 1) hx hb d_Mo_suitsOther_118 (by decide) ?_
                  refine lv_goto (tgt := 123) hx hb d_Mo_suitsOther_119 (by decide) ?_
                  exact j_zret F hr (by decide +kernel) hlocks hK hS () (show ((1 : Int32).toInt = 1 ∧ othP p0.toInt S) ∨ (1 : Int32).toInt = 0 by have := tI_1; first | (right; omega) | (left; refine ⟨by omega, ?_⟩; unfold othP; refine ⟨fun q => ?_, fun q => ?_, fun q => ?_, fun q => ?_, fun q => ?_⟩ <;> omega)) hP hD d_Mo_suitsOther_123
              · have fc100_9 : ¬ rv23.toInt = 2 := zt_ne (show rv23.toInt = _ from rfl) tI_2 c100_9
                refine lv_iload_n hx hb d_Mo_suitsOther_103 rfl (lv_at hl 1 rfl) ?_
                refine lv_if_ne (tgt := 122) hx hb d_Mo_suitsOther_104 (by decide) (fun c104_9 => ?_) (fun c104_9 => ?_)
                · have fc104_9 : ¬ rv23.toInt = 0 := zt_ne (show rv23.toInt = _ from rfl) tI_0 c104_9
                  refine lv_iconst (v := 0) hx hb d_Mo_suitsOther_122 (by decide) ?_
                  exact j_zret F hr (by decide +kernel) hlocks hK hS () (show ((0 : Int32).toInt = 1 ∧ othP p0.toInt S) ∨ (0 : Int32).toInt = 0 by have := tI_0; first | (right; omega) | (left; refine ⟨by omega, ?_⟩; unfold othP; refine ⟨fun q => ?_, fun q => ?_, fun q => ?_, fun q => ?_, fun q => ?_⟩ <;> omega)) hP hD d_Mo_suitsOther_123
                · have fc104_9 : rv23.toInt = 0 := zt_eq (show rv23.toInt = _ from rfl) tI_0 c104_9
                  refine lv_aload_n hx hb d_Mo_suitsOther_107 rfl (lv_at hl 3 rfl) ?_
                  refine lv_iload_n hx hb d_Mo_suitsOther_108 rfl (lv_at hl 2 rfl) ?_
                  refine lv_iconst (v := 1) hx hb d_Mo_suitsOther_109 (by decide) ?_
                  refine lv_isub hx hb d_Mo_suitsOther_110 ?_
                  refine lv_topi (fun x10 ex10 => ?_)
                  have fx10 : x10.toInt = ((f_size S).toInt - 2) := by rw [ex10]; exact (zt_sub fx1 tI_1 (by omega) (by omega)).trans (by omega)
                  have kv12 : vOk ((a_kinds S) (((f_size S).toInt - 2).toNat)) ((a_codes S) (((f_size S).toInt - 2).toNat)) ((a_reals S) (((f_size S).toInt - 2).toNat)) := i_vals (((f_size S).toInt - 2).toNat) (by omega)
                  have rkv12 := vk_rng kv12
                  refine jm_ci (w := (fun _ => S)) hK hP hD hS hA (va_runV (As := [.int x10]) (rest := []) F (m_kindOf l D T h0 ar S x10 H.size (show 0 ≤ x10.toInt ∧ x10.toInt < 1300 by first | omega | (simp only [fx10]; omega)) (show 0 ≤ ((a_kinds S) x10.toInt.toNat).toInt by first | omega | (simp only [fx10]; omega))) (j_cV (k := 1) (C := "PageScribeModel") hts k_7_174 k_1_12 k_7_171 k_7_173 k_0_102 (by decide +kernel) ⟨Nat.le_of_ble_eq_true rfl, Nat.le_of_ble_eq_true rfl⟩) (jm_pre hK hP hD) rfl rfl hl.1 rfl (lv_room (Nat.le_of_ble_eq_true rfl)) d_Mo_suitsOther_111 ⟨Nat.le_of_ble_eq_true rfl, Nat.le_of_ble_eq_true rfl⟩) (fun rv26 u26 H locs hw26 hP hD hS => ?_)
                  have hP : va_P D classes (mW T h0 ar S) H := hP
                  have hD : va_D A (mW T h0 ar S) := hD
                  have qhw26 : rv26.toInt = ((a_kinds S) ((f_size S).toInt - 2).toNat).toInt % 8 := by simpa only [fx10] using hw26
                  refine lv_iload_n hx hb d_Mo_suitsOther_114 rfl (lv_at hl 1 rfl) ?_
                  refine lv_icmp_ne (tgt := 122) hx hb d_Mo_suitsOther_115 (by decide) (fun c115_18 => ?_) (fun c115_18 => ?_)
                  · have fc115_18 : ¬ rv26.toInt = rv23.toInt := zt_ne (show rv26.toInt = _ from rfl) (show rv23.toInt = _ from rfl) c115_18
                    refine lv_iconst (v := 0) hx hb d_Mo_suitsOther_122 (by decide) ?_
                    exact j_zret F hr (by decide +kernel) hlocks hK hS () (show ((0 : Int32).toInt = 1 ∧ othP p0.toInt S) ∨ (0 : Int32).toInt = 0 by have := tI_0; first | (right; omega) | (left; refine ⟨by omega, ?_⟩; unfold othP; refine ⟨fun q => ?_, fun q => ?_, fun q => ?_, fun q => ?_, fun q => ?_⟩ <;> omega)) hP hD d_Mo_suitsOther_123
                  · have fc115_18 : rv26.toInt = rv23.toInt := zt_eq (show rv26.toInt = _ from rfl) (show rv23.toInt = _ from rfl) c115_18
                    refine lv_iconst (v := 1) hx hb d_Mo_suitsOther_118 (by decide) ?_
                    refine lv_goto (tgt := 123) hx hb d_Mo_suitsOther_119 (by decide) ?_
                    exact j_zret F hr (by decide +kernel) hlocks hK hS () (show ((1 : Int32).toInt = 1 ∧ othP p0.toInt S) ∨ (1 : Int32).toInt = 0 by have := tI_1; first | (right; omega) | (left; refine ⟨by omega, ?_⟩; unfold othP; refine ⟨fun q => ?_, fun q => ?_, fun q => ?_, fun q => ?_, fun q => ?_⟩ <;> omega)) hP hD d_Mo_suitsOther_123
            · have fc89_5 : ¬ p0.toInt = 29 := zt_ne (show p0.toInt = _ from rfl) tI_29 c89_5
              refine lv_iload_n hx hb d_Mo_suitsOther_92 rfl (lv_at hl 4 rfl) ?_
              refine lv_bipush (v := 30) hx hb d_Mo_suitsOther_93 (by decide) ?_
              refine lv_icmp_ne (tgt := 124) hx hb d_Mo_suitsOther_95 (by decide) (fun c95_5 => ?_) (fun c95_5 => ?_)
              · have fc95_5 : ¬ p0.toInt = 30 := zt_ne (show p0.toInt = _ from rfl) tI_30 c95_5
                refine lv_iload_n hx hb d_Mo_suitsOther_124 rfl (lv_at hl 4 rfl) ?_
                refine lv_bipush (v := 31) hx hb d_Mo_suitsOther_125 (by decide) ?_
                refine lv_icmp_ne (tgt := 145) hx hb d_Mo_suitsOther_127 (by decide) (fun c127_5 => ?_) (fun c127_5 => ?_)
                · have fc127_5 : ¬ p0.toInt = 31 := zt_ne (show p0.toInt = _ from rfl) tI_31 c127_5
                  refine lv_iload_n hx hb d_Mo_suitsOther_145 rfl (lv_at hl 4 rfl) ?_
                  refine lv_bipush (v := 38) hx hb d_Mo_suitsOther_146 (by decide) ?_
                  refine lv_icmp_ne (tgt := 168) hx hb d_Mo_suitsOther_148 (by decide) (fun c148_5 => ?_) (fun c148_5 => ?_)
                  · have fc148_5 : ¬ p0.toInt = 38 := zt_ne (show p0.toInt = _ from rfl) tI_38 c148_5
                    refine lv_iload_n hx hb d_Mo_suitsOther_168 rfl (lv_at hl 1 rfl) ?_
                    refine lv_iconst (v := 5) hx hb d_Mo_suitsOther_169 (by decide) ?_
                    refine lv_icmp_ne (tgt := 178) hx hb d_Mo_suitsOther_170 (by decide) (fun c170_5 => ?_) (fun c170_5 => ?_)
                    · have fc170_5 : ¬ rv23.toInt = 5 := zt_ne (show rv23.toInt = _ from rfl) tI_5 c170_5
                      refine lv_iload_n hx hb d_Mo_suitsOther_178 rfl (lv_at hl 1 rfl) ?_
                      refine lv_bipush (v := 6) hx hb d_Mo_suitsOther_179 (by decide) ?_
                      refine lv_icmp_ne (tgt := 194) hx hb d_Mo_suitsOther_181 (by decide) (fun c181_9 => ?_) (fun c181_9 => ?_)
                      · have fc181_9 : ¬ rv23.toInt = 6 := zt_ne (show rv23.toInt = _ from rfl) tI_6 c181_9
                        refine lv_iconst (v := 0) hx hb d_Mo_suitsOther_194 (by decide) ?_
                        exact j_zret F hr (by decide +kernel) hlocks hK hS () (show ((0 : Int32).toInt = 1 ∧ othP p0.toInt S) ∨ (0 : Int32).toInt = 0 by have := tI_0; first | (right; omega) | (left; refine ⟨by omega, ?_⟩; unfold othP; refine ⟨fun q => ?_, fun q => ?_, fun q => ?_, fun q => ?_, fun q => ?_⟩ <;> omega)) hP hD d_Mo_suitsOther_195
                      · have fc181_9 : rv23.toInt = 6 := zt_eq (show rv23.toInt = _ from rfl) tI_6 c181_9
                        refine lv_iload hx hb d_Mo_suitsOther_184 (lv_at hl 0 rfl) ?_
                        refine lv_iconst (v := 3) hx hb d_Mo_suitsOther_186 (by decide) ?_
                        refine lv_icmp_ne (tgt := 194) hx hb d_Mo_suitsOther_187 (by decide) (fun c187_9 => ?_) (fun c187_9 => ?_)
                        · have fc187_9 : ¬ rv24.toInt = 3 := zt_ne (show rv24.toInt = _ from rfl) tI_3 c187_9
                          refine lv_iconst (v := 0) hx hb d_Mo_suitsOther_194 (by decide) ?_
                          exact j_zret F hr (by decide +kernel) hlocks hK hS () (show ((0 : Int32).toInt = 1 ∧ othP p0.toInt S) ∨ (0 : Int32).toInt = 0 by have := tI_0; first | (right; omega) | (left; refine ⟨by omega, ?_⟩; unfold othP; refine ⟨fun q => ?_, fun q => ?_, fun q => ?_, fun q => ?_, fun q => ?_⟩ <;> omega)) hP hD d_Mo_suitsOther_195
                        · have fc187_9 : rv24.toInt = 3 := zt_eq (show rv24.toInt = _ from rfl) tI_3 c187_9
                          refine lv_iconst (v := 1) hx hb d_Mo_suitsOther_190 (by decide) ?_
                          refine lv_goto (tgt := 195) hx hb d_Mo_suitsOther_191 (by decide) ?_
                          exact j_zret F hr (by decide +kernel) hlocks hK hS () (show ((1 : Int32).toInt = 1 ∧ othP p0.toInt S) ∨ (1 : Int32).toInt = 0 by have := tI_1; first | (right; omega) | (left; refine ⟨by omega, ?_⟩; unfold othP; refine ⟨fun q => ?_, fun q => ?_, fun q => ?_, fun q => ?_, fun q => ?_⟩ <;> omega)) hP hD d_Mo_suitsOther_195
                    · have fc170_5 : rv23.toInt = 5 := zt_eq (show rv23.toInt = _ from rfl) tI_5 c170_5
                      refine lv_iload hx hb d_Mo_suitsOther_173 (lv_at hl 0 rfl) ?_
                      refine lv_if_eq (tgt := 190) hx hb d_Mo_suitsOther_175 (by decide) (fun c175_5 => ?_) (fun c175_5 => ?_)
                      · have fc175_5 : rv24.toInt = 0 := zt_eq (show rv24.toInt = _ from rfl) tI_0 c175_5
                        refine lv_iconst (v := 1) hx hb d_Mo_suitsOther_190 (by decide) ?_
                        refine lv_goto (tgt := 195) hx hb d_Mo_suitsOther_191 (by decide) ?_
                        exact j_zret F hr (by decide +kernel) hlocks hK hS () (show ((1 : Int32).toInt = 1 ∧ othP p0.toInt S) ∨ (1 : Int32).toInt = 0 by have := tI_1; first | (right; omega) | (left; refine ⟨by omega, ?_⟩; unfold othP; refine ⟨fun q => ?_, fun q => ?_, fun q => ?_, fun q => ?_, fun q => ?_⟩ <;> omega)) hP hD d_Mo_suitsOther_195
                      · have fc175_5 : ¬ rv24.toInt = 0 := zt_ne (show rv24.toInt = _ from rfl) tI_0 c175_5
                        refine lv_iload_n hx hb d_Mo_suitsOther_178 rfl (lv_at hl 1 rfl) ?_
                        refine lv_bipush (v := 6) hx hb d_Mo_suitsOther_179 (by decide) ?_
                        refine lv_icmp_ne (tgt := 194) hx hb d_Mo_suitsOther_181 (by decide) (fun c181_10 => ?_) (fun c181_10 => ?_)
                        · have fc181_10 : ¬ rv23.toInt = 6 := zt_ne (show rv23.toInt = _ from rfl) tI_6 c181_10
                          refine lv_iconst (v := 0) hx hb d_Mo_suitsOther_194 (by decide) ?_
                          exact j_zret F hr (by decide +kernel) hlocks hK hS () (show ((0 : Int32).toInt = 1 ∧ othP p0.toInt S) ∨ (0 : Int32).toInt = 0 by have := tI_0; first | (right; omega) | (left; refine ⟨by omega, ?_⟩; unfold othP; refine ⟨fun q => ?_, fun q => ?_, fun q => ?_, fun q => ?_, fun q => ?_⟩ <;> omega)) hP hD d_Mo_suitsOther_195
                        · have fc181_10 : rv23.toInt = 6 := zt_eq (show rv23.toInt = _ from rfl) tI_6 c181_10
                          refine lv_iload hx hb d_Mo_suitsOther_184 (lv_at hl 0 rfl) ?_
                          refine lv_iconst (v := 3) hx hb d_Mo_suitsOther_186 (by decide) ?_
                          refine lv_icmp_ne (tgt := 194) hx hb d_Mo_suitsOther_187 (by decide) (fun c187_10 => ?_) (fun c187_10 => ?_)
                          · have fc187_10 : ¬ rv24.toInt = 3 := zt_ne (show rv24.toInt = _ from rfl) tI_3 c187_10
                            refine lv_iconst (v := 0) hx hb d_Mo_suitsOther_194 (by decide) ?_
                            exact j_zret F hr (by decide +kernel) hlocks hK hS () (show ((0 : Int32).toInt = 1 ∧ othP p0.toInt S) ∨ (0 : Int32).toInt = 0 by have := tI_0; first | (right; omega) | (left; refine ⟨by omega, ?_⟩; unfold othP; refine ⟨fun q => ?_, fun q => ?_, fun q => ?_, fun q => ?_, fun q => ?_⟩ <;> omega)) hP hD d_Mo_suitsOther_195
                          · have fc187_10 : rv24.toInt = 3 := zt_eq (show rv24.toInt = _ from rfl) tI_3 c187_10
                            refine lv_iconst (v := 1) hx hb d_Mo_suitsOther_190 (by decide) ?_
                            refine lv_goto (tgt := 195) hx hb d_Mo_suitsOther_191 (by decide) ?_
                            exact j_zret F hr (by decide +kernel) hlocks hK hS () (show ((1 : Int32).toInt = 1 ∧ othP p0.toInt S) ∨ (1 : Int32).toInt = 0 by have := tI_1; first | (right; omega) | (left; refine ⟨by omega, ?_⟩; unfold othP; refine ⟨fun q => ?_, fun q => ?_, fun q => ?_, fun q => ?_, fun q => ?_⟩ <;> omega)) hP hD d_Mo_suitsOther_195
                  · have fc148_5 : p0.toInt = 38 := zt_eq (show p0.toInt = _ from rfl) tI_38 c148_5
                    refine lv_iload_n hx hb d_Mo_suitsOther_151 rfl (lv_at hl 1 rfl) ?_
                    refine lv_iconst (v := 5) hx hb d_Mo_suitsOther_152 (by decide) ?_
                    refine lv_icmp_eq (tgt := 162) hx hb d_Mo_suitsOther_153 (by decide) (fun c153_5 => ?_) (fun c153_5 => ?_)
                    · have fc153_5 : rv23.toInt = 5 := zt_eq (show rv23.toInt = _ from rfl) tI_5 c153_5
                      refine lv_iconst (v := 1) hx hb d_Mo_suitsOther_162 (by decide) ?_
                      refine lv_goto (tgt := 167) hx hb d_Mo_suitsOther_163 (by decide) ?_
                      exact j_zret F hr (by decide +kernel) hlocks hK hS () (show ((1 : Int32).toInt = 1 ∧ othP p0.toInt S) ∨ (1 : Int32).toInt = 0 by have := tI_1; first | (right; omega) | (left; refine ⟨by omega, ?_⟩; unfold othP; refine ⟨fun q => ?_, fun q => ?_, fun q => ?_, fun q => ?_, fun q => ?_⟩ <;> omega)) hP hD d_Mo_suitsOther_167
                    · have fc153_5 : ¬ rv23.toInt = 5 := zt_ne (show rv23.toInt = _ from rfl) tI_5 c153_5
                      refine lv_iload_n hx hb d_Mo_suitsOther_156 rfl (lv_at hl 1 rfl) ?_
                      refine lv_bipush (v := 6) hx hb d_Mo_suitsOther_157 (by decide) ?_
                      refine lv_icmp_ne (tgt := 166) hx hb d_Mo_suitsOther_159 (by decide) (fun c159_5 => ?_) (fun c159_5 => ?_)
                      · have fc159_5 : ¬ rv23.toInt = 6 := zt_ne (show rv23.toInt = _ from rfl) tI_6 c159_5
                        refine lv_iconst (v := 0) hx hb d_Mo_suitsOther_166 (by decide) ?_
                        exact j_zret F hr (by decide +kernel) hlocks hK hS () (show ((0 : Int32).toInt = 1 ∧ othP p0.toInt S) ∨ (0 : Int32).toInt = 0 by have := tI_0; first | (right; omega) | (left; refine ⟨by omega, ?_⟩; unfold othP; refine ⟨fun q => ?_, fun q => ?_, fun q => ?_, fun q => ?_, fun q => ?_⟩ <;> omega)) hP hD d_Mo_suitsOther_167
                      · have fc159_5 : rv23.toInt = 6 := zt_eq (show rv23.toInt = _ from rfl) tI_6 c159_5
                        refine lv_iconst (v := 1) hx hb d_Mo_suitsOther_162 (by decide) ?_
                        refine lv_goto (tgt := 167) hx hb d_Mo_suitsOther_163 (by decide) ?_
                        exact j_zret F hr (by decide +kernel) hlocks hK hS () (show ((1 : Int32).toInt = 1 ∧ othP p0.toInt S) ∨ (1 : Int32).toInt = 0 by have := tI_1; first | (right; omega) | (left; refine ⟨by omega, ?_⟩; unfold othP; refine ⟨fun q => ?_, fun q => ?_, fun q => ?_, fun q => ?_, fun q => ?_⟩ <;> omega)) hP hD d_Mo_suitsOther_167
                · have fc127_5 : p0.toInt = 31 := zt_eq (show p0.toInt = _ from rfl) tI_31 c127_5
                  refine lv_iload_n hx hb d_Mo_suitsOther_130 rfl (lv_at hl 1 rfl) ?_
                  refine lv_iconst (v := 2) hx hb d_Mo_suitsOther_131 (by decide) ?_
                  refine lv_icmp_eq (tgt := 139) hx hb d_Mo_suitsOther_132 (by decide) (fun c132_5 => ?_) (fun c132_5 => ?_)
                  · have fc132_5 : rv23.toInt = 2 := zt_eq (show rv23.toInt = _ from rfl) tI_2 c132_5
                    refine lv_iconst (v := 1) hx hb d_Mo_suitsOther_139 (by decide) ?_
                    refine lv_goto (tgt := 144) hx hb d_Mo_suitsOther_140 (by decide) ?_
                    exact j_zret F hr (by decide +kernel) hlocks hK hS () (show ((1 : Int32).toInt = 1 ∧ othP p0.toInt S) ∨ (1 : Int32).toInt = 0 by have := tI_1; first | (right; omega) | (left; refine ⟨by omega, ?_⟩; unfold othP; refine ⟨fun q => ?_, fun q => ?_, fun q => ?_, fun q => ?_, fun q => ?_⟩ <;> omega)) hP hD d_Mo_suitsOther_144
                  · have fc132_5 : ¬ rv23.toInt = 2 := zt_ne (show rv23.toInt = _ from rfl) tI_2 c132_5
                    refine lv_iload_n hx hb d_Mo_suitsOther_135 rfl (lv_at hl 1 rfl) ?_
                    refine lv_if_ne (tgt := 143) hx hb d_Mo_suitsOther_136 (by decide) (fun c136_5 => ?_) (fun c136_5 => ?_)
                    · have fc136_5 : ¬ rv23.toInt = 0 := zt_ne (show rv23.toInt = _ from rfl) tI_0 c136_5
                      refine lv_iconst (v := 0) hx hb d_Mo_suitsOther_143 (by decide) ?_
                      exact j_zret F hr (by decide +kernel) hlocks hK hS () (show ((0 : Int32).toInt = 1 ∧ othP p0.toInt S) ∨ (0 : Int32).toInt = 0 by have := tI_0; first | (right; omega) | (left; refine ⟨by omega, ?_⟩; unfold othP; refine ⟨fun q => ?_, fun q => ?_, fun q => ?_, fun q => ?_, fun q => ?_⟩ <;> omega)) hP hD d_Mo_suitsOther_144
                    · have fc136_5 : rv23.toInt = 0 := zt_eq (show rv23.toInt = _ from rfl) tI_0 c136_5
                      refine lv_iconst (v := 1) hx hb d_Mo_suitsOther_139 (by decide) ?_
                      refine lv_goto (tgt := 144) hx hb d_Mo_suitsOther_140 (by decide) ?_
                      exact j_zret F hr (by decide +kernel) hlocks hK hS () (show ((1 : Int32).toInt = 1 ∧ othP p0.toInt S) ∨ (1 : Int32).toInt = 0 by have := tI_1; first | (right; omega) | (left; refine ⟨by omega, ?_⟩; unfold othP; refine ⟨fun q => ?_, fun q => ?_, fun q => ?_, fun q => ?_, fun q => ?_⟩ <;> omega)) hP hD d_Mo_suitsOther_144
              · have fc95_5 : p0.toInt = 30 := zt_eq (show p0.toInt = _ from rfl) tI_30 c95_5
                refine lv_iload_n hx hb d_Mo_suitsOther_98 rfl (lv_at hl 1 rfl) ?_
                refine lv_iconst (v := 2) hx hb d_Mo_suitsOther_99 (by decide) ?_
                refine lv_icmp_eq (tgt := 107) hx hb d_Mo_suitsOther_100 (by decide) (fun c100_10 => ?_) (fun c100_10 => ?_)
                · have fc100_10 : rv23.toInt = 2 := zt_eq (show rv23.toInt = _ from rfl) tI_2 c100_10
                  refine lv_aload_n hx hb d_Mo_suitsOther_107 rfl (lv_at hl 3 rfl) ?_
                  refine lv_iload_n hx hb d_Mo_suitsOther_108 rfl (lv_at hl 2 rfl) ?_
                  refine lv_iconst (v := 1) hx hb d_Mo_suitsOther_109 (by decide) ?_
                  refine lv_isub hx hb d_Mo_suitsOther_110 ?_
                  refine lv_topi (fun x11 ex11 => ?_)
                  have fx11 : x11.toInt = ((f_size S).toInt - 2) := by rw [ex11]; exact (zt_sub fx1 tI_1 (by omega) (by omega)).trans (by omega)
                  have kv13 : vOk ((a_kinds S) (((f_size S).toInt - 2).toNat)) ((a_codes S) (((f_size S).toInt - 2).toNat)) ((a_reals S) (((f_size S).toInt - 2).toNat)) := i_vals (((f_size S).toInt - 2).toNat) (by omega)
                  have rkv13 := vk_rng kv13
                  refine jm_ci (w := (fun _ => S)) hK hP hD hS hA (va_runV (As := [.int x11]) (rest := []) F (m_kindOf l D T h0 ar S x11 H.size (show 0 ≤ x11.toInt ∧ x11.toInt < 1300 by first | omega | (simp only [fx11]; omega)) (show 0 ≤ ((a_kinds S) x11.toInt.toNat).toInt by first | omega | (simp only [fx11]; omega))) (j_cV (k := 1) (C := "PageScribeModel") hts k_7_174 k_1_12 k_7_171 k_7_173 k_0_102 (by decide +kernel) ⟨Nat.le_of_ble_eq_true rfl, Nat.le_of_ble_eq_true rfl⟩) (jm_pre hK hP hD) rfl rfl hl.1 rfl (lv_room (Nat.le_of_ble_eq_true rfl)) d_Mo_suitsOther_111 ⟨Nat.le_of_ble_eq_true rfl, Nat.le_of_ble_eq_true rfl⟩) (fun rv27 u27 H locs hw27 hP hD hS => ?_)
                  have hP : va_P D classes (mW T h0 ar S) H := hP
                  have hD : va_D A (mW T h0 ar S) := hD
                  have qhw27 : rv27.toInt = ((a_kinds S) ((f_size S).toInt - 2).toNat).toInt % 8 := by simpa only [fx11] using hw27
                  refine lv_iload_n hx hb d_Mo_suitsOther_114 rfl (lv_at hl 1 rfl) ?_
                  refine lv_icmp_ne (tgt := 122) hx hb d_Mo_suitsOther_115 (by decide) (fun c115_19 => ?_) (fun c115_19 => ?_)
                  · have fc115_19 : ¬ rv27.toInt = rv23.toInt := zt_ne (show rv27.toInt = _ from rfl) (show rv23.toInt = _ from rfl) c115_19
                    refine lv_iconst (v := 0) hx hb d_Mo_suitsOther_122 (by decide) ?_
                    exact j_zret F hr (by decide +kernel) hlocks hK hS () (show ((0 : Int32).toInt = 1 ∧ othP p0.toInt S) ∨ (0 : Int32).toInt = 0 by have := tI_0; first | (right; omega) | (left; refine ⟨by omega, ?_⟩; unfold othP; refine ⟨fun q => ?_, fun q => ?_, fun q => ?_, fun q => ?_, fun q => ?_⟩ <;> omega)) hP hD d_Mo_suitsOther_123
                  · have fc115_19 : rv27.toInt = rv23.toInt := zt_eq (show rv27.toInt = _ from rfl) (show rv23.toInt = _ from rfl) c115_19
                    refine lv_iconst (v := 1) hx hb d_Mo_suitsOther_118 (by decide) ?_
                    refine lv_goto (tgt := 123) hx hb d_Mo_suitsOther_119 (by decide) ?_
                    exact j_zret F hr (by decide +kernel) hlocks hK hS () (show ((1 : Int32).toInt = 1 ∧ othP p0.toInt S) ∨ (1 : Int32).toInt = 0 by have := tI_1; first | (right; omega) | (left; refine ⟨by omega, ?_⟩; unfold othP; refine ⟨fun q => ?_, fun q => ?_, fun q => ?_, fun q => ?_, fun q => ?_⟩ <;> omega)) hP hD d_Mo_suitsOther_123
                · have fc100_10 : ¬ rv23.toInt = 2 := zt_ne (show rv23.toInt = _ from rfl) tI_2 c100_10
                  refine lv_iload_n hx hb d_Mo_suitsOther_103 rfl (lv_at hl 1 rfl) ?_
                  refine lv_if_ne (tgt := 122) hx hb d_Mo_suitsOther_104 (by decide) (fun c104_10 => ?_) (fun c104_10 => ?_)
                  · have fc104_10 : ¬ rv23.toInt = 0 := zt_ne (show rv23.toInt = _ from rfl) tI_0 c104_10
                    refine lv_iconst (v := 0) hx hb d_Mo_suitsOther_122 (by decide) ?_
                    exact j_zret F hr (by decide +kernel) hlocks hK hS () (show ((0 : Int32).toInt = 1 ∧ othP p0.toInt S) ∨ (0 : Int32).toInt = 0 by have := tI_0; first | (right; omega) | (left; refine ⟨by omega, ?_⟩; unfold othP; refine ⟨fun q => ?_, fun q => ?_, fun q => ?_, fun q => ?_, fun q => ?_⟩ <;> omega)) hP hD d_Mo_suitsOther_123
                  · have fc104_10 : rv23.toInt = 0 := zt_eq (show rv23.toInt = _ from rfl) tI_0 c104_10
                    refine lv_aload_n hx hb d_Mo_suitsOther_107 rfl (lv_at hl 3 rfl) ?_
                    refine lv_iload_n hx hb d_Mo_suitsOther_108 rfl (lv_at hl 2 rfl) ?_
                    refine lv_iconst (v := 1) hx hb d_Mo_suitsOther_109 (by decide) ?_
                    refine lv_isub hx hb d_Mo_suitsOther_110 ?_
                    refine lv_topi (fun x12 ex12 => ?_)
                    have fx12 : x12.toInt = ((f_size S).toInt - 2) := by rw [ex12]; exact (zt_sub fx1 tI_1 (by omega) (by omega)).trans (by omega)
                    have kv14 : vOk ((a_kinds S) (((f_size S).toInt - 2).toNat)) ((a_codes S) (((f_size S).toInt - 2).toNat)) ((a_reals S) (((f_size S).toInt - 2).toNat)) := i_vals (((f_size S).toInt - 2).toNat) (by omega)
                    have rkv14 := vk_rng kv14
                    refine jm_ci (w := (fun _ => S)) hK hP hD hS hA (va_runV (As := [.int x12]) (rest := []) F (m_kindOf l D T h0 ar S x12 H.size (show 0 ≤ x12.toInt ∧ x12.toInt < 1300 by first | omega | (simp only [fx12]; omega)) (show 0 ≤ ((a_kinds S) x12.toInt.toNat).toInt by first | omega | (simp only [fx12]; omega))) (j_cV (k := 1) (C := "PageScribeModel") hts k_7_174 k_1_12 k_7_171 k_7_173 k_0_102 (by decide +kernel) ⟨Nat.le_of_ble_eq_true rfl, Nat.le_of_ble_eq_true rfl⟩) (jm_pre hK hP hD) rfl rfl hl.1 rfl (lv_room (Nat.le_of_ble_eq_true rfl)) d_Mo_suitsOther_111 ⟨Nat.le_of_ble_eq_true rfl, Nat.le_of_ble_eq_true rfl⟩) (fun rv28 u28 H locs hw28 hP hD hS => ?_)
                    have hP : va_P D classes (mW T h0 ar S) H := hP
                    have hD : va_D A (mW T h0 ar S) := hD
                    have qhw28 : rv28.toInt = ((a_kinds S) ((f_size S).toInt - 2).toNat).toInt % 8 := by simpa only [fx12] using hw28
                    refine lv_iload_n hx hb d_Mo_suitsOther_114 rfl (lv_at hl 1 rfl) ?_
                    refine lv_icmp_ne (tgt := 122) hx hb d_Mo_suitsOther_115 (by decide) (fun c115_20 => ?_) (fun c115_20 => ?_)
                    · have fc115_20 : ¬ rv28.toInt = rv23.toInt := zt_ne (show rv28.toInt = _ from rfl) (show rv23.toInt = _ from rfl) c115_20
                      refine lv_iconst (v := 0) hx hb d_Mo_suitsOther_122 (by decide) ?_
                      exact j_zret F hr (by decide +kernel) hlocks hK hS () (show ((0 : Int32).toInt = 1 ∧ othP p0.toInt S) ∨ (0 : Int32).toInt = 0 by have := tI_0; first | (right; omega) | (left; refine ⟨by omega, ?_⟩; unfold othP; refine ⟨fun q => ?_, fun q => ?_, fun q => ?_, fun q => ?_, fun q => ?_⟩ <;> omega)) hP hD d_Mo_suitsOther_123
                    · have fc115_20 : rv28.toInt = rv23.toInt := zt_eq (show rv28.toInt = _ from rfl) (show rv23.toInt = _ from rfl) c115_20
                      refine lv_iconst (v := 1) hx hb d_Mo_suitsOther_118 (by decide) ?_
                      refine lv_goto (tgt := 123) hx hb d_Mo_suitsOther_119 (by decide) ?_
                      exact j_zret F hr (by decide +kernel) hlocks hK hS () (show ((1 : Int32).toInt = 1 ∧ othP p0.toInt S) ∨ (1 : Int32).toInt = 0 by have := tI_1; first | (right; omega) | (left; refine ⟨by omega, ?_⟩; unfold othP; refine ⟨fun q => ?_, fun q => ?_, fun q => ?_, fun q => ?_, fun q => ?_⟩ <;> omega)) hP hD d_Mo_suitsOther_123
          · have fc66_3 : p0.toInt = 40 := zt_eq (show p0.toInt = _ from rfl) tI_40 c66_3
            refine lv_aload_n hx hb d_Mo_suitsOther_69 rfl (lv_at hl 2 rfl) ?_
            refine lv_iload_n hx hb d_Mo_suitsOther_70 rfl (lv_at hl 1 rfl) ?_
            refine lv_iconst (v := 1) hx hb d_Mo_suitsOther_71 (by decide) ?_
            refine lv_isub hx hb d_Mo_suitsOther_72 ?_
            refine lv_topi (fun x13 ex13 => ?_)
            have fx13 : x13.toInt = ((f_size S).toInt - 2) := by rw [ex13]; exact (zt_sub fx1 tI_1 (by omega) (by omega)).trans (by omega)
            have kv15 : vOk ((a_kinds S) (((f_size S).toInt - 2).toNat)) ((a_codes S) (((f_size S).toInt - 2).toNat)) ((a_reals S) (((f_size S).toInt - 2).toNat)) := i_vals (((f_size S).toInt - 2).toNat) (by omega)
            have rkv15 := vk_rng kv15
            refine jm_ci (w := (fun _ => S)) hK hP hD hS hA (va_runV (As := [.int x13]) (rest := []) F (m_kindOf l D T h0 ar S x13 H.size (show 0 ≤ x13.toInt ∧ x13.toInt < 1300 by first | omega | (simp only [fx13]; omega)) (show 0 ≤ ((a_kinds S) x13.toInt.toNat).toInt by first | omega | (simp only [fx13]; omega))) (j_cV (k := 1) (C := "PageScribeModel") hts k_7_174 k_1_12 k_7_171 k_7_173 k_0_102 (by decide +kernel) ⟨Nat.le_of_ble_eq_true rfl, Nat.le_of_ble_eq_true rfl⟩) (jm_pre hK hP hD) rfl rfl hl.1 rfl (lv_room (Nat.le_of_ble_eq_true rfl)) d_Mo_suitsOther_73 ⟨Nat.le_of_ble_eq_true rfl, Nat.le_of_ble_eq_true rfl⟩) (fun rv29 u29 H locs hw29 hP hD hS => ?_)
            have hP : va_P D classes (mW T h0 ar S) H := hP
            have hD : va_D A (mW T h0 ar S) := hD
            have qhw29 : rv29.toInt = ((a_kinds S) ((f_size S).toInt - 2).toNat).toInt % 8 := by simpa only [fx13] using hw29
            refine lv_goto (tgt := 84) hx hb d_Mo_suitsOther_76 (by decide) ?_
            refine lv_istore (lv' := [(4, .int rv29), (3, .int rv23), (2, .int x1), (0, .ref h0), (1, .int p0)]) hx hb d_Mo_suitsOther_84 hl (by decide) rfl (fun ls hl => ?_)
            refine lv_iload_n hx hb d_Mo_suitsOther_86 rfl (lv_at hl 4 rfl) ?_
            refine lv_bipush (v := 29) hx hb d_Mo_suitsOther_87 (by decide) ?_
            refine lv_icmp_eq (tgt := 98) hx hb d_Mo_suitsOther_89 (by decide) (fun c89_6 => ?_) (fun c89_6 => ?_)
            · have fc89_6 : p0.toInt = 29 := zt_eq (show p0.toInt = _ from rfl) tI_29 c89_6
              refine lv_iload_n hx hb d_Mo_suitsOther_98 rfl (lv_at hl 1 rfl) ?_
              refine lv_iconst (v := 2) hx hb d_Mo_suitsOther_99 (by decide) ?_
              refine lv_icmp_eq (tgt := 107) hx hb d_Mo_suitsOther_100 (by decide) (fun c100_11 => ?_) (fun c100_11 => ?_)
              · have fc100_11 : rv23.toInt = 2 := zt_eq (show rv23.toInt = _ from rfl) tI_2 c100_11
                refine lv_aload_n hx hb d_Mo_suitsOther_107 rfl (lv_at hl 3 rfl) ?_
                refine lv_iload_n hx hb d_Mo_suitsOther_108 rfl (lv_at hl 2 rfl) ?_
                refine lv_iconst (v := 1) hx hb d_Mo_suitsOther_109 (by decide) ?_
                refine lv_isub hx hb d_Mo_suitsOther_110 ?_
                refine j_eqi (y := x13) ex13.symm ?_
                refine jm_ci (w := (fun _ => S)) hK hP hD hS hA (va_runV (As := [.int x13]) (rest := []) F (m_kindOf l D T h0 ar S x13 H.size (show 0 ≤ x13.toInt ∧ x13.toInt < 1300 by first | omega | (simp only [fx13]; omega)) (show 0 ≤ ((a_kinds S) x13.toInt.toNat).toInt by first | omega | (simp only [fx13]; omega))) (j_cV (k := 1) (C := "PageScribeModel") hts k_7_174 k_1_12 k_7_171 k_7_173 k_0_102 (by decide +kernel) ⟨Nat.le_of_ble_eq_true rfl, Nat.le_of_ble_eq_true rfl⟩) (jm_pre hK hP hD) rfl rfl hl.1 rfl (lv_room (Nat.le_of_ble_eq_true rfl)) d_Mo_suitsOther_111 ⟨Nat.le_of_ble_eq_true rfl, Nat.le_of_ble_eq_true rfl⟩) (fun rv30 u30 H locs hw30 hP hD hS => ?_)
                have hP : va_P D classes (mW T h0 ar S) H := hP
                have hD : va_D A (mW T h0 ar S) := hD
                have qhw30 : rv30.toInt = ((a_kinds S) ((f_size S).toInt - 2).toNat).toInt % 8 := by simpa only [fx13] using hw30
                refine lv_iload_n hx hb d_Mo_suitsOther_114 rfl (lv_at hl 1 rfl) ?_
                refine lv_icmp_ne (tgt := 122) hx hb d_Mo_suitsOther_115 (by decide) (fun c115_21 => ?_) (fun c115_21 => ?_)
                · have fc115_21 : ¬ rv30.toInt = rv23.toInt := zt_ne (show rv30.toInt = _ from rfl) (show rv23.toInt = _ from rfl) c115_21
                  refine lv_iconst (v := 0) hx hb d_Mo_suitsOther_122 (by decide) ?_
                  exact j_zret F hr (by decide +kernel) hlocks hK hS () (show ((0 : Int32).toInt = 1 ∧ othP p0.toInt S) ∨ (0 : Int32).toInt = 0 by have := tI_0; first | (right; omega) | (left; refine ⟨by omega, ?_⟩; unfold othP; refine ⟨fun q => ?_, fun q => ?_, fun q => ?_, fun q => ?_, fun q => ?_⟩ <;> omega)) hP hD d_Mo_suitsOther_123
                · have fc115_21 : rv30.toInt = rv23.toInt := zt_eq (show rv30.toInt = _ from rfl) (show rv23.toInt = _ from rfl) c115_21
                  refine lv_iconst (v := 1) hx hb d_Mo_suitsOther_118 (by decide) ?_
                  refine lv_goto (tgt := 123) hx hb d_Mo_suitsOther_119 (by decide) ?_
                  exact j_zret F hr (by decide +kernel) hlocks hK hS () (show ((1 : Int32).toInt = 1 ∧ othP p0.toInt S) ∨ (1 : Int32).toInt = 0 by have := tI_1; first | (right; omega) | (left; refine ⟨by omega, ?_⟩; unfold othP; refine ⟨fun q => ?_, fun q => ?_, fun q => ?_, fun q => ?_, fun q => ?_⟩ <;> omega)) hP hD d_Mo_suitsOther_123
              · have fc100_11 : ¬ rv23.toInt = 2 := zt_ne (show rv23.toInt = _ from rfl) tI_2 c100_11
                refine lv_iload_n hx hb d_Mo_suitsOther_103 rfl (lv_at hl 1 rfl) ?_
                refine lv_if_ne (tgt := 122) hx hb d_Mo_suitsOther_104 (by decide) (fun c104_11 => ?_) (fun c104_11 => ?_)
                · have fc104_11 : ¬ rv23.toInt = 0 := zt_ne (show rv23.toInt = _ from rfl) tI_0 c104_11
                  refine lv_iconst (v := 0) hx hb d_Mo_suitsOther_122 (by decide) ?_
                  exact j_zret F hr (by decide +kernel) hlocks hK hS () (show ((0 : Int32).toInt = 1 ∧ othP p0.toInt S) ∨ (0 : Int32).toInt = 0 by have := tI_0; first | (right; omega) | (left; refine ⟨by omega, ?_⟩; unfold othP; refine ⟨fun q => ?_, fun q => ?_, fun q => ?_, fun q => ?_, fun q => ?_⟩ <;> omega)) hP hD d_Mo_suitsOther_123
                · have fc104_11 : rv23.toInt = 0 := zt_eq (show rv23.toInt = _ from rfl) tI_0 c104_11
                  refine lv_aload_n hx hb d_Mo_suitsOther_107 rfl (lv_at hl 3 rfl) ?_
                  refine lv_iload_n hx hb d_Mo_suitsOther_108 rfl (lv_at hl 2 rfl) ?_
                  refine lv_iconst (v := 1) hx hb d_Mo_suitsOther_109 (by decide) ?_
                  refine lv_isub hx hb d_Mo_suitsOther_110 ?_
                  refine j_eqi (y := x13) ex13.symm ?_
                  refine jm_ci (w := (fun _ => S)) hK hP hD hS hA (va_runV (As := [.int x13]) (rest := []) F (m_kindOf l D T h0 ar S x13 H.size (show 0 ≤ x13.toInt ∧ x13.toInt < 1300 by first | omega | (simp only [fx13]; omega)) (show 0 ≤ ((a_kinds S) x13.toInt.toNat).toInt by first | omega | (simp only [fx13]; omega))) (j_cV (k := 1) (C := "PageScribeModel") hts k_7_174 k_1_12 k_7_171 k_7_173 k_0_102 (by decide +kernel) ⟨Nat.le_of_ble_eq_true rfl, Nat.le_of_ble_eq_true rfl⟩) (jm_pre hK hP hD) rfl rfl hl.1 rfl (lv_room (Nat.le_of_ble_eq_true rfl)) d_Mo_suitsOther_111 ⟨Nat.le_of_ble_eq_true rfl, Nat.le_of_ble_eq_true rfl⟩) (fun rv31 u31 H locs hw31 hP hD hS => ?_)
                  have hP : va_P D classes (mW T h0 ar S) H := hP
                  have hD : va_D A (mW T h0 ar S) := hD
                  have qhw31 : rv31.toInt = ((a_kinds S) ((f_size S).toInt - 2).toNat).toInt % 8 := by simpa only [fx13] using hw31
                  refine lv_iload_n hx hb d_Mo_suitsOther_114 rfl (lv_at hl 1 rfl) ?_
                  refine lv_icmp_ne (tgt := 122) hx hb d_Mo_suitsOther_115 (by decide) (fun c115_22 => ?_) (fun c115_22 => ?_)
                  · have fc115_22 : ¬ rv31.toInt = rv23.toInt := zt_ne (show rv31.toInt = _ from rfl) (show rv23.toInt = _ from rfl) c115_22
                    refine lv_iconst (v := 0) hx hb d_Mo_suitsOther_122 (by decide) ?_
                    exact j_zret F hr (by decide +kernel) hlocks hK hS () (show ((0 : Int32).toInt = 1 ∧ othP p0.toInt S) ∨ (0 : Int32).toInt = 0 by have := tI_0; first | (right; omega) | (left; refine ⟨by omega, ?_⟩; unfold othP; refine ⟨fun q => ?_, fun q => ?_, fun q => ?_, fun q => ?_, fun q => ?_⟩ <;> omega)) hP hD d_Mo_suitsOther_123
                  · have fc115_22 : rv31.toInt = rv23.toInt := zt_eq (show rv31.toInt = _ from rfl) (show rv23.toInt = _ from rfl) c115_22
                    refine lv_iconst (v := 1) hx hb d_Mo_suitsOther_118 (by decide) ?_
                    refine lv_goto (tgt := 123) hx hb d_Mo_suitsOther_119 (by decide) ?_
                    exact j_zret F hr (by decide +kernel) hlocks hK hS () (show ((1 : Int32).toInt = 1 ∧ othP p0.toInt S) ∨ (1 : Int32).toInt = 0 by have := tI_1; first | (right; omega) | (left; refine ⟨by omega, ?_⟩; unfold othP; refine ⟨fun q => ?_, fun q => ?_, fun q => ?_, fun q => ?_, fun q => ?_⟩ <;> omega)) hP hD d_Mo_suitsOther_123
            · have fc89_6 : ¬ p0.toInt = 29 := zt_ne (show p0.toInt = _ from rfl) tI_29 c89_6
              refine lv_iload_n hx hb d_Mo_suitsOther_92 rfl (lv_at hl 4 rfl) ?_
              refine lv_bipush (v := 30) hx hb d_Mo_suitsOther_93 (by decide) ?_
              refine lv_icmp_ne (tgt := 124) hx hb d_Mo_suitsOther_95 (by decide) (fun c95_6 => ?_) (fun c95_6 => ?_)
              · have fc95_6 : ¬ p0.toInt = 30 := zt_ne (show p0.toInt = _ from rfl) tI_30 c95_6
                refine lv_iload_n hx hb d_Mo_suitsOther_124 rfl (lv_at hl 4 rfl) ?_
                refine lv_bipush (v := 31) hx hb d_Mo_suitsOther_125 (by decide) ?_
                refine lv_icmp_ne (tgt := 145) hx hb d_Mo_suitsOther_127 (by decide) (fun c127_6 => ?_) (fun c127_6 => ?_)
                · have fc127_6 : ¬ p0.toInt = 31 := zt_ne (show p0.toInt = _ from rfl) tI_31 c127_6
                  refine lv_iload_n hx hb d_Mo_suitsOther_145 rfl (lv_at hl 4 rfl) ?_
                  refine lv_bipush (v := 38) hx hb d_Mo_suitsOther_146 (by decide) ?_
                  refine lv_icmp_ne (tgt := 168) hx hb d_Mo_suitsOther_148 (by decide) (fun c148_6 => ?_) (fun c148_6 => ?_)
                  · have fc148_6 : ¬ p0.toInt = 38 := zt_ne (show p0.toInt = _ from rfl) tI_38 c148_6
                    refine lv_iload_n hx hb d_Mo_suitsOther_168 rfl (lv_at hl 1 rfl) ?_
                    refine lv_iconst (v := 5) hx hb d_Mo_suitsOther_169 (by decide) ?_
                    refine lv_icmp_ne (tgt := 178) hx hb d_Mo_suitsOther_170 (by decide) (fun c170_6 => ?_) (fun c170_6 => ?_)
                    · have fc170_6 : ¬ rv23.toInt = 5 := zt_ne (show rv23.toInt = _ from rfl) tI_5 c170_6
                      refine lv_iload_n hx hb d_Mo_suitsOther_178 rfl (lv_at hl 1 rfl) ?_
                      refine lv_bipush (v := 6) hx hb d_Mo_suitsOther_179 (by decide) ?_
                      refine lv_icmp_ne (tgt := 194) hx hb d_Mo_suitsOther_181 (by decide) (fun c181_11 => ?_) (fun c181_11 => ?_)
                      · have fc181_11 : ¬ rv23.toInt = 6 := zt_ne (show rv23.toInt = _ from rfl) tI_6 c181_11
                        refine lv_iconst (v := 0) hx hb d_Mo_suitsOther_194 (by decide) ?_
                        exact j_zret F hr (by decide +kernel) hlocks hK hS () (show ((0 : Int32).toInt = 1 ∧ othP p0.toInt S) ∨ (0 : Int32).toInt = 0 by have := tI_0; first | (right; omega) | (left; refine ⟨by omega, ?_⟩; unfold othP; refine ⟨fun q => ?_, fun q => ?_, fun q => ?_, fun q => ?_, fun q => ?_⟩ <;> omega)) hP hD d_Mo_suitsOther_195
                      · have fc181_11 : rv23.toInt = 6 := zt_eq (show rv23.toInt = _ from rfl) tI_6 c181_11
                        refine lv_iload hx hb d_Mo_suitsOther_184 (lv_at hl 0 rfl) ?_
                        refine lv_iconst (v := 3) hx hb d_Mo_suitsOther_186 (by decide) ?_
                        refine lv_icmp_ne (tgt := 194) hx hb d_Mo_suitsOther_187 (by decide) (fun c187_11 => ?_) (fun c187_11 => ?_)
                        · have fc187_11 : ¬ rv29.toInt = 3 := zt_ne (show rv29.toInt = _ from rfl) tI_3 c187_11
                          refine lv_iconst (v := 0) hx hb d_Mo_suitsOther_194 (by decide) ?_
                          exact j_zret F hr (by decide +kernel) hlocks hK hS () (show ((0 : Int32).toInt = 1 ∧ othP p0.toInt S) ∨ (0 : Int32).toInt = 0 by have := tI_0; first | (right; omega) | (left; refine ⟨by omega, ?_⟩; unfold othP; refine ⟨fun q => ?_, fun q => ?_, fun q => ?_, fun q => ?_, fun q => ?_⟩ <;> omega)) hP hD d_Mo_suitsOther_195
                        · have fc187_11 : rv29.toInt = 3 := zt_eq (show rv29.toInt = _ from rfl) tI_3 c187_11
                          refine lv_iconst (v := 1) hx hb d_Mo_suitsOther_190 (by decide) ?_
                          refine lv_goto (tgt := 195) hx hb d_Mo_suitsOther_191 (by decide) ?_
                          exact j_zret F hr (by decide +kernel) hlocks hK hS () (show ((1 : Int32).toInt = 1 ∧ othP p0.toInt S) ∨ (1 : Int32).toInt = 0 by have := tI_1; first | (right; omega) | (left; refine ⟨by omega, ?_⟩; unfold othP; refine ⟨fun q => ?_, fun q => ?_, fun q => ?_, fun q => ?_, fun q => ?_⟩ <;> omega)) hP hD d_Mo_suitsOther_195
                    · have fc170_6 : rv23.toInt = 5 := zt_eq (show rv23.toInt = _ from rfl) tI_5 c170_6
                      refine lv_iload hx hb d_Mo_suitsOther_173 (lv_at hl 0 rfl) ?_
                      refine lv_if_eq (tgt := 190) hx hb d_Mo_suitsOther_175 (by decide) (fun c175_6 => ?_) (fun c175_6 => ?_)
                      · have fc175_6 : rv29.toInt = 0 := zt_eq (show rv29.toInt = _ from rfl) tI_0 c175_6
                        refine lv_iconst (v := 1) hx hb d_Mo_suitsOther_190 (by decide) ?_
                        refine lv_goto (tgt := 195) hx hb d_Mo_suitsOther_191 (by decide) ?_
                        exact j_zret F hr (by decide +kernel) hlocks hK hS () (show ((1 : Int32).toInt = 1 ∧ othP p0.toInt S) ∨ (1 : Int32).toInt = 0 by have := tI_1; first | (right; omega) | (left; refine ⟨by omega, ?_⟩; unfold othP; refine ⟨fun q => ?_, fun q => ?_, fun q => ?_, fun q => ?_, fun q => ?_⟩ <;> omega)) hP hD d_Mo_suitsOther_195
                      · have fc175_6 : ¬ rv29.toInt = 0 := zt_ne (show rv29.toInt = _ from rfl) tI_0 c175_6
                        refine lv_iload_n hx hb d_Mo_suitsOther_178 rfl (lv_at hl 1 rfl) ?_
                        refine lv_bipush (v := 6) hx hb d_Mo_suitsOther_179 (by decide) ?_
                        refine lv_icmp_ne (tgt := 194) hx hb d_Mo_suitsOther_181 (by decide) (fun c181_12 => ?_) (fun c181_12 => ?_)
                        · have fc181_12 : ¬ rv23.toInt = 6 := zt_ne (show rv23.toInt = _ from rfl) tI_6 c181_12
                          refine lv_iconst (v := 0) hx hb d_Mo_suitsOther_194 (by decide) ?_
                          exact j_zret F hr (by decide +kernel) hlocks hK hS () (show ((0 : Int32).toInt = 1 ∧ othP p0.toInt S) ∨ (0 : Int32).toInt = 0 by have := tI_0; first | (right; omega) | (left; refine ⟨by omega, ?_⟩; unfold othP; refine ⟨fun q => ?_, fun q => ?_, fun q => ?_, fun q => ?_, fun q => ?_⟩ <;> omega)) hP hD d_Mo_suitsOther_195
                        · have fc181_12 : rv23.toInt = 6 := zt_eq (show rv23.toInt = _ from rfl) tI_6 c181_12
                          refine lv_iload hx hb d_Mo_suitsOther_184 (lv_at hl 0 rfl) ?_
                          refine lv_iconst (v := 3) hx hb d_Mo_suitsOther_186 (by decide) ?_
                          refine lv_icmp_ne (tgt := 194) hx hb d_Mo_suitsOther_187 (by decide) (fun c187_12 => ?_) (fun c187_12 => ?_)
                          · have fc187_12 : ¬ rv29.toInt = 3 := zt_ne (show rv29.toInt = _ from rfl) tI_3 c187_12
                            refine lv_iconst (v := 0) hx hb d_Mo_suitsOther_194 (by decide) ?_
                            exact j_zret F hr (by decide +kernel) hlocks hK hS () (show ((0 : Int32).toInt = 1 ∧ othP p0.toInt S) ∨ (0 : Int32).toInt = 0 by have := tI_0; first | (right; omega) | (left; refine ⟨by omega, ?_⟩; unfold othP; refine ⟨fun q => ?_, fun q => ?_, fun q => ?_, fun q => ?_, fun q => ?_⟩ <;> omega)) hP hD d_Mo_suitsOther_195
                          · have fc187_12 : rv29.toInt = 3 := zt_eq (show rv29.toInt = _ from rfl) tI_3 c187_12
                            refine lv_iconst (v := 1) hx hb d_Mo_suitsOther_190 (by decide) ?_
                            refine lv_goto (tgt := 195) hx hb d_Mo_suitsOther_191 (by decide) ?_
                            exact j_zret F hr (by decide +kernel) hlocks hK hS () (show ((1 : Int32).toInt = 1 ∧ othP p0.toInt S) ∨ (1 : Int32).toInt = 0 by have := tI_1; first | (right; omega) | (left; refine ⟨by omega, ?_⟩; unfold othP; refine ⟨fun q => ?_, fun q => ?_, fun q => ?_, fun q => ?_, fun q => ?_⟩ <;> omega)) hP hD d_Mo_suitsOther_195
                  · have fc148_6 : p0.toInt = 38 := zt_eq (show p0.toInt = _ from rfl) tI_38 c148_6
                    refine lv_iload_n hx hb d_Mo_suitsOther_151 rfl (lv_at hl 1 rfl) ?_
                    refine lv_iconst (v := 5) hx hb d_Mo_suitsOther_152 (by decide) ?_
                    refine lv_icmp_eq (tgt := 162) hx hb d_Mo_suitsOther_153 (by decide) (fun c153_6 => ?_) (fun c153_6 => ?_)
                    · have fc153_6 : rv23.toInt = 5 := zt_eq (show rv23.toInt = _ from rfl) tI_5 c153_6
                      refine lv_iconst (v := 1) hx hb d_Mo_suitsOther_162 (by decide) ?_
                      refine lv_goto (tgt := 167) hx hb d_Mo_suitsOther_163 (by decide) ?_
                      exact j_zret F hr (by decide +kernel) hlocks hK hS () (show ((1 : Int32).toInt = 1 ∧ othP p0.toInt S) ∨ (1 : Int32).toInt = 0 by have := tI_1; first | (right; omega) | (left; refine ⟨by omega, ?_⟩; unfold othP; refine ⟨fun q => ?_, fun q => ?_, fun q => ?_, fun q => ?_, fun q => ?_⟩ <;> omega)) hP hD d_Mo_suitsOther_167
                    · have fc153_6 : ¬ rv23.toInt = 5 := zt_ne (show rv23.toInt = _ from rfl) tI_5 c153_6
                      refine lv_iload_n hx hb d_Mo_suitsOther_156 rfl (lv_at hl 1 rfl) ?_
                      refine lv_bipush (v := 6) hx hb d_Mo_suitsOther_157 (by decide) ?_
                      refine lv_icmp_ne (tgt := 166) hx hb d_Mo_suitsOther_159 (by decide) (fun c159_6 => ?_) (fun c159_6 => ?_)
                      · have fc159_6 : ¬ rv23.toInt = 6 := zt_ne (show rv23.toInt = _ from rfl) tI_6 c159_6
                        refine lv_iconst (v := 0) hx hb d_Mo_suitsOther_166 (by decide) ?_
                        exact j_zret F hr (by decide +kernel) hlocks hK hS () (show ((0 : Int32).toInt = 1 ∧ othP p0.toInt S) ∨ (0 : Int32).toInt = 0 by have := tI_0; first | (right; omega) | (left; refine ⟨by omega, ?_⟩; unfold othP; refine ⟨fun q => ?_, fun q => ?_, fun q => ?_, fun q => ?_, fun q => ?_⟩ <;> omega)) hP hD d_Mo_suitsOther_167
                      · have fc159_6 : rv23.toInt = 6 := zt_eq (show rv23.toInt = _ from rfl) tI_6 c159_6
                        refine lv_iconst (v := 1) hx hb d_Mo_suitsOther_162 (by decide) ?_
                        refine lv_goto (tgt := 167) hx hb d_Mo_suitsOther_163 (by decide) ?_
                        exact j_zret F hr (by decide +kernel) hlocks hK hS () (show ((1 : Int32).toInt = 1 ∧ othP p0.toInt S) ∨ (1 : Int32).toInt = 0 by have := tI_1; first | (right; omega) | (left; refine ⟨by omega, ?_⟩; unfold othP; refine ⟨fun q => ?_, fun q => ?_, fun q => ?_, fun q => ?_, fun q => ?_⟩ <;> omega)) hP hD d_Mo_suitsOther_167
                · have fc127_6 : p0.toInt = 31 := zt_eq (show p0.toInt = _ from rfl) tI_31 c127_6
                  refine lv_iload_n hx hb d_Mo_suitsOther_130 rfl (lv_at hl 1 rfl) ?_
                  refine lv_iconst (v := 2) hx hb d_Mo_suitsOther_131 (by decide) ?_
                  refine lv_icmp_eq (tgt := 139) hx hb d_Mo_suitsOther_132 (by decide) (fun c132_6 => ?_) (fun c132_6 => ?_)
                  · have fc132_6 : rv23.toInt = 2 := zt_eq (show rv23.toInt = _ from rfl) tI_2 c132_6
                    refine lv_iconst (v := 1) hx hb d_Mo_suitsOther_139 (by decide) ?_
                    refine lv_goto (tgt := 144) hx hb d_Mo_suitsOther_140 (by decide) ?_
                    exact j_zret F hr (by decide +kernel) hlocks hK hS () (show ((1 : Int32).toInt = 1 ∧ othP p0.toInt S) ∨ (1 : Int32).toInt = 0 by have := tI_1; first | (right; omega) | (left; refine ⟨by omega, ?_⟩; unfold othP; refine ⟨fun q => ?_, fun q => ?_, fun q => ?_, fun q => ?_, fun q => ?_⟩ <;> omega)) hP hD d_Mo_suitsOther_144
                  · have fc132_6 : ¬ rv23.toInt = 2 := zt_ne (show rv23.toInt = _ from rfl) tI_2 c132_6
                    refine lv_iload_n hx hb d_Mo_suitsOther_135 rfl (lv_at hl 1 rfl) ?_
                    refine lv_if_ne (tgt := 143) hx hb d_Mo_suitsOther_136 (by decide) (fun c136_6 => ?_) (fun c136_6 => ?_)
                    · have fc136_6 : ¬ rv23.toInt = 0 := zt_ne (show rv23.toInt = _ from rfl) tI_0 c136_6
                      refine lv_iconst (v := 0) hx hb d_Mo_suitsOther_143 (by decide) ?_
                      exact j_zret F hr (by decide +kernel) hlocks hK hS () (show ((0 : Int32).toInt = 1 ∧ othP p0.toInt S) ∨ (0 : Int32).toInt = 0 by have := tI_0; first | (right; omega) | (left; refine ⟨by omega, ?_⟩; unfold othP; refine ⟨fun q => ?_, fun q => ?_, fun q => ?_, fun q => ?_, fun q => ?_⟩ <;> omega)) hP hD d_Mo_suitsOther_144
                    · have fc136_6 : rv23.toInt = 0 := zt_eq (show rv23.toInt = _ from rfl) tI_0 c136_6
                      refine lv_iconst (v := 1) hx hb d_Mo_suitsOther_139 (by decide) ?_
                      refine lv_goto (tgt := 144) hx hb d_Mo_suitsOther_140 (by decide) ?_
                      exact j_zret F hr (by decide +kernel) hlocks hK hS () (show ((1 : Int32).toInt = 1 ∧ othP p0.toInt S) ∨ (1 : Int32).toInt = 0 by have := tI_1; first | (right; omega) | (left; refine ⟨by omega, ?_⟩; unfold othP; refine ⟨fun q => ?_, fun q => ?_, fun q => ?_, fun q => ?_, fun q => ?_⟩ <;> omega)) hP hD d_Mo_suitsOther_144
              · have fc95_6 : p0.toInt = 30 := zt_eq (show p0.toInt = _ from rfl) tI_30 c95_6
                refine lv_iload_n hx hb d_Mo_suitsOther_98 rfl (lv_at hl 1 rfl) ?_
                refine lv_iconst (v := 2) hx hb d_Mo_suitsOther_99 (by decide) ?_
                refine lv_icmp_eq (tgt := 107) hx hb d_Mo_suitsOther_100 (by decide) (fun c100_12 => ?_) (fun c100_12 => ?_)
                · have fc100_12 : rv23.toInt = 2 := zt_eq (show rv23.toInt = _ from rfl) tI_2 c100_12
                  refine lv_aload_n hx hb d_Mo_suitsOther_107 rfl (lv_at hl 3 rfl) ?_
                  refine lv_iload_n hx hb d_Mo_suitsOther_108 rfl (lv_at hl 2 rfl) ?_
                  refine lv_iconst (v := 1) hx hb d_Mo_suitsOther_109 (by decide) ?_
                  refine lv_isub hx hb d_Mo_suitsOther_110 ?_
                  refine j_eqi (y := x13) ex13.symm ?_
                  refine jm_ci (w := (fun _ => S)) hK hP hD hS hA (va_runV (As := [.int x13]) (rest := []) F (m_kindOf l D T h0 ar S x13 H.size (show 0 ≤ x13.toInt ∧ x13.toInt < 1300 by first | omega | (simp only [fx13]; omega)) (show 0 ≤ ((a_kinds S) x13.toInt.toNat).toInt by first | omega | (simp only [fx13]; omega))) (j_cV (k := 1) (C := "PageScribeModel") hts k_7_174 k_1_12 k_7_171 k_7_173 k_0_102 (by decide +kernel) ⟨Nat.le_of_ble_eq_true rfl, Nat.le_of_ble_eq_true rfl⟩) (jm_pre hK hP hD) rfl rfl hl.1 rfl (lv_room (Nat.le_of_ble_eq_true rfl)) d_Mo_suitsOther_111 ⟨Nat.le_of_ble_eq_true rfl, Nat.le_of_ble_eq_true rfl⟩) (fun rv32 u32 H locs hw32 hP hD hS => ?_)
                  have hP : va_P D classes (mW T h0 ar S) H := hP
                  have hD : va_D A (mW T h0 ar S) := hD
                  have qhw32 : rv32.toInt = ((a_kinds S) ((f_size S).toInt - 2).toNat).toInt % 8 := by simpa only [fx13] using hw32
                  refine lv_iload_n hx hb d_Mo_suitsOther_114 rfl (lv_at hl 1 rfl) ?_
                  refine lv_icmp_ne (tgt := 122) hx hb d_Mo_suitsOther_115 (by decide) (fun c115_23 => ?_) (fun c115_23 => ?_)
                  · have fc115_23 : ¬ rv32.toInt = rv23.toInt := zt_ne (show rv32.toInt = _ from rfl) (show rv23.toInt = _ from rfl) c115_23
                    refine lv_iconst (v := 0) hx hb d_Mo_suitsOther_122 (by decide) ?_
                    exact j_zret F hr (by decide +kernel) hlocks hK hS () (show ((0 : Int32).toInt = 1 ∧ othP p0.toInt S) ∨ (0 : Int32).toInt = 0 by have := tI_0; first | (right; omega) | (left; refine ⟨by omega, ?_⟩; unfold othP; refine ⟨fun q => ?_, fun q => ?_, fun q => ?_, fun q => ?_, fun q => ?_⟩ <;> omega)) hP hD d_Mo_suitsOther_123
                  · have fc115_23 : rv32.toInt = rv23.toInt := zt_eq (show rv32.toInt = _ from rfl) (show rv23.toInt = _ from rfl) c115_23
                    refine lv_iconst (v := 1) hx hb d_Mo_suitsOther_118 (by decide) ?_
                    refine lv_goto (tgt := 123) hx hb d_Mo_suitsOther_119 (by decide) ?_
                    exact j_zret F hr (by decide +kernel) hlocks hK hS () (show ((1 : Int32).toInt = 1 ∧ othP p0.toInt S) ∨ (1 : Int32).toInt = 0 by have := tI_1; first | (right; omega) | (left; refine ⟨by omega, ?_⟩; unfold othP; refine ⟨fun q => ?_, fun q => ?_, fun q => ?_, fun q => ?_, fun q => ?_⟩ <;> omega)) hP hD d_Mo_suitsOther_123
                · have fc100_12 : ¬ rv23.toInt = 2 := zt_ne (show rv23.toInt = _ from rfl) tI_2 c100_12
                  refine lv_iload_n hx hb d_Mo_suitsOther_103 rfl (lv_at hl 1 rfl) ?_
                  refine lv_if_ne (tgt := 122) hx hb d_Mo_suitsOther_104 (by decide) (fun c104_12 => ?_) (fun c104_12 => ?_)
                  · have fc104_12 : ¬ rv23.toInt = 0 := zt_ne (show rv23.toInt = _ from rfl) tI_0 c104_12
                    refine lv_iconst (v := 0) hx hb d_Mo_suitsOther_122 (by decide) ?_
                    exact j_zret F hr (by decide +kernel) hlocks hK hS () (show ((0 : Int32).toInt = 1 ∧ othP p0.toInt S) ∨ (0 : Int32).toInt = 0 by have := tI_0; first | (right; omega) | (left; refine ⟨by omega, ?_⟩; unfold othP; refine ⟨fun q => ?_, fun q => ?_, fun q => ?_, fun q => ?_, fun q => ?_⟩ <;> omega)) hP hD d_Mo_suitsOther_123
                  · have fc104_12 : rv23.toInt = 0 := zt_eq (show rv23.toInt = _ from rfl) tI_0 c104_12
                    refine lv_aload_n hx hb d_Mo_suitsOther_107 rfl (lv_at hl 3 rfl) ?_
                    refine lv_iload_n hx hb d_Mo_suitsOther_108 rfl (lv_at hl 2 rfl) ?_
                    refine lv_iconst (v := 1) hx hb d_Mo_suitsOther_109 (by decide) ?_
                    refine lv_isub hx hb d_Mo_suitsOther_110 ?_
                    refine j_eqi (y := x13) ex13.symm ?_
                    refine jm_ci (w := (fun _ => S)) hK hP hD hS hA (va_runV (As := [.int x13]) (rest := []) F (m_kindOf l D T h0 ar S x13 H.size (show 0 ≤ x13.toInt ∧ x13.toInt < 1300 by first | omega | (simp only [fx13]; omega)) (show 0 ≤ ((a_kinds S) x13.toInt.toNat).toInt by first | omega | (simp only [fx13]; omega))) (j_cV (k := 1) (C := "PageScribeModel") hts k_7_174 k_1_12 k_7_171 k_7_173 k_0_102 (by decide +kernel) ⟨Nat.le_of_ble_eq_true rfl, Nat.le_of_ble_eq_true rfl⟩) (jm_pre hK hP hD) rfl rfl hl.1 rfl (lv_room (Nat.le_of_ble_eq_true rfl)) d_Mo_suitsOther_111 ⟨Nat.le_of_ble_eq_true rfl, Nat.le_of_ble_eq_true rfl⟩) (fun rv33 u33 H locs hw33 hP hD hS => ?_)
                    have hP : va_P D classes (mW T h0 ar S) H := hP
                    have hD : va_D A (mW T h0 ar S) := hD
                    have qhw33 : rv33.toInt = ((a_kinds S) ((f_size S).toInt - 2).toNat).toInt % 8 := by simpa only [fx13] using hw33
                    refine lv_iload_n hx hb d_Mo_suitsOther_114 rfl (lv_at hl 1 rfl) ?_
                    refine lv_icmp_ne (tgt := 122) hx hb d_Mo_suitsOther_115 (by decide) (fun c115_24 => ?_) (fun c115_24 => ?_)
                    · have fc115_24 : ¬ rv33.toInt = rv23.toInt := zt_ne (show rv33.toInt = _ from rfl) (show rv23.toInt = _ from rfl) c115_24
                      refine lv_iconst (v := 0) hx hb d_Mo_suitsOther_122 (by decide) ?_
                      exact j_zret F hr (by decide +kernel) hlocks hK hS () (show ((0 : Int32).toInt = 1 ∧ othP p0.toInt S) ∨ (0 : Int32).toInt = 0 by have := tI_0; first | (right; omega) | (left; refine ⟨by omega, ?_⟩; unfold othP; refine ⟨fun q => ?_, fun q => ?_, fun q => ?_, fun q => ?_, fun q => ?_⟩ <;> omega)) hP hD d_Mo_suitsOther_123
                    · have fc115_24 : rv33.toInt = rv23.toInt := zt_eq (show rv33.toInt = _ from rfl) (show rv23.toInt = _ from rfl) c115_24
                      refine lv_iconst (v := 1) hx hb d_Mo_suitsOther_118 (by decide) ?_
                      refine lv_goto (tgt := 123) hx hb d_Mo_suitsOther_119 (by decide) ?_
                      exact j_zret F hr (by decide +kernel) hlocks hK hS () (show ((1 : Int32).toInt = 1 ∧ othP p0.toInt S) ∨ (1 : Int32).toInt = 0 by have := tI_1; first | (right; omega) | (left; refine ⟨by omega, ?_⟩; unfold othP; refine ⟨fun q => ?_, fun q => ?_, fun q => ?_, fun q => ?_, fun q => ?_⟩ <;> omega)) hP hD d_Mo_suitsOther_123
      · have fc15_1 : 31 < p0.toInt := Int.not_le.mp (zt_nle (show p0.toInt = _ from rfl) tI_31 c15_1)
        refine lv_iload_n hx hb d_Mo_suitsOther_18 rfl (lv_at hl 1 rfl) ?_
        refine lv_bipush (v := 38) hx hb d_Mo_suitsOther_19 (by decide) ?_
        refine lv_icmp_ge (tgt := 26) hx hb d_Mo_suitsOther_21 (by decide) (fun c21_1 => ?_) (fun c21_1 => ?_)
        · have fc21_1 : 38 ≤ p0.toInt := zt_le tI_38 (show p0.toInt = _ from rfl) c21_1
          refine lv_aload_n hx hb d_Mo_suitsOther_26 rfl (lv_at hl 0 rfl) ?_
          refine va_get (D := D) (ci := 11) (v := .int (f_size S)) (C := "PageScribeModel") (T := F_Mo) (N := 45) hx hb hts i_Mo hown hK hP 0 mW_0 cl_11 4 (by decide) (hts _ k_6_164) (fun _ h9 => h9) (mg_size _ _) d_Mo_suitsOther_27 ?_
          refine lv_iconst (v := 1) hx hb d_Mo_suitsOther_30 (by decide) ?_
          refine lv_isub hx hb d_Mo_suitsOther_31 ?_
          refine lv_topi (fun x14 ex14 => ?_)
          have fx14 : x14.toInt = ((f_size S).toInt - 1) := by rw [ex14]; exact (zt_sub (show (f_size S).toInt = _ from rfl) tI_1 (by omega) (by omega)).trans (by omega)
          refine lv_istore_n (lv' := [(2, .int x14), (0, .ref h0), (1, .int p0)]) hx hb d_Mo_suitsOther_32 rfl hl (by decide) rfl (fun ls hl => ?_)
          refine lv_aload_n hx hb d_Mo_suitsOther_33 rfl (lv_at hl 1 rfl) ?_
          refine lv_iload_n hx hb d_Mo_suitsOther_34 rfl (lv_at hl 2 rfl) ?_
          refine lv_bipush (v := 40) hx hb d_Mo_suitsOther_35 (by decide) ?_
          refine lv_icmp_ne (tgt := 46) hx hb d_Mo_suitsOther_37 (by decide) (fun c37_2 => ?_) (fun c37_2 => ?_)
          · have fc37_2 : ¬ p0.toInt = 40 := zt_ne (show p0.toInt = _ from rfl) tI_40 c37_2
            refine lv_iload_n hx hb d_Mo_suitsOther_46 rfl (lv_at hl 2 rfl) ?_
            refine lv_bipush (v := 39) hx hb d_Mo_suitsOther_47 (by decide) ?_
            refine lv_icmp_ne (tgt := 58) hx hb d_Mo_suitsOther_49 (by decide) (fun c49_2 => ?_) (fun c49_2 => ?_)
            · have fc49_2 : ¬ p0.toInt = 39 := zt_ne (show p0.toInt = _ from rfl) tI_39 c49_2
              refine lv_iload_n hx hb d_Mo_suitsOther_58 rfl (lv_at hl 0 rfl) ?_
              have kv16 : vOk ((a_kinds S) (((f_size S).toInt - 1).toNat)) ((a_codes S) (((f_size S).toInt - 1).toNat)) ((a_reals S) (((f_size S).toInt - 1).toNat)) := i_vals (((f_size S).toInt - 1).toNat) (by omega)
              have rkv16 := vk_rng kv16
              refine jm_ci (w := (fun _ => S)) hK hP hD hS hA (va_runV (As := [.int x14]) (rest := []) F (m_kindOf l D T h0 ar S x14 s.heap.size (show 0 ≤ x14.toInt ∧ x14.toInt < 1300 by first | omega | (simp only [fx14]; omega)) (show 0 ≤ ((a_kinds S) x14.toInt.toNat).toInt by first | omega | (simp only [fx14]; omega))) (j_cV (k := 1) (C := "PageScribeModel") hts k_7_174 k_1_12 k_7_171 k_7_173 k_0_102 (by decide +kernel) ⟨Nat.le_of_ble_eq_true rfl, Nat.le_of_ble_eq_true rfl⟩) (jm_pre hK hP hD) rfl rfl hl.1 rfl (lv_room (Nat.le_of_ble_eq_true rfl)) d_Mo_suitsOther_59 ⟨Nat.le_of_ble_eq_true rfl, Nat.le_of_ble_eq_true rfl⟩) (fun rv34 u34 H locs hw34 hP hD hS => ?_)
              have hP : va_P D classes (mW T h0 ar S) H := hP
              have hD : va_D A (mW T h0 ar S) := hD
              have qhw34 : rv34.toInt = ((a_kinds S) ((f_size S).toInt - 1).toNat).toInt % 8 := by simpa only [fx14] using hw34
              refine lv_istore_n (lv' := [(3, .int rv34), (2, .int x14), (0, .ref h0), (1, .int p0)]) hx hb d_Mo_suitsOther_62 rfl hl (by decide) rfl (fun ls hl => ?_)
              refine lv_iload_n hx hb d_Mo_suitsOther_63 rfl (lv_at hl 3 rfl) ?_
              refine lv_bipush (v := 40) hx hb d_Mo_suitsOther_64 (by decide) ?_
              refine lv_icmp_ne (tgt := 79) hx hb d_Mo_suitsOther_66 (by decide) (fun c66_4 => ?_) (fun c66_4 => ?_)
              · have fc66_4 : ¬ p0.toInt = 40 := zt_ne (show p0.toInt = _ from rfl) tI_40 c66_4
                refine lv_aload_n hx hb d_Mo_suitsOther_79 rfl (lv_at hl 2 rfl) ?_
                refine lv_iload_n hx hb d_Mo_suitsOther_80 rfl (lv_at hl 1 rfl) ?_
                refine jm_ci (w := (fun _ => S)) hK hP hD hS hA (va_runV (As := [.int x14]) (rest := []) F (m_kindOf l D T h0 ar S x14 H.size (show 0 ≤ x14.toInt ∧ x14.toInt < 1300 by first | omega | (simp only [fx14]; omega)) (show 0 ≤ ((a_kinds S) x14.toInt.toNat).toInt by first | omega | (simp only [fx14]; omega))) (j_cV (k := 1) (C := "PageScribeModel") hts k_7_174 k_1_12 k_7_171 k_7_173 k_0_102 (by decide +kernel) ⟨Nat.le_of_ble_eq_true rfl, Nat.le_of_ble_eq_true rfl⟩) (jm_pre hK hP hD) rfl rfl hl.1 rfl (lv_room (Nat.le_of_ble_eq_true rfl)) d_Mo_suitsOther_81 ⟨Nat.le_of_ble_eq_true rfl, Nat.le_of_ble_eq_true rfl⟩) (fun rv35 u35 H locs hw35 hP hD hS => ?_)
                have hP : va_P D classes (mW T h0 ar S) H := hP
                have hD : va_D A (mW T h0 ar S) := hD
                have qhw35 : rv35.toInt = ((a_kinds S) ((f_size S).toInt - 1).toNat).toInt % 8 := by simpa only [fx14] using hw35
                refine lv_istore (lv' := [(4, .int rv35), (3, .int rv34), (2, .int x14), (0, .ref h0), (1, .int p0)]) hx hb d_Mo_suitsOther_84 hl (by decide) rfl (fun ls hl => ?_)
                refine lv_iload_n hx hb d_Mo_suitsOther_86 rfl (lv_at hl 4 rfl) ?_
                refine lv_bipush (v := 29) hx hb d_Mo_suitsOther_87 (by decide) ?_
                refine lv_icmp_eq (tgt := 98) hx hb d_Mo_suitsOther_89 (by decide) (fun c89_7 => ?_) (fun c89_7 => ?_)
                · have fc89_7 : p0.toInt = 29 := zt_eq (show p0.toInt = _ from rfl) tI_29 c89_7
                  refine lv_iload_n hx hb d_Mo_suitsOther_98 rfl (lv_at hl 1 rfl) ?_
                  refine lv_iconst (v := 2) hx hb d_Mo_suitsOther_99 (by decide) ?_
                  refine lv_icmp_eq (tgt := 107) hx hb d_Mo_suitsOther_100 (by decide) (fun c100_13 => ?_) (fun c100_13 => ?_)
                  · have fc100_13 : rv34.toInt = 2 := zt_eq (show rv34.toInt = _ from rfl) tI_2 c100_13
                    refine lv_aload_n hx hb d_Mo_suitsOther_107 rfl (lv_at hl 3 rfl) ?_
                    refine lv_iload_n hx hb d_Mo_suitsOther_108 rfl (lv_at hl 2 rfl) ?_
                    refine lv_iconst (v := 1) hx hb d_Mo_suitsOther_109 (by decide) ?_
                    refine lv_isub hx hb d_Mo_suitsOther_110 ?_
                    refine lv_topi (fun x15 ex15 => ?_)
                    have fx15 : x15.toInt = ((f_size S).toInt - 2) := by rw [ex15]; exact (zt_sub fx14 tI_1 (by omega) (by omega)).trans (by omega)
                    have kv17 : vOk ((a_kinds S) (((f_size S).toInt - 2).toNat)) ((a_codes S) (((f_size S).toInt - 2).toNat)) ((a_reals S) (((f_size S).toInt - 2).toNat)) := i_vals (((f_size S).toInt - 2).toNat) (by omega)
                    have rkv17 := vk_rng kv17
                    refine jm_ci (w := (fun _ => S)) hK hP hD hS hA (va_runV (As := [.int x15]) (rest := []) F (m_kindOf l D T h0 ar S x15 H.size (show 0 ≤ x15.toInt ∧ x15.toInt < 1300 by first | omega | (simp only [fx15]; omega)) (show 0 ≤ ((a_kinds S) x15.toInt.toNat).toInt by first | omega | (simp only [fx15]; omega))) (j_cV (k := 1) (C := "PageScribeModel") hts k_7_174 k_1_12 k_7_171 k_7_173 k_0_102 (by decide +kernel) ⟨Nat.le_of_ble_eq_true rfl, Nat.le_of_ble_eq_true rfl⟩) (jm_pre hK hP hD) rfl rfl hl.1 rfl (lv_room (Nat.le_of_ble_eq_true rfl)) d_Mo_suitsOther_111 ⟨Nat.le_of_ble_eq_true rfl, Nat.le_of_ble_eq_true rfl⟩) (fun rv36 u36 H locs hw36 hP hD hS => ?_)
                    have hP : va_P D classes (mW T h0 ar S) H := hP
                    have hD : va_D A (mW T h0 ar S) := hD
                    have qhw36 : rv36.toInt = ((a_kinds S) ((f_size S).toInt - 2).toNat).toInt % 8 := by simpa only [fx15] using hw36
                    refine lv_iload_n hx hb d_Mo_suitsOther_114 rfl (lv_at hl 1 rfl) ?_
                    refine lv_icmp_ne (tgt := 122) hx hb d_Mo_suitsOther_115 (by decide) (fun c115_25 => ?_) (fun c115_25 => ?_)
                    · have fc115_25 : ¬ rv36.toInt = rv34.toInt := zt_ne (show rv36.toInt = _ from rfl) (show rv34.toInt = _ from rfl) c115_25
                      refine lv_iconst (v := 0) hx hb d_Mo_suitsOther_122 (by decide) ?_
                      exact j_zret F hr (by decide +kernel) hlocks hK hS () (show ((0 : Int32).toInt = 1 ∧ othP p0.toInt S) ∨ (0 : Int32).toInt = 0 by have := tI_0; first | (right; omega) | (left; refine ⟨by omega, ?_⟩; unfold othP; refine ⟨fun q => ?_, fun q => ?_, fun q => ?_, fun q => ?_, fun q => ?_⟩ <;> omega)) hP hD d_Mo_suitsOther_123
                    · have fc115_25 : rv36.toInt = rv34.toInt := zt_eq (show rv36.toInt = _ from rfl) (show rv34.toInt = _ from rfl) c115_25
                      refine lv_iconst (v := 1) hx hb d_Mo_suitsOther_118 (by decide) ?_
                      refine lv_goto (tgt := 123) hx hb d_Mo_suitsOther_119 (by decide) ?_
                      exact j_zret F hr (by decide +kernel) hlocks hK hS () (show ((1 : Int32).toInt = 1 ∧ othP p0.toInt S) ∨ (1 : Int32).toInt = 0 by have := tI_1; first | (right; omega) | (left; refine ⟨by omega, ?_⟩; unfold othP; refine ⟨fun q => ?_, fun q => ?_, fun q => ?_, fun q => ?_, fun q => ?_⟩ <;> omega)) hP hD d_Mo_suitsOther_123
                  · have fc100_13 : ¬ rv34.toInt = 2 := zt_ne (show rv34.toInt = _ from rfl) tI_2 c100_13
                    refine lv_iload_n hx hb d_Mo_suitsOther_103 rfl (lv_at hl 1 rfl) ?_
                    refine lv_if_ne (tgt := 122) hx hb d_Mo_suitsOther_104 (by decide) (fun c104_13 => ?_) (fun c104_13 => ?_)
                    · have fc104_13 : ¬ rv34.toInt = 0 := zt_ne (show rv34.toInt = _ from rfl) tI_0 c104_13
                      refine lv_iconst (v := 0) hx hb d_Mo_suitsOther_122 (by decide) ?_
                      exact j_zret F hr (by decide +kernel) hlocks hK hS () (show ((0 : Int32).toInt = 1 ∧ othP p0.toInt S) ∨ (0 : Int32).toInt = 0 by have := tI_0; first | (right; omega) | (left; refine ⟨by omega, ?_⟩; unfold othP; refine ⟨fun q => ?_, fun q => ?_, fun q => ?_, fun q => ?_, fun q => ?_⟩ <;> omega)) hP hD d_Mo_suitsOther_123
                    · have fc104_13 : rv34.toInt = 0 := zt_eq (show rv34.toInt = _ from rfl) tI_0 c104_13
                      refine lv_aload_n hx hb d_Mo_suitsOther_107 rfl (lv_at hl 3 rfl) ?_
                      refine lv_iload_n hx hb d_Mo_suitsOther_108 rfl (lv_at hl 2 rfl) ?_
                      refine lv_iconst (v := 1) hx hb d_Mo_suitsOther_109 (by decide) ?_
                      refine lv_isub hx hb d_Mo_suitsOther_110 ?_
                      refine lv_topi (fun x16 ex16 => ?_)
                      have fx16 : x16.toInt = ((f_size S).toInt - 2) := by rw [ex16]; exact (zt_sub fx14 tI_1 (by omega) (by omega)).trans (by omega)
                      have kv18 : vOk ((a_kinds S) (((f_size S).toInt - 2).toNat)) ((a_codes S) (((f_size S).toInt - 2).toNat)) ((a_reals S) (((f_size S).toInt - 2).toNat)) := i_vals (((f_size S).toInt - 2).toNat) (by omega)
                      have rkv18 := vk_rng kv18
                      refine jm_ci (w := (fun _ => S)) hK hP hD hS hA (va_runV (As := [.int x16]) (rest := []) F (m_kindOf l D T h0 ar S x16 H.size (show 0 ≤ x16.toInt ∧ x16.toInt < 1300 by first | omega | (simp only [fx16]; omega)) (show 0 ≤ ((a_kinds S) x16.toInt.toNat).toInt by first | omega | (simp only [fx16]; omega))) (j_cV (k := 1) (C := "PageScribeModel") hts k_7_174 k_1_12 k_7_171 k_7_173 k_0_102 (by decide +kernel) ⟨Nat.le_of_ble_eq_true rfl, Nat.le_of_ble_eq_true rfl⟩) (jm_pre hK hP hD) rfl rfl hl.1 rfl (lv_room (Nat.le_of_ble_eq_true rfl)) d_Mo_suitsOther_111 ⟨Nat.le_of_ble_eq_true rfl, Nat.le_of_ble_eq_true rfl⟩) (fun rv37 u37 H locs hw37 hP hD hS => ?_)
                      have hP : va_P D classes (mW T h0 ar S) H := hP
                      have hD : va_D A (mW T h0 ar S) := hD
                      have qhw37 : rv37.toInt = ((a_kinds S) ((f_size S).toInt - 2).toNat).toInt % 8 := by simpa only [fx16] using hw37
                      refine lv_iload_n hx hb d_Mo_suitsOther_114 rfl (lv_at hl 1 rfl) ?_
                      refine lv_icmp_ne (tgt := 122) hx hb d_Mo_suitsOther_115 (by decide) (fun c115_26 => ?_) (fun c115_26 => ?_)
                      · have fc115_26 : ¬ rv37.toInt = rv34.toInt := zt_ne (show rv37.toInt = _ from rfl) (show rv34.toInt = _ from rfl) c115_26
                        refine lv_iconst (v := 0) hx hb d_Mo_suitsOther_122 (by decide) ?_
                        exact j_zret F hr (by decide +kernel) hlocks hK hS () (show ((0 : Int32).toInt = 1 ∧ othP p0.toInt S) ∨ (0 : Int32).toInt = 0 by have := tI_0; first | (right; omega) | (left; refine ⟨by omega, ?_⟩; unfold othP; refine ⟨fun q => ?_, fun q => ?_, fun q => ?_, fun q => ?_, fun q => ?_⟩ <;> omega)) hP hD d_Mo_suitsOther_123
                      · have fc115_26 : rv37.toInt = rv34.toInt := zt_eq (show rv37.toInt = _ from rfl) (show rv34.toInt = _ from rfl) c115_26
                        refine lv_iconst (v := 1) hx hb d_Mo_suitsOther_118 (by decide) ?_
                        refine lv_goto (tgt := 123) hx hb d_Mo_suitsOther_119 (by decide) ?_
                        exact j_zret F hr (by decide +kernel) hlocks hK hS () (show ((1 : Int32).toInt = 1 ∧ othP p0.toInt S) ∨ (1 : Int32).toInt = 0 by have := tI_1; first | (right; omega) | (left; refine ⟨by omega, ?_⟩; unfold othP; refine ⟨fun q => ?_, fun q => ?_, fun q => ?_, fun q => ?_, fun q => ?_⟩ <;> omega)) hP hD d_Mo_suitsOther_123
                · have fc89_7 : ¬ p0.toInt = 29 := zt_ne (show p0.toInt = _ from rfl) tI_29 c89_7
                  refine lv_iload_n hx hb d_Mo_suitsOther_92 rfl (lv_at hl 4 rfl) ?_
                  refine lv_bipush (v := 30) hx hb d_Mo_suitsOther_93 (by decide) ?_
                  refine lv_icmp_ne (tgt := 124) hx hb d_Mo_suitsOther_95 (by decide) (fun c95_7 => ?_) (fun c95_7 => ?_)
                  · have fc95_7 : ¬ p0.toInt = 30 := zt_ne (show p0.toInt = _ from rfl) tI_30 c95_7
                    refine lv_iload_n hx hb d_Mo_suitsOther_124 rfl (lv_at hl 4 rfl) ?_
                    refine lv_bipush (v := 31) hx hb d_Mo_suitsOther_125 (by decide) ?_
                    refine lv_icmp_ne (tgt := 145) hx hb d_Mo_suitsOther_127 (by decide) (fun c127_7 => ?_) (fun c127_7 => ?_)
                    · have fc127_7 : ¬ p0.toInt = 31 := zt_ne (show p0.toInt = _ from rfl) tI_31 c127_7
                      refine lv_iload_n hx hb d_Mo_suitsOther_145 rfl (lv_at hl 4 rfl) ?_
                      refine lv_bipush (v := 38) hx hb d_Mo_suitsOther_146 (by decide) ?_
                      refine lv_icmp_ne (tgt := 168) hx hb d_Mo_suitsOther_148 (by decide) (fun c148_7 => ?_) (fun c148_7 => ?_)
                      · have fc148_7 : ¬ p0.toInt = 38 := zt_ne (show p0.toInt = _ from rfl) tI_38 c148_7
                        refine lv_iload_n hx hb d_Mo_suitsOther_168 rfl (lv_at hl 1 rfl) ?_
                        refine lv_iconst (v := 5) hx hb d_Mo_suitsOther_169 (by decide) ?_
                        refine lv_icmp_ne (tgt := 178) hx hb d_Mo_suitsOther_170 (by decide) (fun c170_7 => ?_) (fun c170_7 => ?_)
                        · have fc170_7 : ¬ rv34.toInt = 5 := zt_ne (show rv34.toInt = _ from rfl) tI_5 c170_7
                          refine lv_iload_n hx hb d_Mo_suitsOther_178 rfl (lv_at hl 1 rfl) ?_
                          refine lv_bipush (v := 6) hx hb d_Mo_suitsOther_179 (by decide) ?_
                          refine lv_icmp_ne (tgt := 194) hx hb d_Mo_suitsOther_181 (by decide) (fun c181_13 => ?_) (fun c181_13 => ?_)
                          · have fc181_13 : ¬ rv34.toInt = 6 := zt_ne (show rv34.toInt = _ from rfl) tI_6 c181_13
                            refine lv_iconst (v := 0) hx hb d_Mo_suitsOther_194 (by decide) ?_
                            exact j_zret F hr (by decide +kernel) hlocks hK hS () (show ((0 : Int32).toInt = 1 ∧ othP p0.toInt S) ∨ (0 : Int32).toInt = 0 by have := tI_0; first | (right; omega) | (left; refine ⟨by omega, ?_⟩; unfold othP; refine ⟨fun q => ?_, fun q => ?_, fun q => ?_, fun q => ?_, fun q => ?_⟩ <;> omega)) hP hD d_Mo_suitsOther_195
                          · have fc181_13 : rv34.toInt = 6 := zt_eq (show rv34.toInt = _ from rfl) tI_6 c181_13
                            refine lv_iload hx hb d_Mo_suitsOther_184 (lv_at hl 0 rfl) ?_
                            refine lv_iconst (v := 3) hx hb d_Mo_suitsOther_186 (by decide) ?_
                            refine lv_icmp_ne (tgt := 194) hx hb d_Mo_suitsOther_187 (by decide) (fun c187_13 => ?_) (fun c187_13 => ?_)
                            · have fc187_13 : ¬ rv35.toInt = 3 := zt_ne (show rv35.toInt = _ from rfl) tI_3 c187_13
                              refine lv_iconst (v := 0) hx hb d_Mo_suitsOther_194 (by decide) ?_
                              exact j_zret F hr (by decide +kernel) hlocks hK hS () (show ((0 : Int32).toInt = 1 ∧ othP p0.toInt S) ∨ (0 : Int32).toInt = 0 by have := tI_0; first | (right; omega) | (left; refine ⟨by omega, ?_⟩; unfold othP; refine ⟨fun q => ?_, fun q => ?_, fun q => ?_, fun q => ?_, fun q => ?_⟩ <;> omega)) hP hD d_Mo_suitsOther_195
                            · have fc187_13 : rv35.toInt = 3 := zt_eq (show rv35.toInt = _ from rfl) tI_3 c187_13
                              refine lv_iconst (v := 1) hx hb d_Mo_suitsOther_190 (by decide) ?_
                              refine lv_goto (tgt := 195) hx hb d_Mo_suitsOther_191 (by decide) ?_
                              exact j_zret F hr (by decide +kernel) hlocks hK hS () (show ((1 : Int32).toInt = 1 ∧ othP p0.toInt S) ∨ (1 : Int32).toInt = 0 by have := tI_1; first | (right; omega) | (left; refine ⟨by omega, ?_⟩; unfold othP; refine ⟨fun q => ?_, fun q => ?_, fun q => ?_, fun q => ?_, fun q => ?_⟩ <;> omega)) hP hD d_Mo_suitsOther_195
                        · have fc170_7 : rv34.toInt = 5 := zt_eq (show rv34.toInt = _ from rfl) tI_5 c170_7
                          refine lv_iload hx hb d_Mo_suitsOther_173 (lv_at hl 0 rfl) ?_
                          refine lv_if_eq (tgt := 190) hx hb d_Mo_suitsOther_175 (by decide) (fun c175_7 => ?_) (fun c175_7 => ?_)
                          · have fc175_7 : rv35.toInt = 0 := zt_eq (show rv35.toInt = _ from rfl) tI_0 c175_7
                            refine lv_iconst (v := 1) hx hb d_Mo_suitsOther_190 (by decide) ?_
                            refine lv_goto (tgt := 195) hx hb d_Mo_suitsOther_191 (by decide) ?_
                            exact j_zret F hr (by decide +kernel) hlocks hK hS () (show ((1 : Int32).toInt = 1 ∧ othP p0.toInt S) ∨ (1 : Int32).toInt = 0 by have := tI_1; first | (right; omega) | (left; refine ⟨by omega, ?_⟩; unfold othP; refine ⟨fun q => ?_, fun q => ?_, fun q => ?_, fun q => ?_, fun q => ?_⟩ <;> omega)) hP hD d_Mo_suitsOther_195
                          · have fc175_7 : ¬ rv35.toInt = 0 := zt_ne (show rv35.toInt = _ from rfl) tI_0 c175_7
                            refine lv_iload_n hx hb d_Mo_suitsOther_178 rfl (lv_at hl 1 rfl) ?_
                            refine lv_bipush (v := 6) hx hb d_Mo_suitsOther_179 (by decide) ?_
                            refine lv_icmp_ne (tgt := 194) hx hb d_Mo_suitsOther_181 (by decide) (fun c181_14 => ?_) (fun c181_14 => ?_)
                            · have fc181_14 : ¬ rv34.toInt = 6 := zt_ne (show rv34.toInt = _ from rfl) tI_6 c181_14
                              refine lv_iconst (v := 0) hx hb d_Mo_suitsOther_194 (by decide) ?_
                              exact j_zret F hr (by decide +kernel) hlocks hK hS () (show ((0 : Int32).toInt = 1 ∧ othP p0.toInt S) ∨ (0 : Int32).toInt = 0 by have := tI_0; first | (right; omega) | (left; refine ⟨by omega, ?_⟩; unfold othP; refine ⟨fun q => ?_, fun q => ?_, fun q => ?_, fun q => ?_, fun q => ?_⟩ <;> omega)) hP hD d_Mo_suitsOther_195
                            · have fc181_14 : rv34.toInt = 6 := zt_eq (show rv34.toInt = _ from rfl) tI_6 c181_14
                              refine lv_iload hx hb d_Mo_suitsOther_184 (lv_at hl 0 rfl) ?_
                              refine lv_iconst (v := 3) hx hb d_Mo_suitsOther_186 (by decide) ?_
                              refine lv_icmp_ne (tgt := 194) hx hb d_Mo_suitsOther_187 (by decide) (fun c187_14 => ?_) (fun c187_14 => ?_)
                              · have fc187_14 : ¬ rv35.toInt = 3 := zt_ne (show rv35.toInt = _ from rfl) tI_3 c187_14
                                refine lv_iconst (v := 0) hx hb d_Mo_suitsOther_194 (by decide) ?_
                                exact j_zret F hr (by decide +kernel) hlocks hK hS () (show ((0 : Int32).toInt = 1 ∧ othP p0.toInt S) ∨ (0 : Int32).toInt = 0 by have := tI_0; first | (right; omega) | (left; refine ⟨by omega, ?_⟩; unfold othP; refine ⟨fun q => ?_, fun q => ?_, fun q => ?_, fun q => ?_, fun q => ?_⟩ <;> omega)) hP hD d_Mo_suitsOther_195
                              · have fc187_14 : rv35.toInt = 3 := zt_eq (show rv35.toInt = _ from rfl) tI_3 c187_14
                                refine lv_iconst (v := 1) hx hb d_Mo_suitsOther_190 (by decide) ?_
                                refine lv_goto (tgt := 195) hx hb d_Mo_suitsOther_191 (by decide) ?_
                                exact j_zret F hr (by decide +kernel) hlocks hK hS () (show ((1 : Int32).toInt = 1 ∧ othP p0.toInt S) ∨ (1 : Int32).toInt = 0 by have := tI_1; first | (right; omega) | (left; refine ⟨by omega, ?_⟩; unfold othP; refine ⟨fun q => ?_, fun q => ?_, fun q => ?_, fun q => ?_, fun q => ?_⟩ <;> omega)) hP hD d_Mo_suitsOther_195
                      · have fc148_7 : p0.toInt = 38 := zt_eq (show p0.toInt = _ from rfl) tI_38 c148_7
                        refine lv_iload_n hx hb d_Mo_suitsOther_151 rfl (lv_at hl 1 rfl) ?_
                        refine lv_iconst (v := 5) hx hb d_Mo_suitsOther_152 (by decide) ?_
                        refine lv_icmp_eq (tgt := 162) hx hb d_Mo_suitsOther_153 (by decide) (fun c153_7 => ?_) (fun c153_7 => ?_)
                        · have fc153_7 : rv34.toInt = 5 := zt_eq (show rv34.toInt = _ from rfl) tI_5 c153_7
                          refine lv_iconst (v := 1) hx hb d_Mo_suitsOther_162 (by decide) ?_
                          refine lv_goto (tgt := 167) hx hb d_Mo_suitsOther_163 (by decide) ?_
                          exact j_zret F hr (by decide +kernel) hlocks hK hS () (show ((1 : Int32).toInt = 1 ∧ othP p0.toInt S) ∨ (1 : Int32).toInt = 0 by have := tI_1; first | (right; omega) | (left; refine ⟨by omega, ?_⟩; unfold othP; refine ⟨fun q => ?_, fun q => ?_, fun q => ?_, fun q => ?_, fun q => ?_⟩ <;> omega)) hP hD d_Mo_suitsOther_167
                        · have fc153_7 : ¬ rv34.toInt = 5 := zt_ne (show rv34.toInt = _ from rfl) tI_5 c153_7
                          refine lv_iload_n hx hb d_Mo_suitsOther_156 rfl (lv_at hl 1 rfl) ?_
                          refine lv_bipush (v := 6) hx hb d_Mo_suitsOther_157 (by decide) ?_
                          refine lv_icmp_ne (tgt := 166) hx hb d_Mo_suitsOther_159 (by decide) (fun c159_7 => ?_) (fun c159_7 => ?_)
                          · have fc159_7 : ¬ rv34.toInt = 6 := zt_ne (show rv34.toInt = _ from rfl) tI_6 c159_7
                            refine lv_iconst (v := 0) hx hb d_Mo_suitsOther_166 (by decide) ?_
                            exact j_zret F hr (by decide +kernel) hlocks hK hS () (show ((0 : Int32).toInt = 1 ∧ othP p0.toInt S) ∨ (0 : Int32).toInt = 0 by have := tI_0; first | (right; omega) | (left; refine ⟨by omega, ?_⟩; unfold othP; refine ⟨fun q => ?_, fun q => ?_, fun q => ?_, fun q => ?_, fun q => ?_⟩ <;> omega)) hP hD d_Mo_suitsOther_167
                          · have fc159_7 : rv34.toInt = 6 := zt_eq (show rv34.toInt = _ from rfl) tI_6 c159_7
                            refine lv_iconst (v := 1) hx hb d_Mo_suitsOther_162 (by decide) ?_
                            refine lv_goto (tgt := 167) hx hb d_Mo_suitsOther_163 (by decide) ?_
                            exact j_zret F hr (by decide +kernel) hlocks hK hS () (show ((1 : Int32).toInt = 1 ∧ othP p0.toInt S) ∨ (1 : Int32).toInt = 0 by have := tI_1; first | (right; omega) | (left; refine ⟨by omega, ?_⟩; unfold othP; refine ⟨fun q => ?_, fun q => ?_, fun q => ?_, fun q => ?_, fun q => ?_⟩ <;> omega)) hP hD d_Mo_suitsOther_167
                    · have fc127_7 : p0.toInt = 31 := zt_eq (show p0.toInt = _ from rfl) tI_31 c127_7
                      refine lv_iload_n hx hb d_Mo_suitsOther_130 rfl (lv_at hl 1 rfl) ?_
                      refine lv_iconst (v := 2) hx hb d_Mo_suitsOther_131 (by decide) ?_
                      refine lv_icmp_eq (tgt := 139) hx hb d_Mo_suitsOther_132 (by decide) (fun c132_7 => ?_) (fun c132_7 => ?_)
                      · have fc132_7 : rv34.toInt = 2 := zt_eq (show rv34.toInt = _ from rfl) tI_2 c132_7
                        refine lv_iconst (v := 1) hx hb d_Mo_suitsOther_139 (by decide) ?_
                        refine lv_goto (tgt := 144) hx hb d_Mo_suitsOther_140 (by decide) ?_
                        exact j_zret F hr (by decide +kernel) hlocks hK hS () (show ((1 : Int32).toInt = 1 ∧ othP p0.toInt S) ∨ (1 : Int32).toInt = 0 by have := tI_1; first | (right; omega) | (left; refine ⟨by omega, ?_⟩; unfold othP; refine ⟨fun q => ?_, fun q => ?_, fun q => ?_, fun q => ?_, fun q => ?_⟩ <;> omega)) hP hD d_Mo_suitsOther_144
                      · have fc132_7 : ¬ rv34.toInt = 2 := zt_ne (show rv34.toInt = _ from rfl) tI_2 c132_7
                        refine lv_iload_n hx hb d_Mo_suitsOther_135 rfl (lv_at hl 1 rfl) ?_
                        refine lv_if_ne (tgt := 143) hx hb d_Mo_suitsOther_136 (by decide) (fun c136_7 => ?_) (fun c136_7 => ?_)
                        · have fc136_7 : ¬ rv34.toInt = 0 := zt_ne (show rv34.toInt = _ from rfl) tI_0 c136_7
                          refine lv_iconst (v := 0) hx hb d_Mo_suitsOther_143 (by decide) ?_
                          exact j_zret F hr (by decide +kernel) hlocks hK hS () (show ((0 : Int32).toInt = 1 ∧ othP p0.toInt S) ∨ (0 : Int32).toInt = 0 by have := tI_0; first | (right; omega) | (left; refine ⟨by omega, ?_⟩; unfold othP; refine ⟨fun q => ?_, fun q => ?_, fun q => ?_, fun q => ?_, fun q => ?_⟩ <;> omega)) hP hD d_Mo_suitsOther_144
                        · have fc136_7 : rv34.toInt = 0 := zt_eq (show rv34.toInt = _ from rfl) tI_0 c136_7
                          refine lv_iconst (v := 1) hx hb d_Mo_suitsOther_139 (by decide) ?_
                          refine lv_goto (tgt := 144) hx hb d_Mo_suitsOther_140 (by decide) ?_
                          exact j_zret F hr (by decide +kernel) hlocks hK hS () (show ((1 : Int32).toInt = 1 ∧ othP p0.toInt S) ∨ (1 : Int32).toInt = 0 by have := tI_1; first | (right; omega) | (left; refine ⟨by omega, ?_⟩; unfold othP; refine ⟨fun q => ?_, fun q => ?_, fun q => ?_, fun q => ?_, fun q => ?_⟩ <;> omega)) hP hD d_Mo_suitsOther_144
                  · have fc95_7 : p0.toInt = 30 := zt_eq (show p0.toInt = _ from rfl) tI_30 c95_7
                    refine lv_iload_n hx hb d_Mo_suitsOther_98 rfl (lv_at hl 1 rfl) ?_
                    refine lv_iconst (v := 2) hx hb d_Mo_suitsOther_99 (by decide) ?_
                    refine lv_icmp_eq (tgt := 107) hx hb d_Mo_suitsOther_100 (by decide) (fun c100_14 => ?_) (fun c100_14 => ?_)
                    · have fc100_14 : rv34.toInt = 2 := zt_eq (show rv34.toInt = _ from rfl) tI_2 c100_14
                      refine lv_aload_n hx hb d_Mo_suitsOther_107 rfl (lv_at hl 3 rfl) ?_
                      refine lv_iload_n hx hb d_Mo_suitsOther_108 rfl (lv_at hl 2 rfl) ?_
                      refine lv_iconst (v := 1) hx hb d_Mo_suitsOther_109 (by decide) ?_
                      refine lv_isub hx hb d_Mo_suitsOther_110 ?_
                      refine lv_topi (fun x17 ex17 => ?_)
                      have fx17 : x17.toInt = ((f_size S).toInt - 2) := by rw [ex17]; exact (zt_sub fx14 tI_1 (by omega) (by omega)).trans (by omega)
                      have kv19 : vOk ((a_kinds S) (((f_size S).toInt - 2).toNat)) ((a_codes S) (((f_size S).toInt - 2).toNat)) ((a_reals S) (((f_size S).toInt - 2).toNat)) := i_vals (((f_size S).toInt - 2).toNat) (by omega)
                      have rkv19 := vk_rng kv19
                      refine jm_ci (w := (fun _ => S)) hK hP hD hS hA (va_runV (As := [.int x17]) (rest := []) F (m_kindOf l D T h0 ar S x17 H.size (show 0 ≤ x17.toInt ∧ x17.toInt < 1300 by first | omega | (simp only [fx17]; omega)) (show 0 ≤ ((a_kinds S) x17.toInt.toNat).toInt by first | omega | (simp only [fx17]; omega))) (j_cV (k := 1) (C := "PageScribeModel") hts k_7_174 k_1_12 k_7_171 k_7_173 k_0_102 (by decide +kernel) ⟨Nat.le_of_ble_eq_true rfl, Nat.le_of_ble_eq_true rfl⟩) (jm_pre hK hP hD) rfl rfl hl.1 rfl (lv_room (Nat.le_of_ble_eq_true rfl)) d_Mo_suitsOther_111 ⟨Nat.le_of_ble_eq_true rfl, Nat.le_of_ble_eq_true rfl⟩) (fun rv38 u38 H locs hw38 hP hD hS => ?_)
                      have hP : va_P D classes (mW T h0 ar S) H := hP
                      have hD : va_D A (mW T h0 ar S) := hD
                      have qhw38 : rv38.toInt = ((a_kinds S) ((f_size S).toInt - 2).toNat).toInt % 8 := by simpa only [fx17] using hw38
                      refine lv_iload_n hx hb d_Mo_suitsOther_114 rfl (lv_at hl 1 rfl) ?_
                      refine lv_icmp_ne (tgt := 122) hx hb d_Mo_suitsOther_115 (by decide) (fun c115_27 => ?_) (fun c115_27 => ?_)
                      · have fc115_27 : ¬ rv38.toInt = rv34.toInt := zt_ne (show rv38.toInt = _ from rfl) (show rv34.toInt = _ from rfl) c115_27
                        refine lv_iconst (v := 0) hx hb d_Mo_suitsOther_122 (by decide) ?_
                        exact j_zret F hr (by decide +kernel) hlocks hK hS () (show ((0 : Int32).toInt = 1 ∧ othP p0.toInt S) ∨ (0 : Int32).toInt = 0 by have := tI_0; first | (right; omega) | (left; refine ⟨by omega, ?_⟩; unfold othP; refine ⟨fun q => ?_, fun q => ?_, fun q => ?_, fun q => ?_, fun q => ?_⟩ <;> omega)) hP hD d_Mo_suitsOther_123
                      · have fc115_27 : rv38.toInt = rv34.toInt := zt_eq (show rv38.toInt = _ from rfl) (show rv34.toInt = _ from rfl) c115_27
                        refine lv_iconst (v := 1) hx hb d_Mo_suitsOther_118 (by decide) ?_
                        refine lv_goto (tgt := 123) hx hb d_Mo_suitsOther_119 (by decide) ?_
                        exact j_zret F hr (by decide +kernel) hlocks hK hS () (show ((1 : Int32).toInt = 1 ∧ othP p0.toInt S) ∨ (1 : Int32).toInt = 0 by have := tI_1; first | (right; omega) | (left; refine ⟨by omega, ?_⟩; unfold othP; refine ⟨fun q => ?_, fun q => ?_, fun q => ?_, fun q => ?_, fun q => ?_⟩ <;> omega)) hP hD d_Mo_suitsOther_123
                    · have fc100_14 : ¬ rv34.toInt = 2 := zt_ne (show rv34.toInt = _ from rfl) tI_2 c100_14
                      refine lv_iload_n hx hb d_Mo_suitsOther_103 rfl (lv_at hl 1 rfl) ?_
                      refine lv_if_ne (tgt := 122) hx hb d_Mo_suitsOther_104 (by decide) (fun c104_14 => ?_) (fun c104_14 => ?_)
                      · have fc104_14 : ¬ rv34.toInt = 0 := zt_ne (show rv34.toInt = _ from rfl) tI_0 c104_14
                        refine lv_iconst (v := 0) hx hb d_Mo_suitsOther_122 (by decide) ?_
                        exact j_zret F hr (by decide +kernel) hlocks hK hS () (show ((0 : Int32).toInt = 1 ∧ othP p0.toInt S) ∨ (0 : Int32).toInt = 0 by have := tI_0; first | (right; omega) | (left; refine ⟨by omega, ?_⟩; unfold othP; refine ⟨fun q => ?_, fun q => ?_, fun q => ?_, fun q => ?_, fun q => ?_⟩ <;> omega)) hP hD d_Mo_suitsOther_123
                      · have fc104_14 : rv34.toInt = 0 := zt_eq (show rv34.toInt = _ from rfl) tI_0 c104_14
                        refine lv_aload_n hx hb d_Mo_suitsOther_107 rfl (lv_at hl 3 rfl) ?_
                        refine lv_iload_n hx hb d_Mo_suitsOther_108 rfl (lv_at hl 2 rfl) ?_
                        refine lv_iconst (v := 1) hx hb d_Mo_suitsOther_109 (by decide) ?_
                        refine lv_isub hx hb d_Mo_suitsOther_110 ?_
                        refine lv_topi (fun x18 ex18 => ?_)
                        have fx18 : x18.toInt = ((f_size S).toInt - 2) := by rw [ex18]; exact (zt_sub fx14 tI_1 (by omega) (by omega)).trans (by omega)
                        have kv20 : vOk ((a_kinds S) (((f_size S).toInt - 2).toNat)) ((a_codes S) (((f_size S).toInt - 2).toNat)) ((a_reals S) (((f_size S).toInt - 2).toNat)) := i_vals (((f_size S).toInt - 2).toNat) (by omega)
                        have rkv20 := vk_rng kv20
                        refine jm_ci (w := (fun _ => S)) hK hP hD hS hA (va_runV (As := [.int x18]) (rest := []) F (m_kindOf l D T h0 ar S x18 H.size (show 0 ≤ x18.toInt ∧ x18.toInt < 1300 by first | omega | (simp only [fx18]; omega)) (show 0 ≤ ((a_kinds S) x18.toInt.toNat).toInt by first | omega | (simp only [fx18]; omega))) (j_cV (k := 1) (C := "PageScribeModel") hts k_7_174 k_1_12 k_7_171 k_7_173 k_0_102 (by decide +kernel) ⟨Nat.le_of_ble_eq_true rfl, Nat.le_of_ble_eq_true rfl⟩) (jm_pre hK hP hD) rfl rfl hl.1 rfl (lv_room (Nat.le_of_ble_eq_true rfl)) d_Mo_suitsOther_111 ⟨Nat.le_of_ble_eq_true rfl, Nat.le_of_ble_eq_true rfl⟩) (fun rv39 u39 H locs hw39 hP hD hS => ?_)
                        have hP : va_P D classes (mW T h0 ar S) H := hP
                        have hD : va_D A (mW T h0 ar S) := hD
                        have qhw39 : rv39.toInt = ((a_kinds S) ((f_size S).toInt - 2).toNat).toInt % 8 := by simpa only [fx18] using hw39
                        refine lv_iload_n hx hb d_Mo_suitsOther_114 rfl (lv_at hl 1 rfl) ?_
                        refine lv_icmp_ne (tgt := 122) hx hb d_Mo_suitsOther_115 (by decide) (fun c115_28 => ?_) (fun c115_28 => ?_)
                        · have fc115_28 : ¬ rv39.toInt = rv34.toInt := zt_ne (show rv39.toInt = _ from rfl) (show rv34.toInt = _ from rfl) c115_28
                          refine lv_iconst (v := 0) hx hb d_Mo_suitsOther_122 (by decide) ?_
                          exact j_zret F hr (by decide +kernel) hlocks hK hS () (show ((0 : Int32).toInt = 1 ∧ othP p0.toInt S) ∨ (0 : Int32).toInt = 0 by have := tI_0; first | (right; omega) | (left; refine ⟨by omega, ?_⟩; unfold othP; refine ⟨fun q => ?_, fun q => ?_, fun q => ?_, fun q => ?_, fun q => ?_⟩ <;> omega)) hP hD d_Mo_suitsOther_123
                        · have fc115_28 : rv39.toInt = rv34.toInt := zt_eq (show rv39.toInt = _ from rfl) (show rv34.toInt = _ from rfl) c115_28
                          refine lv_iconst (v := 1) hx hb d_Mo_suitsOther_118 (by decide) ?_
                          refine lv_goto (tgt := 123) hx hb d_Mo_suitsOther_119 (by decide) ?_
                          exact j_zret F hr (by decide +kernel) hlocks hK hS () (show ((1 : Int32).toInt = 1 ∧ othP p0.toInt S) ∨ (1 : Int32).toInt = 0 by have := tI_1; first | (right; omega) | (left; refine ⟨by omega, ?_⟩; unfold othP; refine ⟨fun q => ?_, fun q => ?_, fun q => ?_, fun q => ?_, fun q => ?_⟩ <;> omega)) hP hD d_Mo_suitsOther_123
              · have fc66_4 : p0.toInt = 40 := zt_eq (show p0.toInt = _ from rfl) tI_40 c66_4
                refine lv_aload_n hx hb d_Mo_suitsOther_69 rfl (lv_at hl 2 rfl) ?_
                refine lv_iload_n hx hb d_Mo_suitsOther_70 rfl (lv_at hl 1 rfl) ?_
                refine lv_iconst (v := 1) hx hb d_Mo_suitsOther_71 (by decide) ?_
                refine lv_isub hx hb d_Mo_suitsOther_72 ?_
                refine lv_topi (fun x19 ex19 => ?_)
                have fx19 : x19.toInt = ((f_size S).toInt - 2) := by rw [ex19]; exact (zt_sub fx14 tI_1 (by omega) (by omega)).trans (by omega)
                have kv21 : vOk ((a_kinds S) (((f_size S).toInt - 2).toNat)) ((a_codes S) (((f_size S).toInt - 2).toNat)) ((a_reals S) (((f_size S).toInt - 2).toNat)) := i_vals (((f_size S).toInt - 2).toNat) (by omega)
                have rkv21 := vk_rng kv21
                refine jm_ci (w := (fun _ => S)) hK hP hD hS hA (va_runV (As := [.int x19]) (rest := []) F (m_kindOf l D T h0 ar S x19 H.size (show 0 ≤ x19.toInt ∧ x19.toInt < 1300 by first | omega | (simp only [fx19]; omega)) (show 0 ≤ ((a_kinds S) x19.toInt.toNat).toInt by first | omega | (simp only [fx19]; omega))) (j_cV (k := 1) (C := "PageScribeModel") hts k_7_174 k_1_12 k_7_171 k_7_173 k_0_102 (by decide +kernel) ⟨Nat.le_of_ble_eq_true rfl, Nat.le_of_ble_eq_true rfl⟩) (jm_pre hK hP hD) rfl rfl hl.1 rfl (lv_room (Nat.le_of_ble_eq_true rfl)) d_Mo_suitsOther_73 ⟨Nat.le_of_ble_eq_true rfl, Nat.le_of_ble_eq_true rfl⟩) (fun rv40 u40 H locs hw40 hP hD hS => ?_)
                have hP : va_P D classes (mW T h0 ar S) H := hP
                have hD : va_D A (mW T h0 ar S) := hD
                have qhw40 : rv40.toInt = ((a_kinds S) ((f_size S).toInt - 2).toNat).toInt % 8 := by simpa only [fx19] using hw40
                refine lv_goto (tgt := 84) hx hb d_Mo_suitsOther_76 (by decide) ?_
                refine lv_istore (lv' := [(4, .int rv40), (3, .int rv34), (2, .int x14), (0, .ref h0), (1, .int p0)]) hx hb d_Mo_suitsOther_84 hl (by decide) rfl (fun ls hl => ?_)
                refine lv_iload_n hx hb d_Mo_suitsOther_86 rfl (lv_at hl 4 rfl) ?_
                refine lv_bipush (v := 29) hx hb d_Mo_suitsOther_87 (by decide) ?_
                refine lv_icmp_eq (tgt := 98) hx hb d_Mo_suitsOther_89 (by decide) (fun c89_8 => ?_) (fun c89_8 => ?_)
                · have fc89_8 : p0.toInt = 29 := zt_eq (show p0.toInt = _ from rfl) tI_29 c89_8
                  refine lv_iload_n hx hb d_Mo_suitsOther_98 rfl (lv_at hl 1 rfl) ?_
                  refine lv_iconst (v := 2) hx hb d_Mo_suitsOther_99 (by decide) ?_
                  refine lv_icmp_eq (tgt := 107) hx hb d_Mo_suitsOther_100 (by decide) (fun c100_15 => ?_) (fun c100_15 => ?_)
                  · have fc100_15 : rv34.toInt = 2 := zt_eq (show rv34.toInt = _ from rfl) tI_2 c100_15
                    refine lv_aload_n hx hb d_Mo_suitsOther_107 rfl (lv_at hl 3 rfl) ?_
                    refine lv_iload_n hx hb d_Mo_suitsOther_108 rfl (lv_at hl 2 rfl) ?_
                    refine lv_iconst (v := 1) hx hb d_Mo_suitsOther_109 (by decide) ?_
                    refine lv_isub hx hb d_Mo_suitsOther_110 ?_
                    refine j_eqi (y := x19) ex19.symm ?_
                    refine jm_ci (w := (fun _ => S)) hK hP hD hS hA (va_runV (As := [.int x19]) (rest := []) F (m_kindOf l D T h0 ar S x19 H.size (show 0 ≤ x19.toInt ∧ x19.toInt < 1300 by first | omega | (simp only [fx19]; omega)) (show 0 ≤ ((a_kinds S) x19.toInt.toNat).toInt by first | omega | (simp only [fx19]; omega))) (j_cV (k := 1) (C := "PageScribeModel") hts k_7_174 k_1_12 k_7_171 k_7_173 k_0_102 (by decide +kernel) ⟨Nat.le_of_ble_eq_true rfl, Nat.le_of_ble_eq_true rfl⟩) (jm_pre hK hP hD) rfl rfl hl.1 rfl (lv_room (Nat.le_of_ble_eq_true rfl)) d_Mo_suitsOther_111 ⟨Nat.le_of_ble_eq_true rfl, Nat.le_of_ble_eq_true rfl⟩) (fun rv41 u41 H locs hw41 hP hD hS => ?_)
                    have hP : va_P D classes (mW T h0 ar S) H := hP
                    have hD : va_D A (mW T h0 ar S) := hD
                    have qhw41 : rv41.toInt = ((a_kinds S) ((f_size S).toInt - 2).toNat).toInt % 8 := by simpa only [fx19] using hw41
                    refine lv_iload_n hx hb d_Mo_suitsOther_114 rfl (lv_at hl 1 rfl) ?_
                    refine lv_icmp_ne (tgt := 122) hx hb d_Mo_suitsOther_115 (by decide) (fun c115_29 => ?_) (fun c115_29 => ?_)
                    · have fc115_29 : ¬ rv41.toInt = rv34.toInt := zt_ne (show rv41.toInt = _ from rfl) (show rv34.toInt = _ from rfl) c115_29
                      refine lv_iconst (v := 0) hx hb d_Mo_suitsOther_122 (by decide) ?_
                      exact j_zret F hr (by decide +kernel) hlocks hK hS () (show ((0 : Int32).toInt = 1 ∧ othP p0.toInt S) ∨ (0 : Int32).toInt = 0 by have := tI_0; first | (right; omega) | (left; refine ⟨by omega, ?_⟩; unfold othP; refine ⟨fun q => ?_, fun q => ?_, fun q => ?_, fun q => ?_, fun q => ?_⟩ <;> omega)) hP hD d_Mo_suitsOther_123
                    · have fc115_29 : rv41.toInt = rv34.toInt := zt_eq (show rv41.toInt = _ from rfl) (show rv34.toInt = _ from rfl) c115_29
                      refine lv_iconst (v := 1) hx hb d_Mo_suitsOther_118 (by decide) ?_
                      refine lv_goto (tgt := 123) hx hb d_Mo_suitsOther_119 (by decide) ?_
                      exact j_zret F hr (by decide +kernel) hlocks hK hS () (show ((1 : Int32).toInt = 1 ∧ othP p0.toInt S) ∨ (1 : Int32).toInt = 0 by have := tI_1; first | (right; omega) | (left; refine ⟨by omega, ?_⟩; unfold othP; refine ⟨fun q => ?_, fun q => ?_, fun q => ?_, fun q => ?_, fun q => ?_⟩ <;> omega)) hP hD d_Mo_suitsOther_123
                  · have fc100_15 : ¬ rv34.toInt = 2 := zt_ne (show rv34.toInt = _ from rfl) tI_2 c100_15
                    refine lv_iload_n hx hb d_Mo_suitsOther_103 rfl (lv_at hl 1 rfl) ?_
                    refine lv_if_ne (tgt := 122) hx hb d_Mo_suitsOther_104 (by decide) (fun c104_15 => ?_) (fun c104_15 => ?_)
                    · have fc104_15 : ¬ rv34.toInt = 0 := zt_ne (show rv34.toInt = _ from rfl) tI_0 c104_15
                      refine lv_iconst (v := 0) hx hb d_Mo_suitsOther_122 (by decide) ?_
                      exact j_zret F hr (by decide +kernel) hlocks hK hS () (show ((0 : Int32).toInt = 1 ∧ othP p0.toInt S) ∨ (0 : Int32).toInt = 0 by have := tI_0; first | (right; omega) | (left; refine ⟨by omega, ?_⟩; unfold othP; refine ⟨fun q => ?_, fun q => ?_, fun q => ?_, fun q => ?_, fun q => ?_⟩ <;> omega)) hP hD d_Mo_suitsOther_123
                    · have fc104_15 : rv34.toInt = 0 := zt_eq (show rv34.toInt = _ from rfl) tI_0 c104_15
                      refine lv_aload_n hx hb d_Mo_suitsOther_107 rfl (lv_at hl 3 rfl) ?_
                      refine lv_iload_n hx hb d_Mo_suitsOther_108 rfl (lv_at hl 2 rfl) ?_
                      refine lv_iconst (v := 1) hx hb d_Mo_suitsOther_109 (by decide) ?_
                      refine lv_isub hx hb d_Mo_suitsOther_110 ?_
                      refine j_eqi (y := x19) ex19.symm ?_
                      refine jm_ci (w := (fun _ => S)) hK hP hD hS hA (va_runV (As := [.int x19]) (rest := []) F (m_kindOf l D T h0 ar S x19 H.size (show 0 ≤ x19.toInt ∧ x19.toInt < 1300 by first | omega | (simp only [fx19]; omega)) (show 0 ≤ ((a_kinds S) x19.toInt.toNat).toInt by first | omega | (simp only [fx19]; omega))) (j_cV (k := 1) (C := "PageScribeModel") hts k_7_174 k_1_12 k_7_171 k_7_173 k_0_102 (by decide +kernel) ⟨Nat.le_of_ble_eq_true rfl, Nat.le_of_ble_eq_true rfl⟩) (jm_pre hK hP hD) rfl rfl hl.1 rfl (lv_room (Nat.le_of_ble_eq_true rfl)) d_Mo_suitsOther_111 ⟨Nat.le_of_ble_eq_true rfl, Nat.le_of_ble_eq_true rfl⟩) (fun rv42 u42 H locs hw42 hP hD hS => ?_)
                      have hP : va_P D classes (mW T h0 ar S) H := hP
                      have hD : va_D A (mW T h0 ar S) := hD
                      have qhw42 : rv42.toInt = ((a_kinds S) ((f_size S).toInt - 2).toNat).toInt % 8 := by simpa only [fx19] using hw42
                      refine lv_iload_n hx hb d_Mo_suitsOther_114 rfl (lv_at hl 1 rfl) ?_
                      refine lv_icmp_ne (tgt := 122) hx hb d_Mo_suitsOther_115 (by decide) (fun c115_30 => ?_) (fun c115_30 => ?_)
                      · have fc115_30 : ¬ rv42.toInt = rv34.toInt := zt_ne (show rv42.toInt = _ from rfl) (show rv34.toInt = _ from rfl) c115_30
                        refine lv_iconst (v := 0) hx hb d_Mo_suitsOther_122 (by decide) ?_
                        exact j_zret F hr (by decide +kernel) hlocks hK hS () (show ((0 : Int32).toInt = 1 ∧ othP p0.toInt S) ∨ (0 : Int32).toInt = 0 by have := tI_0; first | (right; omega) | (left; refine ⟨by omega, ?_⟩; unfold othP; refine ⟨fun q => ?_, fun q => ?_, fun q => ?_, fun q => ?_, fun q => ?_⟩ <;> omega)) hP hD d_Mo_suitsOther_123
                      · have fc115_30 : rv42.toInt = rv34.toInt := zt_eq (show rv42.toInt = _ from rfl) (show rv34.toInt = _ from rfl) c115_30
                        refine lv_iconst (v := 1) hx hb d_Mo_suitsOther_118 (by decide) ?_
                        refine lv_goto (tgt := 123) hx hb d_Mo_suitsOther_119 (by decide) ?_
                        exact j_zret F hr (by decide +kernel) hlocks hK hS () (show ((1 : Int32).toInt = 1 ∧ othP p0.toInt S) ∨ (1 : Int32).toInt = 0 by have := tI_1; first | (right; omega) | (left; refine ⟨by omega, ?_⟩; unfold othP; refine ⟨fun q => ?_, fun q => ?_, fun q => ?_, fun q => ?_, fun q => ?_⟩ <;> omega)) hP hD d_Mo_suitsOther_123
                · have fc89_8 : ¬ p0.toInt = 29 := zt_ne (show p0.toInt = _ from rfl) tI_29 c89_8
                  refine lv_iload_n hx hb d_Mo_suitsOther_92 rfl (lv_at hl 4 rfl) ?_
                  refine lv_bipush (v := 30) hx hb d_Mo_suitsOther_93 (by decide) ?_
                  refine lv_icmp_ne (tgt := 124) hx hb d_Mo_suitsOther_95 (by decide) (fun c95_8 => ?_) (fun c95_8 => ?_)
                  · have fc95_8 : ¬ p0.toInt = 30 := zt_ne (show p0.toInt = _ from rfl) tI_30 c95_8
                    refine lv_iload_n hx hb d_Mo_suitsOther_124 rfl (lv_at hl 4 rfl) ?_
                    refine lv_bipush (v := 31) hx hb d_Mo_suitsOther_125 (by decide) ?_
                    refine lv_icmp_ne (tgt := 145) hx hb d_Mo_suitsOther_127 (by decide) (fun c127_8 => ?_) (fun c127_8 => ?_)
                    · have fc127_8 : ¬ p0.toInt = 31 := zt_ne (show p0.toInt = _ from rfl) tI_31 c127_8
                      refine lv_iload_n hx hb d_Mo_suitsOther_145 rfl (lv_at hl 4 rfl) ?_
                      refine lv_bipush (v := 38) hx hb d_Mo_suitsOther_146 (by decide) ?_
                      refine lv_icmp_ne (tgt := 168) hx hb d_Mo_suitsOther_148 (by decide) (fun c148_8 => ?_) (fun c148_8 => ?_)
                      · have fc148_8 : ¬ p0.toInt = 38 := zt_ne (show p0.toInt = _ from rfl) tI_38 c148_8
                        refine lv_iload_n hx hb d_Mo_suitsOther_168 rfl (lv_at hl 1 rfl) ?_
                        refine lv_iconst (v := 5) hx hb d_Mo_suitsOther_169 (by decide) ?_
                        refine lv_icmp_ne (tgt := 178) hx hb d_Mo_suitsOther_170 (by decide) (fun c170_8 => ?_) (fun c170_8 => ?_)
                        · have fc170_8 : ¬ rv34.toInt = 5 := zt_ne (show rv34.toInt = _ from rfl) tI_5 c170_8
                          refine lv_iload_n hx hb d_Mo_suitsOther_178 rfl (lv_at hl 1 rfl) ?_
                          refine lv_bipush (v := 6) hx hb d_Mo_suitsOther_179 (by decide) ?_
                          refine lv_icmp_ne (tgt := 194) hx hb d_Mo_suitsOther_181 (by decide) (fun c181_15 => ?_) (fun c181_15 => ?_)
                          · have fc181_15 : ¬ rv34.toInt = 6 := zt_ne (show rv34.toInt = _ from rfl) tI_6 c181_15
                            refine lv_iconst (v := 0) hx hb d_Mo_suitsOther_194 (by decide) ?_
                            exact j_zret F hr (by decide +kernel) hlocks hK hS () (show ((0 : Int32).toInt = 1 ∧ othP p0.toInt S) ∨ (0 : Int32).toInt = 0 by have := tI_0; first | (right; omega) | (left; refine ⟨by omega, ?_⟩; unfold othP; refine ⟨fun q => ?_, fun q => ?_, fun q => ?_, fun q => ?_, fun q => ?_⟩ <;> omega)) hP hD d_Mo_suitsOther_195
                          · have fc181_15 : rv34.toInt = 6 := zt_eq (show rv34.toInt = _ from rfl) tI_6 c181_15
                            refine lv_iload hx hb d_Mo_suitsOther_184 (lv_at hl 0 rfl) ?_
                            refine lv_iconst (v := 3) hx hb d_Mo_suitsOther_186 (by decide) ?_
                            refine lv_icmp_ne (tgt := 194) hx hb d_Mo_suitsOther_187 (by decide) (fun c187_15 => ?_) (fun c187_15 => ?_)
                            · have fc187_15 : ¬ rv40.toInt = 3 := zt_ne (show rv40.toInt = _ from rfl) tI_3 c187_15
                              refine lv_iconst (v := 0) hx hb d_Mo_suitsOther_194 (by decide) ?_
                              exact j_zret F hr (by decide +kernel) hlocks hK hS () (show ((0 : Int32).toInt = 1 ∧ othP p0.toInt S) ∨ (0 : Int32).toInt = 0 by have := tI_0; first | (right; omega) | (left; refine ⟨by omega, ?_⟩; unfold othP; refine ⟨fun q => ?_, fun q => ?_, fun q => ?_, fun q => ?_, fun q => ?_⟩ <;> omega)) hP hD d_Mo_suitsOther_195
                            · have fc187_15 : rv40.toInt = 3 := zt_eq (show rv40.toInt = _ from rfl) tI_3 c187_15
                              refine lv_iconst (v := 1) hx hb d_Mo_suitsOther_190 (by decide) ?_
                              refine lv_goto (tgt := 195) hx hb d_Mo_suitsOther_191 (by decide) ?_
                              exact j_zret F hr (by decide +kernel) hlocks hK hS () (show ((1 : Int32).toInt = 1 ∧ othP p0.toInt S) ∨ (1 : Int32).toInt = 0 by have := tI_1; first | (right; omega) | (left; refine ⟨by omega, ?_⟩; unfold othP; refine ⟨fun q => ?_, fun q => ?_, fun q => ?_, fun q => ?_, fun q => ?_⟩ <;> omega)) hP hD d_Mo_suitsOther_195
                        · have fc170_8 : rv34.toInt = 5 := zt_eq (show rv34.toInt = _ from rfl) tI_5 c170_8
                          refine lv_iload hx hb d_Mo_suitsOther_173 (lv_at hl 0 rfl) ?_
                          refine lv_if_eq (tgt := 190) hx hb d_Mo_suitsOther_175 (by decide) (fun c175_8 => ?_) (fun c175_8 => ?_)
                          · have fc175_8 : rv40.toInt = 0 := zt_eq (show rv40.toInt = _ from rfl) tI_0 c175_8
                            refine lv_iconst (v := 1) hx hb d_Mo_suitsOther_190 (by decide) ?_
                            refine lv_goto (tgt := 195) hx hb d_Mo_suitsOther_191 (by decide) ?_
                            exact j_zret F hr (by decide +kernel) hlocks hK hS () (show ((1 : Int32).toInt = 1 ∧ othP p0.toInt S) ∨ (1 : Int32).toInt = 0 by have := tI_1; first | (right; omega) | (left; refine ⟨by omega, ?_⟩; unfold othP; refine ⟨fun q => ?_, fun q => ?_, fun q => ?_, fun q => ?_, fun q => ?_⟩ <;> omega)) hP hD d_Mo_suitsOther_195
                          · have fc175_8 : ¬ rv40.toInt = 0 := zt_ne (show rv40.toInt = _ from rfl) tI_0 c175_8
                            refine lv_iload_n hx hb d_Mo_suitsOther_178 rfl (lv_at hl 1 rfl) ?_
                            refine lv_bipush (v := 6) hx hb d_Mo_suitsOther_179 (by decide) ?_
                            refine lv_icmp_ne (tgt := 194) hx hb d_Mo_suitsOther_181 (by decide) (fun c181_16 => ?_) (fun c181_16 => ?_)
                            · have fc181_16 : ¬ rv34.toInt = 6 := zt_ne (show rv34.toInt = _ from rfl) tI_6 c181_16
                              refine lv_iconst (v := 0) hx hb d_Mo_suitsOther_194 (by decide) ?_
                              exact j_zret F hr (by decide +kernel) hlocks hK hS () (show ((0 : Int32).toInt = 1 ∧ othP p0.toInt S) ∨ (0 : Int32).toInt = 0 by have := tI_0; first | (right; omega) | (left; refine ⟨by omega, ?_⟩; unfold othP; refine ⟨fun q => ?_, fun q => ?_, fun q => ?_, fun q => ?_, fun q => ?_⟩ <;> omega)) hP hD d_Mo_suitsOther_195
                            · have fc181_16 : rv34.toInt = 6 := zt_eq (show rv34.toInt = _ from rfl) tI_6 c181_16
                              refine lv_iload hx hb d_Mo_suitsOther_184 (lv_at hl 0 rfl) ?_
                              refine lv_iconst (v := 3) hx hb d_Mo_suitsOther_186 (by decide) ?_
                              refine lv_icmp_ne (tgt := 194) hx hb d_Mo_suitsOther_187 (by decide) (fun c187_16 => ?_) (fun c187_16 => ?_)
                              · have fc187_16 : ¬ rv40.toInt = 3 := zt_ne (show rv40.toInt = _ from rfl) tI_3 c187_16
                                refine lv_iconst (v := 0) hx hb d_Mo_suitsOther_194 (by decide) ?_
                                exact j_zret F hr (by decide +kernel) hlocks hK hS () (show ((0 : Int32).toInt = 1 ∧ othP p0.toInt S) ∨ (0 : Int32).toInt = 0 by have := tI_0; first | (right; omega) | (left; refine ⟨by omega, ?_⟩; unfold othP; refine ⟨fun q => ?_, fun q => ?_, fun q => ?_, fun q => ?_, fun q => ?_⟩ <;> omega)) hP hD d_Mo_suitsOther_195
                              · have fc187_16 : rv40.toInt = 3 := zt_eq (show rv40.toInt = _ from rfl) tI_3 c187_16
                                refine lv_iconst (v := 1) hx hb d_Mo_suitsOther_190 (by decide) ?_
                                refine lv_goto (tgt := 195) hx hb d_Mo_suitsOther_191 (by decide) ?_
                                exact j_zret F hr (by decide +kernel) hlocks hK hS () (show ((1 : Int32).toInt = 1 ∧ othP p0.toInt S) ∨ (1 : Int32).toInt = 0 by have := tI_1; first | (right; omega) | (left; refine ⟨by omega, ?_⟩; unfold othP; refine ⟨fun q => ?_, fun q => ?_, fun q => ?_, fun q => ?_, fun q => ?_⟩ <;> omega)) hP hD d_Mo_suitsOther_195
                      · have fc148_8 : p0.toInt = 38 := zt_eq (show p0.toInt = _ from rfl) tI_38 c148_8
                        refine lv_iload_n hx hb d_Mo_suitsOther_151 rfl (lv_at hl 1 rfl) ?_
                        refine lv_iconst (v := 5) hx hb d_Mo_suitsOther_152 (by decide) ?_
                        refine lv_icmp_eq (tgt := 162) hx hb d_Mo_suitsOther_153 (by decide) (fun c153_8 => ?_) (fun c153_8 => ?_)
                        · have fc153_8 : rv34.toInt = 5 := zt_eq (show rv34.toInt = _ from rfl) tI_5 c153_8
                          refine lv_iconst (v := 1) hx hb d_Mo_suitsOther_162 (by decide) ?_
                          refine lv_goto (tgt := 167) hx hb d_Mo_suitsOther_163 (by decide) ?_
                          exact j_zret F hr (by decide +kernel) hlocks hK hS () (show ((1 : Int32).toInt = 1 ∧ othP p0.toInt S) ∨ (1 : Int32).toInt = 0 by have := tI_1; first | (right; omega) | (left; refine ⟨by omega, ?_⟩; unfold othP; refine ⟨fun q => ?_, fun q => ?_, fun q => ?_, fun q => ?_, fun q => ?_⟩ <;> omega)) hP hD d_Mo_suitsOther_167
                        · have fc153_8 : ¬ rv34.toInt = 5 := zt_ne (show rv34.toInt = _ from rfl) tI_5 c153_8
                          refine lv_iload_n hx hb d_Mo_suitsOther_156 rfl (lv_at hl 1 rfl) ?_
                          refine lv_bipush (v := 6) hx hb d_Mo_suitsOther_157 (by decide) ?_
                          refine lv_icmp_ne (tgt := 166) hx hb d_Mo_suitsOther_159 (by decide) (fun c159_8 => ?_) (fun c159_8 => ?_)
                          · have fc159_8 : ¬ rv34.toInt = 6 := zt_ne (show rv34.toInt = _ from rfl) tI_6 c159_8
                            refine lv_iconst (v := 0) hx hb d_Mo_suitsOther_166 (by decide) ?_
                            exact j_zret F hr (by decide +kernel) hlocks hK hS () (show ((0 : Int32).toInt = 1 ∧ othP p0.toInt S) ∨ (0 : Int32).toInt = 0 by have := tI_0; first | (right; omega) | (left; refine ⟨by omega, ?_⟩; unfold othP; refine ⟨fun q => ?_, fun q => ?_, fun q => ?_, fun q => ?_, fun q => ?_⟩ <;> omega)) hP hD d_Mo_suitsOther_167
                          · have fc159_8 : rv34.toInt = 6 := zt_eq (show rv34.toInt = _ from rfl) tI_6 c159_8
                            refine lv_iconst (v := 1) hx hb d_Mo_suitsOther_162 (by decide) ?_
                            refine lv_goto (tgt := 167) hx hb d_Mo_suitsOther_163 (by decide) ?_
                            exact j_zret F hr (by decide +kernel) hlocks hK hS () (show ((1 : Int32).toInt = 1 ∧ othP p0.toInt S) ∨ (1 : Int32).toInt = 0 by have := tI_1; first | (right; omega) | (left; refine ⟨by omega, ?_⟩; unfold othP; refine ⟨fun q => ?_, fun q => ?_, fun q => ?_, fun q => ?_, fun q => ?_⟩ <;> omega)) hP hD d_Mo_suitsOther_167
                    · have fc127_8 : p0.toInt = 31 := zt_eq (show p0.toInt = _ from rfl) tI_31 c127_8
                      refine lv_iload_n hx hb d_Mo_suitsOther_130 rfl (lv_at hl 1 rfl) ?_
                      refine lv_iconst (v := 2) hx hb d_Mo_suitsOther_131 (by decide) ?_
                      refine lv_icmp_eq (tgt := 139) hx hb d_Mo_suitsOther_132 (by decide) (fun c132_8 => ?_) (fun c132_8 => ?_)
                      · have fc132_8 : rv34.toInt = 2 := zt_eq (show rv34.toInt = _ from rfl) tI_2 c132_8
                        refine lv_iconst (v := 1) hx hb d_Mo_suitsOther_139 (by decide) ?_
                        refine lv_goto (tgt := 144) hx hb d_Mo_suitsOther_140 (by decide) ?_
                        exact j_zret F hr (by decide +kernel) hlocks hK hS () (show ((1 : Int32).toInt = 1 ∧ othP p0.toInt S) ∨ (1 : Int32).toInt = 0 by have := tI_1; first | (right; omega) | (left; refine ⟨by omega, ?_⟩; unfold othP; refine ⟨fun q => ?_, fun q => ?_, fun q => ?_, fun q => ?_, fun q => ?_⟩ <;> omega)) hP hD d_Mo_suitsOther_144
                      · have fc132_8 : ¬ rv34.toInt = 2 := zt_ne (show rv34.toInt = _ from rfl) tI_2 c132_8
                        refine lv_iload_n hx hb d_Mo_suitsOther_135 rfl (lv_at hl 1 rfl) ?_
                        refine lv_if_ne (tgt := 143) hx hb d_Mo_suitsOther_136 (by decide) (fun c136_8 => ?_) (fun c136_8 => ?_)
                        · have fc136_8 : ¬ rv34.toInt = 0 := zt_ne (show rv34.toInt = _ from rfl) tI_0 c136_8
                          refine lv_iconst (v := 0) hx hb d_Mo_suitsOther_143 (by decide) ?_
                          exact j_zret F hr (by decide +kernel) hlocks hK hS () (show ((0 : Int32).toInt = 1 ∧ othP p0.toInt S) ∨ (0 : Int32).toInt = 0 by have := tI_0; first | (right; omega) | (left; refine ⟨by omega, ?_⟩; unfold othP; refine ⟨fun q => ?_, fun q => ?_, fun q => ?_, fun q => ?_, fun q => ?_⟩ <;> omega)) hP hD d_Mo_suitsOther_144
                        · have fc136_8 : rv34.toInt = 0 := zt_eq (show rv34.toInt = _ from rfl) tI_0 c136_8
                          refine lv_iconst (v := 1) hx hb d_Mo_suitsOther_139 (by decide) ?_
                          refine lv_goto (tgt := 144) hx hb d_Mo_suitsOther_140 (by decide) ?_
                          exact j_zret F hr (by decide +kernel) hlocks hK hS () (show ((1 : Int32).toInt = 1 ∧ othP p0.toInt S) ∨ (1 : Int32).toInt = 0 by have := tI_1; first | (right; omega) | (left; refine ⟨by omega, ?_⟩; unfold othP; refine ⟨fun q => ?_, fun q => ?_, fun q => ?_, fun q => ?_, fun q => ?_⟩ <;> omega)) hP hD d_Mo_suitsOther_144
                  · have fc95_8 : p0.toInt = 30 := zt_eq (show p0.toInt = _ from rfl) tI_30 c95_8
                    refine lv_iload_n hx hb d_Mo_suitsOther_98 rfl (lv_at hl 1 rfl) ?_
                    refine lv_iconst (v := 2) hx hb d_Mo_suitsOther_99 (by decide) ?_
                    refine lv_icmp_eq (tgt := 107) hx hb d_Mo_suitsOther_100 (by decide) (fun c100_16 => ?_) (fun c100_16 => ?_)
                    · have fc100_16 : rv34.toInt = 2 := zt_eq (show rv34.toInt = _ from rfl) tI_2 c100_16
                      refine lv_aload_n hx hb d_Mo_suitsOther_107 rfl (lv_at hl 3 rfl) ?_
                      refine lv_iload_n hx hb d_Mo_suitsOther_108 rfl (lv_at hl 2 rfl) ?_
                      refine lv_iconst (v := 1) hx hb d_Mo_suitsOther_109 (by decide) ?_
                      refine lv_isub hx hb d_Mo_suitsOther_110 ?_
                      refine j_eqi (y := x19) ex19.symm ?_
                      refine jm_ci (w := (fun _ => S)) hK hP hD hS hA (va_runV (As := [.int x19]) (rest := []) F (m_kindOf l D T h0 ar S x19 H.size (show 0 ≤ x19.toInt ∧ x19.toInt < 1300 by first | omega | (simp only [fx19]; omega)) (show 0 ≤ ((a_kinds S) x19.toInt.toNat).toInt by first | omega | (simp only [fx19]; omega))) (j_cV (k := 1) (C := "PageScribeModel") hts k_7_174 k_1_12 k_7_171 k_7_173 k_0_102 (by decide +kernel) ⟨Nat.le_of_ble_eq_true rfl, Nat.le_of_ble_eq_true rfl⟩) (jm_pre hK hP hD) rfl rfl hl.1 rfl (lv_room (Nat.le_of_ble_eq_true rfl)) d_Mo_suitsOther_111 ⟨Nat.le_of_ble_eq_true rfl, Nat.le_of_ble_eq_true rfl⟩) (fun rv43 u43 H locs hw43 hP hD hS => ?_)
                      have hP : va_P D classes (mW T h0 ar S) H := hP
                      have hD : va_D A (mW T h0 ar S) := hD
                      have qhw43 : rv43.toInt = ((a_kinds S) ((f_size S).toInt - 2).toNat).toInt % 8 := by simpa only [fx19] using hw43
                      refine lv_iload_n hx hb d_Mo_suitsOther_114 rfl (lv_at hl 1 rfl) ?_
                      refine lv_icmp_ne (tgt := 122) hx hb d_Mo_suitsOther_115 (by decide) (fun c115_31 => ?_) (fun c115_31 => ?_)
                      · have fc115_31 : ¬ rv43.toInt = rv34.toInt := zt_ne (show rv43.toInt = _ from rfl) (show rv34.toInt = _ from rfl) c115_31
                        refine lv_iconst (v := 0) hx hb d_Mo_suitsOther_122 (by decide) ?_
                        exact j_zret F hr (by decide +kernel) hlocks hK hS () (show ((0 : Int32).toInt = 1 ∧ othP p0.toInt S) ∨ (0 : Int32).toInt = 0 by have := tI_0; first | (right; omega) | (left; refine ⟨by omega, ?_⟩; unfold othP; refine ⟨fun q => ?_, fun q => ?_, fun q => ?_, fun q => ?_, fun q => ?_⟩ <;> omega)) hP hD d_Mo_suitsOther_123
                      · have fc115_31 : rv43.toInt = rv34.toInt := zt_eq (show rv43.toInt = _ from rfl) (show rv34.toInt = _ from rfl) c115_31
                        refine lv_iconst (v := 1) hx hb d_Mo_suitsOther_118 (by decide) ?_
                        refine lv_goto (tgt := 123) hx hb d_Mo_suitsOther_119 (by decide) ?_
                        exact j_zret F hr (by decide +kernel) hlocks hK hS () (show ((1 : Int32).toInt = 1 ∧ othP p0.toInt S) ∨ (1 : Int32).toInt = 0 by have := tI_1; first | (right; omega) | (left; refine ⟨by omega, ?_⟩; unfold othP; refine ⟨fun q => ?_, fun q => ?_, fun q => ?_, fun q => ?_, fun q => ?_⟩ <;> omega)) hP hD d_Mo_suitsOther_123
                    · have fc100_16 : ¬ rv34.toInt = 2 := zt_ne (show rv34.toInt = _ from rfl) tI_2 c100_16
                      refine lv_iload_n hx hb d_Mo_suitsOther_103 rfl (lv_at hl 1 rfl) ?_
                      refine lv_if_ne (tgt := 122) hx hb d_Mo_suitsOther_104 (by decide) (fun c104_16 => ?_) (fun c104_16 => ?_)
                      · have fc104_16 : ¬ rv34.toInt = 0 := zt_ne (show rv34.toInt = _ from rfl) tI_0 c104_16
                        refine lv_iconst (v := 0) hx hb d_Mo_suitsOther_122 (by decide) ?_
                        exact j_zret F hr (by decide +kernel) hlocks hK hS () (show ((0 : Int32).toInt = 1 ∧ othP p0.toInt S) ∨ (0 : Int32).toInt = 0 by have := tI_0; first | (right; omega) | (left; refine ⟨by omega, ?_⟩; unfold othP; refine ⟨fun q => ?_, fun q => ?_, fun q => ?_, fun q => ?_, fun q => ?_⟩ <;> omega)) hP hD d_Mo_suitsOther_123
                      · have fc104_16 : rv34.toInt = 0 := zt_eq (show rv34.toInt = _ from rfl) tI_0 c104_16
                        refine lv_aload_n hx hb d_Mo_suitsOther_107 rfl (lv_at hl 3 rfl) ?_
                        refine lv_iload_n hx hb d_Mo_suitsOther_108 rfl (lv_at hl 2 rfl) ?_
                        refine lv_iconst (v := 1) hx hb d_Mo_suitsOther_109 (by decide) ?_
                        refine lv_isub hx hb d_Mo_suitsOther_110 ?_
                        refine j_eqi (y := x19) ex19.symm ?_
                        refine jm_ci (w := (fun _ => S)) hK hP hD hS hA (va_runV (As := [.int x19]) (rest := []) F (m_kindOf l D T h0 ar S x19 H.size (show 0 ≤ x19.toInt ∧ x19.toInt < 1300 by first | omega | (simp only [fx19]; omega)) (show 0 ≤ ((a_kinds S) x19.toInt.toNat).toInt by first | omega | (simp only [fx19]; omega))) (j_cV (k := 1) (C := "PageScribeModel") hts k_7_174 k_1_12 k_7_171 k_7_173 k_0_102 (by decide +kernel) ⟨Nat.le_of_ble_eq_true rfl, Nat.le_of_ble_eq_true rfl⟩) (jm_pre hK hP hD) rfl rfl hl.1 rfl (lv_room (Nat.le_of_ble_eq_true rfl)) d_Mo_suitsOther_111 ⟨Nat.le_of_ble_eq_true rfl, Nat.le_of_ble_eq_true rfl⟩) (fun rv44 u44 H locs hw44 hP hD hS => ?_)
                        have hP : va_P D classes (mW T h0 ar S) H := hP
                        have hD : va_D A (mW T h0 ar S) := hD
                        have qhw44 : rv44.toInt = ((a_kinds S) ((f_size S).toInt - 2).toNat).toInt % 8 := by simpa only [fx19] using hw44
                        refine lv_iload_n hx hb d_Mo_suitsOther_114 rfl (lv_at hl 1 rfl) ?_
                        refine lv_icmp_ne (tgt := 122) hx hb d_Mo_suitsOther_115 (by decide) (fun c115_32 => ?_) (fun c115_32 => ?_)
                        · have fc115_32 : ¬ rv44.toInt = rv34.toInt := zt_ne (show rv44.toInt = _ from rfl) (show rv34.toInt = _ from rfl) c115_32
                          refine lv_iconst (v := 0) hx hb d_Mo_suitsOther_122 (by decide) ?_
                          exact j_zret F hr (by decide +kernel) hlocks hK hS () (show ((0 : Int32).toInt = 1 ∧ othP p0.toInt S) ∨ (0 : Int32).toInt = 0 by have := tI_0; first | (right; omega) | (left; refine ⟨by omega, ?_⟩; unfold othP; refine ⟨fun q => ?_, fun q => ?_, fun q => ?_, fun q => ?_, fun q => ?_⟩ <;> omega)) hP hD d_Mo_suitsOther_123
                        · have fc115_32 : rv44.toInt = rv34.toInt := zt_eq (show rv44.toInt = _ from rfl) (show rv34.toInt = _ from rfl) c115_32
                          refine lv_iconst (v := 1) hx hb d_Mo_suitsOther_118 (by decide) ?_
                          refine lv_goto (tgt := 123) hx hb d_Mo_suitsOther_119 (by decide) ?_
                          exact j_zret F hr (by decide +kernel) hlocks hK hS () (show ((1 : Int32).toInt = 1 ∧ othP p0.toInt S) ∨ (1 : Int32).toInt = 0 by have := tI_1; first | (right; omega) | (left; refine ⟨by omega, ?_⟩; unfold othP; refine ⟨fun q => ?_, fun q => ?_, fun q => ?_, fun q => ?_, fun q => ?_⟩ <;> omega)) hP hD d_Mo_suitsOther_123
            · have fc49_2 : p0.toInt = 39 := zt_eq (show p0.toInt = _ from rfl) tI_39 c49_2
              refine lv_iload_n hx hb d_Mo_suitsOther_52 rfl (lv_at hl 0 rfl) ?_
              refine lv_iconst (v := 1) hx hb d_Mo_suitsOther_53 (by decide) ?_
              refine lv_isub hx hb d_Mo_suitsOther_54 ?_
              refine lv_topi (fun x20 ex20 => ?_)
              have fx20 : x20.toInt = ((f_size S).toInt - 2) := by rw [ex20]; exact (zt_sub fx14 tI_1 (by omega) (by omega)).trans (by omega)
              refine lv_goto (tgt := 59) hx hb d_Mo_suitsOther_55 (by decide) ?_
              have kv22 : vOk ((a_kinds S) (((f_size S).toInt - 2).toNat)) ((a_codes S) (((f_size S).toInt - 2).toNat)) ((a_reals S) (((f_size S).toInt - 2).toNat)) := i_vals (((f_size S).toInt - 2).toNat) (by omega)
              have rkv22 := vk_rng kv22
              refine jm_ci (w := (fun _ => S)) hK hP hD hS hA (va_runV (As := [.int x20]) (rest := []) F (m_kindOf l D T h0 ar S x20 s.heap.size (show 0 ≤ x20.toInt ∧ x20.toInt < 1300 by first | omega | (simp only [fx20]; omega)) (show 0 ≤ ((a_kinds S) x20.toInt.toNat).toInt by first | omega | (simp only [fx20]; omega))) (j_cV (k := 1) (C := "PageScribeModel") hts k_7_174 k_1_12 k_7_171 k_7_173 k_0_102 (by decide +kernel) ⟨Nat.le_of_ble_eq_true rfl, Nat.le_of_ble_eq_true rfl⟩) (jm_pre hK hP hD) rfl rfl hl.1 rfl (lv_room (Nat.le_of_ble_eq_true rfl)) d_Mo_suitsOther_59 ⟨Nat.le_of_ble_eq_true rfl, Nat.le_of_ble_eq_true rfl⟩) (fun rv45 u45 H locs hw45 hP hD hS => ?_)
              have hP : va_P D classes (mW T h0 ar S) H := hP
              have hD : va_D A (mW T h0 ar S) := hD
              have qhw45 : rv45.toInt = ((a_kinds S) ((f_size S).toInt - 2).toNat).toInt % 8 := by simpa only [fx20] using hw45
              refine lv_istore_n (lv' := [(3, .int rv45), (2, .int x14), (0, .ref h0), (1, .int p0)]) hx hb d_Mo_suitsOther_62 rfl hl (by decide) rfl (fun ls hl => ?_)
              refine lv_iload_n hx hb d_Mo_suitsOther_63 rfl (lv_at hl 3 rfl) ?_
              refine lv_bipush (v := 40) hx hb d_Mo_suitsOther_64 (by decide) ?_
              refine lv_icmp_ne (tgt := 79) hx hb d_Mo_suitsOther_66 (by decide) (fun c66_5 => ?_) (fun c66_5 => ?_)
              · have fc66_5 : ¬ p0.toInt = 40 := zt_ne (show p0.toInt = _ from rfl) tI_40 c66_5
                refine lv_aload_n hx hb d_Mo_suitsOther_79 rfl (lv_at hl 2 rfl) ?_
                refine lv_iload_n hx hb d_Mo_suitsOther_80 rfl (lv_at hl 1 rfl) ?_
                have kv23 : vOk ((a_kinds S) (((f_size S).toInt - 1).toNat)) ((a_codes S) (((f_size S).toInt - 1).toNat)) ((a_reals S) (((f_size S).toInt - 1).toNat)) := i_vals (((f_size S).toInt - 1).toNat) (by omega)
                have rkv23 := vk_rng kv23
                refine jm_ci (w := (fun _ => S)) hK hP hD hS hA (va_runV (As := [.int x14]) (rest := []) F (m_kindOf l D T h0 ar S x14 H.size (show 0 ≤ x14.toInt ∧ x14.toInt < 1300 by first | omega | (simp only [fx14]; omega)) (show 0 ≤ ((a_kinds S) x14.toInt.toNat).toInt by first | omega | (simp only [fx14]; omega))) (j_cV (k := 1) (C := "PageScribeModel") hts k_7_174 k_1_12 k_7_171 k_7_173 k_0_102 (by decide +kernel) ⟨Nat.le_of_ble_eq_true rfl, Nat.le_of_ble_eq_true rfl⟩) (jm_pre hK hP hD) rfl rfl hl.1 rfl (lv_room (Nat.le_of_ble_eq_true rfl)) d_Mo_suitsOther_81 ⟨Nat.le_of_ble_eq_true rfl, Nat.le_of_ble_eq_true rfl⟩) (fun rv46 u46 H locs hw46 hP hD hS => ?_)
                have hP : va_P D classes (mW T h0 ar S) H := hP
                have hD : va_D A (mW T h0 ar S) := hD
                have qhw46 : rv46.toInt = ((a_kinds S) ((f_size S).toInt - 1).toNat).toInt % 8 := by simpa only [fx14] using hw46
                refine lv_istore (lv' := [(4, .int rv46), (3, .int rv45), (2, .int x14), (0, .ref h0), (1, .int p0)]) hx hb d_Mo_suitsOther_84 hl (by decide) rfl (fun ls hl => ?_)
                refine lv_iload_n hx hb d_Mo_suitsOther_86 rfl (lv_at hl 4 rfl) ?_
                refine lv_bipush (v := 29) hx hb d_Mo_suitsOther_87 (by decide) ?_
                refine lv_icmp_eq (tgt := 98) hx hb d_Mo_suitsOther_89 (by decide) (fun c89_9 => ?_) (fun c89_9 => ?_)
                · have fc89_9 : p0.toInt = 29 := zt_eq (show p0.toInt = _ from rfl) tI_29 c89_9
                  refine lv_iload_n hx hb d_Mo_suitsOther_98 rfl (lv_at hl 1 rfl) ?_
                  refine lv_iconst (v := 2) hx hb d_Mo_suitsOther_99 (by decide) ?_
                  refine lv_icmp_eq (tgt := 107) hx hb d_Mo_suitsOther_100 (by decide) (fun c100_17 => ?_) (fun c100_17 => ?_)
                  · have fc100_17 : rv45.toInt = 2 := zt_eq (show rv45.toInt = _ from rfl) tI_2 c100_17
                    refine lv_aload_n hx hb d_Mo_suitsOther_107 rfl (lv_at hl 3 rfl) ?_
                    refine lv_iload_n hx hb d_Mo_suitsOther_108 rfl (lv_at hl 2 rfl) ?_
                    refine lv_iconst (v := 1) hx hb d_Mo_suitsOther_109 (by decide) ?_
                    refine lv_isub hx hb d_Mo_suitsOther_110 ?_
                    refine j_eqi (y := x20) ex20.symm ?_
                    refine jm_ci (w := (fun _ => S)) hK hP hD hS hA (va_runV (As := [.int x20]) (rest := []) F (m_kindOf l D T h0 ar S x20 H.size (show 0 ≤ x20.toInt ∧ x20.toInt < 1300 by first | omega | (simp only [fx20]; omega)) (show 0 ≤ ((a_kinds S) x20.toInt.toNat).toInt by first | omega | (simp only [fx20]; omega))) (j_cV (k := 1) (C := "PageScribeModel") hts k_7_174 k_1_12 k_7_171 k_7_173 k_0_102 (by decide +kernel) ⟨Nat.le_of_ble_eq_true rfl, Nat.le_of_ble_eq_true rfl⟩) (jm_pre hK hP hD) rfl rfl hl.1 rfl (lv_room (Nat.le_of_ble_eq_true rfl)) d_Mo_suitsOther_111 ⟨Nat.le_of_ble_eq_true rfl, Nat.le_of_ble_eq_true rfl⟩) (fun rv47 u47 H locs hw47 hP hD hS => ?_)
                    have hP : va_P D classes (mW T h0 ar S) H := hP
                    have hD : va_D A (mW T h0 ar S) := hD
                    have qhw47 : rv47.toInt = ((a_kinds S) ((f_size S).toInt - 2).toNat).toInt % 8 := by simpa only [fx20] using hw47
                    refine lv_iload_n hx hb d_Mo_suitsOther_114 rfl (lv_at hl 1 rfl) ?_
                    refine lv_icmp_ne (tgt := 122) hx hb d_Mo_suitsOther_115 (by decide) (fun c115_33 => ?_) (fun c115_33 => ?_)
                    · have fc115_33 : ¬ rv47.toInt = rv45.toInt := zt_ne (show rv47.toInt = _ from rfl) (show rv45.toInt = _ from rfl) c115_33
                      refine lv_iconst (v := 0) hx hb d_Mo_suitsOther_122 (by decide) ?_
                      exact j_zret F hr (by decide +kernel) hlocks hK hS () (show ((0 : Int32).toInt = 1 ∧ othP p0.toInt S) ∨ (0 : Int32).toInt = 0 by have := tI_0; first | (right; omega) | (left; refine ⟨by omega, ?_⟩; unfold othP; refine ⟨fun q => ?_, fun q => ?_, fun q => ?_, fun q => ?_, fun q => ?_⟩ <;> omega)) hP hD d_Mo_suitsOther_123
                    · have fc115_33 : rv47.toInt = rv45.toInt := zt_eq (show rv47.toInt = _ from rfl) (show rv45.toInt = _ from rfl) c115_33
                      refine lv_iconst (v := 1) hx hb d_Mo_suitsOther_118 (by decide) ?_
                      refine lv_goto (tgt := 123) hx hb d_Mo_suitsOther_119 (by decide) ?_
                      exact j_zret F hr (by decide +kernel) hlocks hK hS () (show ((1 : Int32).toInt = 1 ∧ othP p0.toInt S) ∨ (1 : Int32).toInt = 0 by have := tI_1; first | (right; omega) | (left; refine ⟨by omega, ?_⟩; unfold othP; refine ⟨fun q => ?_, fun q => ?_, fun q => ?_, fun q => ?_, fun q => ?_⟩ <;> omega)) hP hD d_Mo_suitsOther_123
                  · have fc100_17 : ¬ rv45.toInt = 2 := zt_ne (show rv45.toInt = _ from rfl) tI_2 c100_17
                    refine lv_iload_n hx hb d_Mo_suitsOther_103 rfl (lv_at hl 1 rfl) ?_
                    refine lv_if_ne (tgt := 122) hx hb d_Mo_suitsOther_104 (by decide) (fun c104_17 => ?_) (fun c104_17 => ?_)
                    · have fc104_17 : ¬ rv45.toInt = 0 := zt_ne (show rv45.toInt = _ from rfl) tI_0 c104_17
                      refine lv_iconst (v := 0) hx hb d_Mo_suitsOther_122 (by decide) ?_
                      exact j_zret F hr (by decide +kernel) hlocks hK hS () (show ((0 : Int32).toInt = 1 ∧ othP p0.toInt S) ∨ (0 : Int32).toInt = 0 by have := tI_0; first | (right; omega) | (left; refine ⟨by omega, ?_⟩; unfold othP; refine ⟨fun q => ?_, fun q => ?_, fun q => ?_, fun q => ?_, fun q => ?_⟩ <;> omega)) hP hD d_Mo_suitsOther_123
                    · have fc104_17 : rv45.toInt = 0 := zt_eq (show rv45.toInt = _ from rfl) tI_0 c104_17
                      refine lv_aload_n hx hb d_Mo_suitsOther_107 rfl (lv_at hl 3 rfl) ?_
                      refine lv_iload_n hx hb d_Mo_suitsOther_108 rfl (lv_at hl 2 rfl) ?_
                      refine lv_iconst (v := 1) hx hb d_Mo_suitsOther_109 (by decide) ?_
                      refine lv_isub hx hb d_Mo_suitsOther_110 ?_
                      refine j_eqi (y := x20) ex20.symm ?_
                      refine jm_ci (w := (fun _ => S)) hK hP hD hS hA (va_runV (As := [.int x20]) (rest := []) F (m_kindOf l D T h0 ar S x20 H.size (show 0 ≤ x20.toInt ∧ x20.toInt < 1300 by first | omega | (simp only [fx20]; omega)) (show 0 ≤ ((a_kinds S) x20.toInt.toNat).toInt by first | omega | (simp only [fx20]; omega))) (j_cV (k := 1) (C := "PageScribeModel") hts k_7_174 k_1_12 k_7_171 k_7_173 k_0_102 (by decide +kernel) ⟨Nat.le_of_ble_eq_true rfl, Nat.le_of_ble_eq_true rfl⟩) (jm_pre hK hP hD) rfl rfl hl.1 rfl (lv_room (Nat.le_of_ble_eq_true rfl)) d_Mo_suitsOther_111 ⟨Nat.le_of_ble_eq_true rfl, Nat.le_of_ble_eq_true rfl⟩) (fun rv48 u48 H locs hw48 hP hD hS => ?_)
                      have hP : va_P D classes (mW T h0 ar S) H := hP
                      have hD : va_D A (mW T h0 ar S) := hD
                      have qhw48 : rv48.toInt = ((a_kinds S) ((f_size S).toInt - 2).toNat).toInt % 8 := by simpa only [fx20] using hw48
                      refine lv_iload_n hx hb d_Mo_suitsOther_114 rfl (lv_at hl 1 rfl) ?_
                      refine lv_icmp_ne (tgt := 122) hx hb d_Mo_suitsOther_115 (by decide) (fun c115_34 => ?_) (fun c115_34 => ?_)
                      · have fc115_34 : ¬ rv48.toInt = rv45.toInt := zt_ne (show rv48.toInt = _ from rfl) (show rv45.toInt = _ from rfl) c115_34
                        refine lv_iconst (v := 0) hx hb d_Mo_suitsOther_122 (by decide) ?_
                        exact j_zret F hr (by decide +kernel) hlocks hK hS () (show ((0 : Int32).toInt = 1 ∧ othP p0.toInt S) ∨ (0 : Int32).toInt = 0 by have := tI_0; first | (right; omega) | (left; refine ⟨by omega, ?_⟩; unfold othP; refine ⟨fun q => ?_, fun q => ?_, fun q => ?_, fun q => ?_, fun q => ?_⟩ <;> omega)) hP hD d_Mo_suitsOther_123
                      · have fc115_34 : rv48.toInt = rv45.toInt := zt_eq (show rv48.toInt = _ from rfl) (show rv45.toInt = _ from rfl) c115_34
                        refine lv_iconst (v := 1) hx hb d_Mo_suitsOther_118 (by decide) ?_
                        refine lv_goto (tgt := 123) hx hb d_Mo_suitsOther_119 (by decide) ?_
                        exact j_zret F hr (by decide +kernel) hlocks hK hS () (show ((1 : Int32).toInt = 1 ∧ othP p0.toInt S) ∨ (1 : Int32).toInt = 0 by have := tI_1; first | (right; omega) | (left; refine ⟨by omega, ?_⟩; unfold othP; refine ⟨fun q => ?_, fun q => ?_, fun q => ?_, fun q => ?_, fun q => ?_⟩ <;> omega)) hP hD d_Mo_suitsOther_123
                · have fc89_9 : ¬ p0.toInt = 29 := zt_ne (show p0.toInt = _ from rfl) tI_29 c89_9
                  refine lv_iload_n hx hb d_Mo_suitsOther_92 rfl (lv_at hl 4 rfl) ?_
                  refine lv_bipush (v := 30) hx hb d_Mo_suitsOther_93 (by decide) ?_
                  refine lv_icmp_ne (tgt := 124) hx hb d_Mo_suitsOther_95 (by decide) (fun c95_9 => ?_) (fun c95_9 => ?_)
                  · have fc95_9 : ¬ p0.toInt = 30 := zt_ne (show p0.toInt = _ from rfl) tI_30 c95_9
                    refine lv_iload_n hx hb d_Mo_suitsOther_124 rfl (lv_at hl 4 rfl) ?_
                    refine lv_bipush (v := 31) hx hb d_Mo_suitsOther_125 (by decide) ?_
                    refine lv_icmp_ne (tgt := 145) hx hb d_Mo_suitsOther_127 (by decide) (fun c127_9 => ?_) (fun c127_9 => ?_)
                    · have fc127_9 : ¬ p0.toInt = 31 := zt_ne (show p0.toInt = _ from rfl) tI_31 c127_9
                      refine lv_iload_n hx hb d_Mo_suitsOther_145 rfl (lv_at hl 4 rfl) ?_
                      refine lv_bipush (v := 38) hx hb d_Mo_suitsOther_146 (by decide) ?_
                      refine lv_icmp_ne (tgt := 168) hx hb d_Mo_suitsOther_148 (by decide) (fun c148_9 => ?_) (fun c148_9 => ?_)
                      · have fc148_9 : ¬ p0.toInt = 38 := zt_ne (show p0.toInt = _ from rfl) tI_38 c148_9
                        refine lv_iload_n hx hb d_Mo_suitsOther_168 rfl (lv_at hl 1 rfl) ?_
                        refine lv_iconst (v := 5) hx hb d_Mo_suitsOther_169 (by decide) ?_
                        refine lv_icmp_ne (tgt := 178) hx hb d_Mo_suitsOther_170 (by decide) (fun c170_9 => ?_) (fun c170_9 => ?_)
                        · have fc170_9 : ¬ rv45.toInt = 5 := zt_ne (show rv45.toInt = _ from rfl) tI_5 c170_9
                          refine lv_iload_n hx hb d_Mo_suitsOther_178 rfl (lv_at hl 1 rfl) ?_
                          refine lv_bipush (v := 6) hx hb d_Mo_suitsOther_179 (by decide) ?_
                          refine lv_icmp_ne (tgt := 194) hx hb d_Mo_suitsOther_181 (by decide) (fun c181_17 => ?_) (fun c181_17 => ?_)
                          · have fc181_17 : ¬ rv45.toInt = 6 := zt_ne (show rv45.toInt = _ from rfl) tI_6 c181_17
                            refine lv_iconst (v := 0) hx hb d_Mo_suitsOther_194 (by decide) ?_
                            exact j_zret F hr (by decide +kernel) hlocks hK hS () (show ((0 : Int32).toInt = 1 ∧ othP p0.toInt S) ∨ (0 : Int32).toInt = 0 by have := tI_0; first | (right; omega) | (left; refine ⟨by omega, ?_⟩; unfold othP; refine ⟨fun q => ?_, fun q => ?_, fun q => ?_, fun q => ?_, fun q => ?_⟩ <;> omega)) hP hD d_Mo_suitsOther_195
                          · have fc181_17 : rv45.toInt = 6 := zt_eq (show rv45.toInt = _ from rfl) tI_6 c181_17
                            refine lv_iload hx hb d_Mo_suitsOther_184 (lv_at hl 0 rfl) ?_
                            refine lv_iconst (v := 3) hx hb d_Mo_suitsOther_186 (by decide) ?_
                            refine lv_icmp_ne (tgt := 194) hx hb d_Mo_suitsOther_187 (by decide) (fun c187_17 => ?_) (fun c187_17 => ?_)
                            · have fc187_17 : ¬ rv46.toInt = 3 := zt_ne (show rv46.toInt = _ from rfl) tI_3 c187_17
                              refine lv_iconst (v := 0) hx hb d_Mo_suitsOther_194 (by decide) ?_
                              exact j_zret F hr (by decide +kernel) hlocks hK hS () (show ((0 : Int32).toInt = 1 ∧ othP p0.toInt S) ∨ (0 : Int32).toInt = 0 by have := tI_0; first | (right; omega) | (left; refine ⟨by omega, ?_⟩; unfold othP; refine ⟨fun q => ?_, fun q => ?_, fun q => ?_, fun q => ?_, fun q => ?_⟩ <;> omega)) hP hD d_Mo_suitsOther_195
                            · have fc187_17 : rv46.toInt = 3 := zt_eq (show rv46.toInt = _ from rfl) tI_3 c187_17
                              refine lv_iconst (v := 1) hx hb d_Mo_suitsOther_190 (by decide) ?_
                              refine lv_goto (tgt := 195) hx hb d_Mo_suitsOther_191 (by decide) ?_
                              exact j_zret F hr (by decide +kernel) hlocks hK hS () (show ((1 : Int32).toInt = 1 ∧ othP p0.toInt S) ∨ (1 : Int32).toInt = 0 by have := tI_1; first | (right; omega) | (left; refine ⟨by omega, ?_⟩; unfold othP; refine ⟨fun q => ?_, fun q => ?_, fun q => ?_, fun q => ?_, fun q => ?_⟩ <;> omega)) hP hD d_Mo_suitsOther_195
                        · have fc170_9 : rv45.toInt = 5 := zt_eq (show rv45.toInt = _ from rfl) tI_5 c170_9
                          refine lv_iload hx hb d_Mo_suitsOther_173 (lv_at hl 0 rfl) ?_
                          refine lv_if_eq (tgt := 190) hx hb d_Mo_suitsOther_175 (by decide) (fun c175_9 => ?_) (fun c175_9 => ?_)
                          · have fc175_9 : rv46.toInt = 0 := zt_eq (show rv46.toInt = _ from rfl) tI_0 c175_9
                            refine lv_iconst (v := 1) hx hb d_Mo_suitsOther_190 (by decide) ?_
                            refine lv_goto (tgt := 195) hx hb d_Mo_suitsOther_191 (by decide) ?_
                            exact j_zret F hr (by decide +kernel) hlocks hK hS () (show ((1 : Int32).toInt = 1 ∧ othP p0.toInt S) ∨ (1 : Int32).toInt = 0 by have := tI_1; first | (right; omega) | (left; refine ⟨by omega, ?_⟩; unfold othP; refine ⟨fun q => ?_, fun q => ?_, fun q => ?_, fun q => ?_, fun q => ?_⟩ <;> omega)) hP hD d_Mo_suitsOther_195
                          · have fc175_9 : ¬ rv46.toInt = 0 := zt_ne (show rv46.toInt = _ from rfl) tI_0 c175_9
                            refine lv_iload_n hx hb d_Mo_suitsOther_178 rfl (lv_at hl 1 rfl) ?_
                            refine lv_bipush (v := 6) hx hb d_Mo_suitsOther_179 (by decide) ?_
                            refine lv_icmp_ne (tgt := 194) hx hb d_Mo_suitsOther_181 (by decide) (fun c181_18 => ?_) (fun c181_18 => ?_)
                            · have fc181_18 : ¬ rv45.toInt = 6 := zt_ne (show rv45.toInt = _ from rfl) tI_6 c181_18
                              refine lv_iconst (v := 0) hx hb d_Mo_suitsOther_194 (by decide) ?_
                              exact j_zret F hr (by decide +kernel) hlocks hK hS () (show ((0 : Int32).toInt = 1 ∧ othP p0.toInt S) ∨ (0 : Int32).toInt = 0 by have := tI_0; first | (right; omega) | (left; refine ⟨by omega, ?_⟩; unfold othP; refine ⟨fun q => ?_, fun q => ?_, fun q => ?_, fun q => ?_, fun q => ?_⟩ <;> omega)) hP hD d_Mo_suitsOther_195
                            · have fc181_18 : rv45.toInt = 6 := zt_eq (show rv45.toInt = _ from rfl) tI_6 c181_18
                              refine lv_iload hx hb d_Mo_suitsOther_184 (lv_at hl 0 rfl) ?_
                              refine lv_iconst (v := 3) hx hb d_Mo_suitsOther_186 (by decide) ?_
                              refine lv_icmp_ne (tgt := 194) hx hb d_Mo_suitsOther_187 (by decide) (fun c187_18 => ?_) (fun c187_18 => ?_)
                              · have fc187_18 : ¬ rv46.toInt = 3 := zt_ne (show rv46.toInt = _ from rfl) tI_3 c187_18
                                refine lv_iconst (v := 0) hx hb d_Mo_suitsOther_194 (by decide) ?_
                                exact j_zret F hr (by decide +kernel) hlocks hK hS () (show ((0 : Int32).toInt = 1 ∧ othP p0.toInt S) ∨ (0 : Int32).toInt = 0 by have := tI_0; first | (right; omega) | (left; refine ⟨by omega, ?_⟩; unfold othP; refine ⟨fun q => ?_, fun q => ?_, fun q => ?_, fun q => ?_, fun q => ?_⟩ <;> omega)) hP hD d_Mo_suitsOther_195
                              · have fc187_18 : rv46.toInt = 3 := zt_eq (show rv46.toInt = _ from rfl) tI_3 c187_18
                                refine lv_iconst (v := 1) hx hb d_Mo_suitsOther_190 (by decide) ?_
                                refine lv_goto (tgt := 195) hx hb d_Mo_suitsOther_191 (by decide) ?_
                                exact j_zret F hr (by decide +kernel) hlocks hK hS () (show ((1 : Int32).toInt = 1 ∧ othP p0.toInt S) ∨ (1 : Int32).toInt = 0 by have := tI_1; first | (right; omega) | (left; refine ⟨by omega, ?_⟩; unfold othP; refine ⟨fun q => ?_, fun q => ?_, fun q => ?_, fun q => ?_, fun q => ?_⟩ <;> omega)) hP hD d_Mo_suitsOther_195
                      · have fc148_9 : p0.toInt = 38 := zt_eq (show p0.toInt = _ from rfl) tI_38 c148_9
                        refine lv_iload_n hx hb d_Mo_suitsOther_151 rfl (lv_at hl 1 rfl) ?_
                        refine lv_iconst (v := 5) hx hb d_Mo_suitsOther_152 (by decide) ?_
                        refine lv_icmp_eq (tgt := 162) hx hb d_Mo_suitsOther_153 (by decide) (fun c153_9 => ?_) (fun c153_9 => ?_)
                        · have fc153_9 : rv45.toInt = 5 := zt_eq (show rv45.toInt = _ from rfl) tI_5 c153_9
                          refine lv_iconst (v := 1) hx hb d_Mo_suitsOther_162 (by decide) ?_
                          refine lv_goto (tgt := 167) hx hb d_Mo_suitsOther_163 (by decide) ?_
                          exact j_zret F hr (by decide +kernel) hlocks hK hS () (show ((1 : Int32).toInt = 1 ∧ othP p0.toInt S) ∨ (1 : Int32).toInt = 0 by have := tI_1; first | (right; omega) | (left; refine ⟨by omega, ?_⟩; unfold othP; refine ⟨fun q => ?_, fun q => ?_, fun q => ?_, fun q => ?_, fun q => ?_⟩ <;> omega)) hP hD d_Mo_suitsOther_167
                        · have fc153_9 : ¬ rv45.toInt = 5 := zt_ne (show rv45.toInt = _ from rfl) tI_5 c153_9
                          refine lv_iload_n hx hb d_Mo_suitsOther_156 rfl (lv_at hl 1 rfl) ?_
                          refine lv_bipush (v := 6) hx hb d_Mo_suitsOther_157 (by decide) ?_
                          refine lv_icmp_ne (tgt := 166) hx hb d_Mo_suitsOther_159 (by decide) (fun c159_9 => ?_) (fun c159_9 => ?_)
                          · have fc159_9 : ¬ rv45.toInt = 6 := zt_ne (show rv45.toInt = _ from rfl) tI_6 c159_9
                            refine lv_iconst (v := 0) hx hb d_Mo_suitsOther_166 (by decide) ?_
                            exact j_zret F hr (by decide +kernel) hlocks hK hS () (show ((0 : Int32).toInt = 1 ∧ othP p0.toInt S) ∨ (0 : Int32).toInt = 0 by have := tI_0; first | (right; omega) | (left; refine ⟨by omega, ?_⟩; unfold othP; refine ⟨fun q => ?_, fun q => ?_, fun q => ?_, fun q => ?_, fun q => ?_⟩ <;> omega)) hP hD d_Mo_suitsOther_167
                          · have fc159_9 : rv45.toInt = 6 := zt_eq (show rv45.toInt = _ from rfl) tI_6 c159_9
                            refine lv_iconst (v := 1) hx hb d_Mo_suitsOther_162 (by decide) ?_
                            refine lv_goto (tgt := 167) hx hb d_Mo_suitsOther_163 (by decide) ?_
                            exact j_zret F hr (by decide +kernel) hlocks hK hS () (show ((1 : Int32).toInt = 1 ∧ othP p0.toInt S) ∨ (1 : Int32).toInt = 0 by have := tI_1; first | (right; omega) | (left; refine ⟨by omega, ?_⟩; unfold othP; refine ⟨fun q => ?_, fun q => ?_, fun q => ?_, fun q => ?_, fun q => ?_⟩ <;> omega)) hP hD d_Mo_suitsOther_167
                    · have fc127_9 : p0.toInt = 31 := zt_eq (show p0.toInt = _ from rfl) tI_31 c127_9
                      refine lv_iload_n hx hb d_Mo_suitsOther_130 rfl (lv_at hl 1 rfl) ?_
                      refine lv_iconst (v := 2) hx hb d_Mo_suitsOther_131 (by decide) ?_
                      refine lv_icmp_eq (tgt := 139) hx hb d_Mo_suitsOther_132 (by decide) (fun c132_9 => ?_) (fun c132_9 => ?_)
                      · have fc132_9 : rv45.toInt = 2 := zt_eq (show rv45.toInt = _ from rfl) tI_2 c132_9
                        refine lv_iconst (v := 1) hx hb d_Mo_suitsOther_139 (by decide) ?_
                        refine lv_goto (tgt := 144) hx hb d_Mo_suitsOther_140 (by decide) ?_
                        exact j_zret F hr (by decide +kernel) hlocks hK hS () (show ((1 : Int32).toInt = 1 ∧ othP p0.toInt S) ∨ (1 : Int32).toInt = 0 by have := tI_1; first | (right; omega) | (left; refine ⟨by omega, ?_⟩; unfold othP; refine ⟨fun q => ?_, fun q => ?_, fun q => ?_, fun q => ?_, fun q => ?_⟩ <;> omega)) hP hD d_Mo_suitsOther_144
                      · have fc132_9 : ¬ rv45.toInt = 2 := zt_ne (show rv45.toInt = _ from rfl) tI_2 c132_9
                        refine lv_iload_n hx hb d_Mo_suitsOther_135 rfl (lv_at hl 1 rfl) ?_
                        refine lv_if_ne (tgt := 143) hx hb d_Mo_suitsOther_136 (by decide) (fun c136_9 => ?_) (fun c136_9 => ?_)
                        · have fc136_9 : ¬ rv45.toInt = 0 := zt_ne (show rv45.toInt = _ from rfl) tI_0 c136_9
                          refine lv_iconst (v := 0) hx hb d_Mo_suitsOther_143 (by decide) ?_
                          exact j_zret F hr (by decide +kernel) hlocks hK hS () (show ((0 : Int32).toInt = 1 ∧ othP p0.toInt S) ∨ (0 : Int32).toInt = 0 by have := tI_0; first | (right; omega) | (left; refine ⟨by omega, ?_⟩; unfold othP; refine ⟨fun q => ?_, fun q => ?_, fun q => ?_, fun q => ?_, fun q => ?_⟩ <;> omega)) hP hD d_Mo_suitsOther_144
                        · have fc136_9 : rv45.toInt = 0 := zt_eq (show rv45.toInt = _ from rfl) tI_0 c136_9
                          refine lv_iconst (v := 1) hx hb d_Mo_suitsOther_139 (by decide) ?_
                          refine lv_goto (tgt := 144) hx hb d_Mo_suitsOther_140 (by decide) ?_
                          exact j_zret F hr (by decide +kernel) hlocks hK hS () (show ((1 : Int32).toInt = 1 ∧ othP p0.toInt S) ∨ (1 : Int32).toInt = 0 by have := tI_1; first | (right; omega) | (left; refine ⟨by omega, ?_⟩; unfold othP; refine ⟨fun q => ?_, fun q => ?_, fun q => ?_, fun q => ?_, fun q => ?_⟩ <;> omega)) hP hD d_Mo_suitsOther_144
                  · have fc95_9 : p0.toInt = 30 := zt_eq (show p0.toInt = _ from rfl) tI_30 c95_9
                    refine lv_iload_n hx hb d_Mo_suitsOther_98 rfl (lv_at hl 1 rfl) ?_
                    refine lv_iconst (v := 2) hx hb d_Mo_suitsOther_99 (by decide) ?_
                    refine lv_icmp_eq (tgt := 107) hx hb d_Mo_suitsOther_100 (by decide) (fun c100_18 => ?_) (fun c100_18 => ?_)
                    · have fc100_18 : rv45.toInt = 2 := zt_eq (show rv45.toInt = _ from rfl) tI_2 c100_18
                      refine lv_aload_n hx hb d_Mo_suitsOther_107 rfl (lv_at hl 3 rfl) ?_
                      refine lv_iload_n hx hb d_Mo_suitsOther_108 rfl (lv_at hl 2 rfl) ?_
                      refine lv_iconst (v := 1) hx hb d_Mo_suitsOther_109 (by decide) ?_
                      refine lv_isub hx hb d_Mo_suitsOther_110 ?_
                      refine j_eqi (y := x20) ex20.symm ?_
                      refine jm_ci (w := (fun _ => S)) hK hP hD hS hA (va_runV (As := [.int x20]) (rest := []) F (m_kindOf l D T h0 ar S x20 H.size (show 0 ≤ x20.toInt ∧ x20.toInt < 1300 by first | omega | (simp only [fx20]; omega)) (show 0 ≤ ((a_kinds S) x20.toInt.toNat).toInt by first | omega | (simp only [fx20]; omega))) (j_cV (k := 1) (C := "PageScribeModel") hts k_7_174 k_1_12 k_7_171 k_7_173 k_0_102 (by decide +kernel) ⟨Nat.le_of_ble_eq_true rfl, Nat.le_of_ble_eq_true rfl⟩) (jm_pre hK hP hD) rfl rfl hl.1 rfl (lv_room (Nat.le_of_ble_eq_true rfl)) d_Mo_suitsOther_111 ⟨Nat.le_of_ble_eq_true rfl, Nat.le_of_ble_eq_true rfl⟩) (fun rv49 u49 H locs hw49 hP hD hS => ?_)
                      have hP : va_P D classes (mW T h0 ar S) H := hP
                      have hD : va_D A (mW T h0 ar S) := hD
                      have qhw49 : rv49.toInt = ((a_kinds S) ((f_size S).toInt - 2).toNat).toInt % 8 := by simpa only [fx20] using hw49
                      refine lv_iload_n hx hb d_Mo_suitsOther_114 rfl (lv_at hl 1 rfl) ?_
                      refine lv_icmp_ne (tgt := 122) hx hb d_Mo_suitsOther_115 (by decide) (fun c115_35 => ?_) (fun c115_35 => ?_)
                      · have fc115_35 : ¬ rv49.toInt = rv45.toInt := zt_ne (show rv49.toInt = _ from rfl) (show rv45.toInt = _ from rfl) c115_35
                        refine lv_iconst (v := 0) hx hb d_Mo_suitsOther_122 (by decide) ?_
                        exact j_zret F hr (by decide +kernel) hlocks hK hS () (show ((0 : Int32).toInt = 1 ∧ othP p0.toInt S) ∨ (0 : Int32).toInt = 0 by have := tI_0; first | (right; omega) | (left; refine ⟨by omega, ?_⟩; unfold othP; refine ⟨fun q => ?_, fun q => ?_, fun q => ?_, fun q => ?_, fun q => ?_⟩ <;> omega)) hP hD d_Mo_suitsOther_123
                      · have fc115_35 : rv49.toInt = rv45.toInt := zt_eq (show rv49.toInt = _ from rfl) (show rv45.toInt = _ from rfl) c115_35
                        refine lv_iconst (v := 1) hx hb d_Mo_suitsOther_118 (by decide) ?_
                        refine lv_goto (tgt := 123) hx hb d_Mo_suitsOther_119 (by decide) ?_
                        exact j_zret F hr (by decide +kernel) hlocks hK hS () (show ((1 : Int32).toInt = 1 ∧ othP p0.toInt S) ∨ (1 : Int32).toInt = 0 by have := tI_1; first | (right; omega) | (left; refine ⟨by omega, ?_⟩; unfold othP; refine ⟨fun q => ?_, fun q => ?_, fun q => ?_, fun q => ?_, fun q => ?_⟩ <;> omega)) hP hD d_Mo_suitsOther_123
                    · have fc100_18 : ¬ rv45.toInt = 2 := zt_ne (show rv45.toInt = _ from rfl) tI_2 c100_18
                      refine lv_iload_n hx hb d_Mo_suitsOther_103 rfl (lv_at hl 1 rfl) ?_
                      refine lv_if_ne (tgt := 122) hx hb d_Mo_suitsOther_104 (by decide) (fun c104_18 => ?_) (fun c104_18 => ?_)
                      · have fc104_18 : ¬ rv45.toInt = 0 := zt_ne (show rv45.toInt = _ from rfl) tI_0 c104_18
                        refine lv_iconst (v := 0) hx hb d_Mo_suitsOther_122 (by decide) ?_
                        exact j_zret F hr (by decide +kernel) hlocks hK hS () (show ((0 : Int32).toInt = 1 ∧ othP p0.toInt S) ∨ (0 : Int32).toInt = 0 by have := tI_0; first | (right; omega) | (left; refine ⟨by omega, ?_⟩; unfold othP; refine ⟨fun q => ?_, fun q => ?_, fun q => ?_, fun q => ?_, fun q => ?_⟩ <;> omega)) hP hD d_Mo_suitsOther_123
                      · have fc104_18 : rv45.toInt = 0 := zt_eq (show rv45.toInt = _ from rfl) tI_0 c104_18
                        refine lv_aload_n hx hb d_Mo_suitsOther_107 rfl (lv_at hl 3 rfl) ?_
                        refine lv_iload_n hx hb d_Mo_suitsOther_108 rfl (lv_at hl 2 rfl) ?_
                        refine lv_iconst (v := 1) hx hb d_Mo_suitsOther_109 (by decide) ?_
                        refine lv_isub hx hb d_Mo_suitsOther_110 ?_
                        refine j_eqi (y := x20) ex20.symm ?_
                        refine jm_ci (w := (fun _ => S)) hK hP hD hS hA (va_runV (As := [.int x20]) (rest := []) F (m_kindOf l D T h0 ar S x20 H.size (show 0 ≤ x20.toInt ∧ x20.toInt < 1300 by first | omega | (simp only [fx20]; omega)) (show 0 ≤ ((a_kinds S) x20.toInt.toNat).toInt by first | omega | (simp only [fx20]; omega))) (j_cV (k := 1) (C := "PageScribeModel") hts k_7_174 k_1_12 k_7_171 k_7_173 k_0_102 (by decide +kernel) ⟨Nat.le_of_ble_eq_true rfl, Nat.le_of_ble_eq_true rfl⟩) (jm_pre hK hP hD) rfl rfl hl.1 rfl (lv_room (Nat.le_of_ble_eq_true rfl)) d_Mo_suitsOther_111 ⟨Nat.le_of_ble_eq_true rfl, Nat.le_of_ble_eq_true rfl⟩) (fun rv50 u50 H locs hw50 hP hD hS => ?_)
                        have hP : va_P D classes (mW T h0 ar S) H := hP
                        have hD : va_D A (mW T h0 ar S) := hD
                        have qhw50 : rv50.toInt = ((a_kinds S) ((f_size S).toInt - 2).toNat).toInt % 8 := by simpa only [fx20] using hw50
                        refine lv_iload_n hx hb d_Mo_suitsOther_114 rfl (lv_at hl 1 rfl) ?_
                        refine lv_icmp_ne (tgt := 122) hx hb d_Mo_suitsOther_115 (by decide) (fun c115_36 => ?_) (fun c115_36 => ?_)
                        · have fc115_36 : ¬ rv50.toInt = rv45.toInt := zt_ne (show rv50.toInt = _ from rfl) (show rv45.toInt = _ from rfl) c115_36
                          refine lv_iconst (v := 0) hx hb d_Mo_suitsOther_122 (by decide) ?_
                          exact j_zret F hr (by decide +kernel) hlocks hK hS () (show ((0 : Int32).toInt = 1 ∧ othP p0.toInt S) ∨ (0 : Int32).toInt = 0 by have := tI_0; first | (right; omega) | (left; refine ⟨by omega, ?_⟩; unfold othP; refine ⟨fun q => ?_, fun q => ?_, fun q => ?_, fun q => ?_, fun q => ?_⟩ <;> omega)) hP hD d_Mo_suitsOther_123
                        · have fc115_36 : rv50.toInt = rv45.toInt := zt_eq (show rv50.toInt = _ from rfl) (show rv45.toInt = _ from rfl) c115_36
                          refine lv_iconst (v := 1) hx hb d_Mo_suitsOther_118 (by decide) ?_
                          refine lv_goto (tgt := 123) hx hb d_Mo_suitsOther_119 (by decide) ?_
                          exact j_zret F hr (by decide +kernel) hlocks hK hS () (show ((1 : Int32).toInt = 1 ∧ othP p0.toInt S) ∨ (1 : Int32).toInt = 0 by have := tI_1; first | (right; omega) | (left; refine ⟨by omega, ?_⟩; unfold othP; refine ⟨fun q => ?_, fun q => ?_, fun q => ?_, fun q => ?_, fun q => ?_⟩ <;> omega)) hP hD d_Mo_suitsOther_123
              · have fc66_5 : p0.toInt = 40 := zt_eq (show p0.toInt = _ from rfl) tI_40 c66_5
                refine lv_aload_n hx hb d_Mo_suitsOther_69 rfl (lv_at hl 2 rfl) ?_
                refine lv_iload_n hx hb d_Mo_suitsOther_70 rfl (lv_at hl 1 rfl) ?_
                refine lv_iconst (v := 1) hx hb d_Mo_suitsOther_71 (by decide) ?_
                refine lv_isub hx hb d_Mo_suitsOther_72 ?_
                refine j_eqi (y := x20) ex20.symm ?_
                refine jm_ci (w := (fun _ => S)) hK hP hD hS hA (va_runV (As := [.int x20]) (rest := []) F (m_kindOf l D T h0 ar S x20 H.size (show 0 ≤ x20.toInt ∧ x20.toInt < 1300 by first | omega | (simp only [fx20]; omega)) (show 0 ≤ ((a_kinds S) x20.toInt.toNat).toInt by first | omega | (simp only [fx20]; omega))) (j_cV (k := 1) (C := "PageScribeModel") hts k_7_174 k_1_12 k_7_171 k_7_173 k_0_102 (by decide +kernel) ⟨Nat.le_of_ble_eq_true rfl, Nat.le_of_ble_eq_true rfl⟩) (jm_pre hK hP hD) rfl rfl hl.1 rfl (lv_room (Nat.le_of_ble_eq_true rfl)) d_Mo_suitsOther_73 ⟨Nat.le_of_ble_eq_true rfl, Nat.le_of_ble_eq_true rfl⟩) (fun rv51 u51 H locs hw51 hP hD hS => ?_)
                have hP : va_P D classes (mW T h0 ar S) H := hP
                have hD : va_D A (mW T h0 ar S) := hD
                have qhw51 : rv51.toInt = ((a_kinds S) ((f_size S).toInt - 2).toNat).toInt % 8 := by simpa only [fx20] using hw51
                refine lv_goto (tgt := 84) hx hb d_Mo_suitsOther_76 (by decide) ?_
                refine lv_istore (lv' := [(4, .int rv51), (3, .int rv45), (2, .int x14), (0, .ref h0), (1, .int p0)]) hx hb d_Mo_suitsOther_84 hl (by decide) rfl (fun ls hl => ?_)
                refine lv_iload_n hx hb d_Mo_suitsOther_86 rfl (lv_at hl 4 rfl) ?_
                refine lv_bipush (v := 29) hx hb d_Mo_suitsOther_87 (by decide) ?_
                refine lv_icmp_eq (tgt := 98) hx hb d_Mo_suitsOther_89 (by decide) (fun c89_10 => ?_) (fun c89_10 => ?_)
                · have fc89_10 : p0.toInt = 29 := zt_eq (show p0.toInt = _ from rfl) tI_29 c89_10
                  refine lv_iload_n hx hb d_Mo_suitsOther_98 rfl (lv_at hl 1 rfl) ?_
                  refine lv_iconst (v := 2) hx hb d_Mo_suitsOther_99 (by decide) ?_
                  refine lv_icmp_eq (tgt := 107) hx hb d_Mo_suitsOther_100 (by decide) (fun c100_19 => ?_) (fun c100_19 => ?_)
                  · have fc100_19 : rv45.toInt = 2 := zt_eq (show rv45.toInt = _ from rfl) tI_2 c100_19
                    refine lv_aload_n hx hb d_Mo_suitsOther_107 rfl (lv_at hl 3 rfl) ?_
                    refine lv_iload_n hx hb d_Mo_suitsOther_108 rfl (lv_at hl 2 rfl) ?_
                    refine lv_iconst (v := 1) hx hb d_Mo_suitsOther_109 (by decide) ?_
                    refine lv_isub hx hb d_Mo_suitsOther_110 ?_
                    refine j_eqi (y := x20) ex20.symm ?_
                    refine jm_ci (w := (fun _ => S)) hK hP hD hS hA (va_runV (As := [.int x20]) (rest := []) F (m_kindOf l D T h0 ar S x20 H.size (show 0 ≤ x20.toInt ∧ x20.toInt < 1300 by first | omega | (simp only [fx20]; omega)) (show 0 ≤ ((a_kinds S) x20.toInt.toNat).toInt by first | omega | (simp only [fx20]; omega))) (j_cV (k := 1) (C := "PageScribeModel") hts k_7_174 k_1_12 k_7_171 k_7_173 k_0_102 (by decide +kernel) ⟨Nat.le_of_ble_eq_true rfl, Nat.le_of_ble_eq_true rfl⟩) (jm_pre hK hP hD) rfl rfl hl.1 rfl (lv_room (Nat.le_of_ble_eq_true rfl)) d_Mo_suitsOther_111 ⟨Nat.le_of_ble_eq_true rfl, Nat.le_of_ble_eq_true rfl⟩) (fun rv52 u52 H locs hw52 hP hD hS => ?_)
                    have hP : va_P D classes (mW T h0 ar S) H := hP
                    have hD : va_D A (mW T h0 ar S) := hD
                    have qhw52 : rv52.toInt = ((a_kinds S) ((f_size S).toInt - 2).toNat).toInt % 8 := by simpa only [fx20] using hw52
                    refine lv_iload_n hx hb d_Mo_suitsOther_114 rfl (lv_at hl 1 rfl) ?_
                    refine lv_icmp_ne (tgt := 122) hx hb d_Mo_suitsOther_115 (by decide) (fun c115_37 => ?_) (fun c115_37 => ?_)
                    · have fc115_37 : ¬ rv52.toInt = rv45.toInt := zt_ne (show rv52.toInt = _ from rfl) (show rv45.toInt = _ from rfl) c115_37
                      refine lv_iconst (v := 0) hx hb d_Mo_suitsOther_122 (by decide) ?_
                      exact j_zret F hr (by decide +kernel) hlocks hK hS () (show ((0 : Int32).toInt = 1 ∧ othP p0.toInt S) ∨ (0 : Int32).toInt = 0 by have := tI_0; first | (right; omega) | (left; refine ⟨by omega, ?_⟩; unfold othP; refine ⟨fun q => ?_, fun q => ?_, fun q => ?_, fun q => ?_, fun q => ?_⟩ <;> omega)) hP hD d_Mo_suitsOther_123
                    · have fc115_37 : rv52.toInt = rv45.toInt := zt_eq (show rv52.toInt = _ from rfl) (show rv45.toInt = _ from rfl) c115_37
                      refine lv_iconst (v := 1) hx hb d_Mo_suitsOther_118 (by decide) ?_
                      refine lv_goto (tgt := 123) hx hb d_Mo_suitsOther_119 (by decide) ?_
                      exact j_zret F hr (by decide +kernel) hlocks hK hS () (show ((1 : Int32).toInt = 1 ∧ othP p0.toInt S) ∨ (1 : Int32).toInt = 0 by have := tI_1; first | (right; omega) | (left; refine ⟨by omega, ?_⟩; unfold othP; refine ⟨fun q => ?_, fun q => ?_, fun q => ?_, fun q => ?_, fun q => ?_⟩ <;> omega)) hP hD d_Mo_suitsOther_123
                  · have fc100_19 : ¬ rv45.toInt = 2 := zt_ne (show rv45.toInt = _ from rfl) tI_2 c100_19
                    refine lv_iload_n hx hb d_Mo_suitsOther_103 rfl (lv_at hl 1 rfl) ?_
                    refine lv_if_ne (tgt := 122) hx hb d_Mo_suitsOther_104 (by decide) (fun c104_19 => ?_) (fun c104_19 => ?_)
                    · have fc104_19 : ¬ rv45.toInt = 0 := zt_ne (show rv45.toInt = _ from rfl) tI_0 c104_19
                      refine lv_iconst (v := 0) hx hb d_Mo_suitsOther_122 (by decide) ?_
                      exact j_zret F hr (by decide +kernel) hlocks hK hS () (show ((0 : Int32).toInt = 1 ∧ othP p0.toInt S) ∨ (0 : Int32).toInt = 0 by have := tI_0; first | (right; omega) | (left; refine ⟨by omega, ?_⟩; unfold othP; refine ⟨fun q => ?_, fun q => ?_, fun q => ?_, fun q => ?_, fun q => ?_⟩ <;> omega)) hP hD d_Mo_suitsOther_123
                    · have fc104_19 : rv45.toInt = 0 := zt_eq (show rv45.toInt = _ from rfl) tI_0 c104_19
                      refine lv_aload_n hx hb d_Mo_suitsOther_107 rfl (lv_at hl 3 rfl) ?_
                      refine lv_iload_n hx hb d_Mo_suitsOther_108 rfl (lv_at hl 2 rfl) ?_
                      refine lv_iconst (v := 1) hx hb d_Mo_suitsOther_109 (by decide) ?_
                      refine lv_isub hx hb d_Mo_suitsOther_110 ?_
                      refine j_eqi (y := x20) ex20.symm ?_
                      refine jm_ci (w := (fun _ => S)) hK hP hD hS hA (va_runV (As := [.int x20]) (rest := []) F (m_kindOf l D T h0 ar S x20 H.size (show 0 ≤ x20.toInt ∧ x20.toInt < 1300 by first | omega | (simp only [fx20]; omega)) (show 0 ≤ ((a_kinds S) x20.toInt.toNat).toInt by first | omega | (simp only [fx20]; omega))) (j_cV (k := 1) (C := "PageScribeModel") hts k_7_174 k_1_12 k_7_171 k_7_173 k_0_102 (by decide +kernel) ⟨Nat.le_of_ble_eq_true rfl, Nat.le_of_ble_eq_true rfl⟩) (jm_pre hK hP hD) rfl rfl hl.1 rfl (lv_room (Nat.le_of_ble_eq_true rfl)) d_Mo_suitsOther_111 ⟨Nat.le_of_ble_eq_true rfl, Nat.le_of_ble_eq_true rfl⟩) (fun rv53 u53 H locs hw53 hP hD hS => ?_)
                      have hP : va_P D classes (mW T h0 ar S) H := hP
                      have hD : va_D A (mW T h0 ar S) := hD
                      have qhw53 : rv53.toInt = ((a_kinds S) ((f_size S).toInt - 2).toNat).toInt % 8 := by simpa only [fx20] using hw53
                      refine lv_iload_n hx hb d_Mo_suitsOther_114 rfl (lv_at hl 1 rfl) ?_
                      refine lv_icmp_ne (tgt := 122) hx hb d_Mo_suitsOther_115 (by decide) (fun c115_38 => ?_) (fun c115_38 => ?_)
                      · have fc115_38 : ¬ rv53.toInt = rv45.toInt := zt_ne (show rv53.toInt = _ from rfl) (show rv45.toInt = _ from rfl) c115_38
                        refine lv_iconst (v := 0) hx hb d_Mo_suitsOther_122 (by decide) ?_
                        exact j_zret F hr (by decide +kernel) hlocks hK hS () (show ((0 : Int32).toInt = 1 ∧ othP p0.toInt S) ∨ (0 : Int32).toInt = 0 by have := tI_0; first | (right; omega) | (left; refine ⟨by omega, ?_⟩; unfold othP; refine ⟨fun q => ?_, fun q => ?_, fun q => ?_, fun q => ?_, fun q => ?_⟩ <;> omega)) hP hD d_Mo_suitsOther_123
                      · have fc115_38 : rv53.toInt = rv45.toInt := zt_eq (show rv53.toInt = _ from rfl) (show rv45.toInt = _ from rfl) c115_38
                        refine lv_iconst (v := 1) hx hb d_Mo_suitsOther_118 (by decide) ?_
                        refine lv_goto (tgt := 123) hx hb d_Mo_suitsOther_119 (by decide) ?_
                        exact j_zret F hr (by decide +kernel) hlocks hK hS () (show ((1 : Int32).toInt = 1 ∧ othP p0.toInt S) ∨ (1 : Int32).toInt = 0 by have := tI_1; first | (right; omega) | (left; refine ⟨by omega, ?_⟩; unfold othP; refine ⟨fun q => ?_, fun q => ?_, fun q => ?_, fun q => ?_, fun q => ?_⟩ <;> omega)) hP hD d_Mo_suitsOther_123
                · have fc89_10 : ¬ p0.toInt = 29 := zt_ne (show p0.toInt = _ from rfl) tI_29 c89_10
                  refine lv_iload_n hx hb d_Mo_suitsOther_92 rfl (lv_at hl 4 rfl) ?_
                  refine lv_bipush (v := 30) hx hb d_Mo_suitsOther_93 (by decide) ?_
                  refine lv_icmp_ne (tgt := 124) hx hb d_Mo_suitsOther_95 (by decide) (fun c95_10 => ?_) (fun c95_10 => ?_)
                  · have fc95_10 : ¬ p0.toInt = 30 := zt_ne (show p0.toInt = _ from rfl) tI_30 c95_10
                    refine lv_iload_n hx hb d_Mo_suitsOther_124 rfl (lv_at hl 4 rfl) ?_
                    refine lv_bipush (v := 31) hx hb d_Mo_suitsOther_125 (by decide) ?_
                    refine lv_icmp_ne (tgt := 145) hx hb d_Mo_suitsOther_127 (by decide) (fun c127_10 => ?_) (fun c127_10 => ?_)
                    · have fc127_10 : ¬ p0.toInt = 31 := zt_ne (show p0.toInt = _ from rfl) tI_31 c127_10
                      refine lv_iload_n hx hb d_Mo_suitsOther_145 rfl (lv_at hl 4 rfl) ?_
                      refine lv_bipush (v := 38) hx hb d_Mo_suitsOther_146 (by decide) ?_
                      refine lv_icmp_ne (tgt := 168) hx hb d_Mo_suitsOther_148 (by decide) (fun c148_10 => ?_) (fun c148_10 => ?_)
                      · have fc148_10 : ¬ p0.toInt = 38 := zt_ne (show p0.toInt = _ from rfl) tI_38 c148_10
                        refine lv_iload_n hx hb d_Mo_suitsOther_168 rfl (lv_at hl 1 rfl) ?_
                        refine lv_iconst (v := 5) hx hb d_Mo_suitsOther_169 (by decide) ?_
                        refine lv_icmp_ne (tgt := 178) hx hb d_Mo_suitsOther_170 (by decide) (fun c170_10 => ?_) (fun c170_10 => ?_)
                        · have fc170_10 : ¬ rv45.toInt = 5 := zt_ne (show rv45.toInt = _ from rfl) tI_5 c170_10
                          refine lv_iload_n hx hb d_Mo_suitsOther_178 rfl (lv_at hl 1 rfl) ?_
                          refine lv_bipush (v := 6) hx hb d_Mo_suitsOther_179 (by decide) ?_
                          refine lv_icmp_ne (tgt := 194) hx hb d_Mo_suitsOther_181 (by decide) (fun c181_19 => ?_) (fun c181_19 => ?_)
                          · have fc181_19 : ¬ rv45.toInt = 6 := zt_ne (show rv45.toInt = _ from rfl) tI_6 c181_19
                            refine lv_iconst (v := 0) hx hb d_Mo_suitsOther_194 (by decide) ?_
                            exact j_zret F hr (by decide +kernel) hlocks hK hS () (show ((0 : Int32).toInt = 1 ∧ othP p0.toInt S) ∨ (0 : Int32).toInt = 0 by have := tI_0; first | (right; omega) | (left; refine ⟨by omega, ?_⟩; unfold othP; refine ⟨fun q => ?_, fun q => ?_, fun q => ?_, fun q => ?_, fun q => ?_⟩ <;> omega)) hP hD d_Mo_suitsOther_195
                          · have fc181_19 : rv45.toInt = 6 := zt_eq (show rv45.toInt = _ from rfl) tI_6 c181_19
                            refine lv_iload hx hb d_Mo_suitsOther_184 (lv_at hl 0 rfl) ?_
                            refine lv_iconst (v := 3) hx hb d_Mo_suitsOther_186 (by decide) ?_
                            refine lv_icmp_ne (tgt := 194) hx hb d_Mo_suitsOther_187 (by decide) (fun c187_19 => ?_) (fun c187_19 => ?_)
                            · have fc187_19 : ¬ rv51.toInt = 3 := zt_ne (show rv51.toInt = _ from rfl) tI_3 c187_19
                              refine lv_iconst (v := 0) hx hb d_Mo_suitsOther_194 (by decide) ?_
                              exact j_zret F hr (by decide +kernel) hlocks hK hS () (show ((0 : Int32).toInt = 1 ∧ othP p0.toInt S) ∨ (0 : Int32).toInt = 0 by have := tI_0; first | (right; omega) | (left; refine ⟨by omega, ?_⟩; unfold othP; refine ⟨fun q => ?_, fun q => ?_, fun q => ?_, fun q => ?_, fun q => ?_⟩ <;> omega)) hP hD d_Mo_suitsOther_195
                            · have fc187_19 : rv51.toInt = 3 := zt_eq (show rv51.toInt = _ from rfl) tI_3 c187_19
                              refine lv_iconst (v := 1) hx hb d_Mo_suitsOther_190 (by decide) ?_
                              refine lv_goto (tgt := 195) hx hb d_Mo_suitsOther_191 (by decide) ?_
                              exact j_zret F hr (by decide +kernel) hlocks hK hS () (show ((1 : Int32).toInt = 1 ∧ othP p0.toInt S) ∨ (1 : Int32).toInt = 0 by have := tI_1; first | (right; omega) | (left; refine ⟨by omega, ?_⟩; unfold othP; refine ⟨fun q => ?_, fun q => ?_, fun q => ?_, fun q => ?_, fun q => ?_⟩ <;> omega)) hP hD d_Mo_suitsOther_195
                        · have fc170_10 : rv45.toInt = 5 := zt_eq (show rv45.toInt = _ from rfl) tI_5 c170_10
                          refine lv_iload hx hb d_Mo_suitsOther_173 (lv_at hl 0 rfl) ?_
                          refine lv_if_eq (tgt := 190) hx hb d_Mo_suitsOther_175 (by decide) (fun c175_10 => ?_) (fun c175_10 => ?_)
                          · have fc175_10 : rv51.toInt = 0 := zt_eq (show rv51.toInt = _ from rfl) tI_0 c175_10
                            refine lv_iconst (v := 1) hx hb d_Mo_suitsOther_190 (by decide) ?_
                            refine lv_goto (tgt := 195) hx hb d_Mo_suitsOther_191 (by decide) ?_
                            exact j_zret F hr (by decide +kernel) hlocks hK hS () (show ((1 : Int32).toInt = 1 ∧ othP p0.toInt S) ∨ (1 : Int32).toInt = 0 by have := tI_1; first | (right; omega) | (left; refine ⟨by omega, ?_⟩; unfold othP; refine ⟨fun q => ?_, fun q => ?_, fun q => ?_, fun q => ?_, fun q => ?_⟩ <;> omega)) hP hD d_Mo_suitsOther_195
                          · have fc175_10 : ¬ rv51.toInt = 0 := zt_ne (show rv51.toInt = _ from rfl) tI_0 c175_10
                            refine lv_iload_n hx hb d_Mo_suitsOther_178 rfl (lv_at hl 1 rfl) ?_
                            refine lv_bipush (v := 6) hx hb d_Mo_suitsOther_179 (by decide) ?_
                            refine lv_icmp_ne (tgt := 194) hx hb d_Mo_suitsOther_181 (by decide) (fun c181_20 => ?_) (fun c181_20 => ?_)
                            · have fc181_20 : ¬ rv45.toInt = 6 := zt_ne (show rv45.toInt = _ from rfl) tI_6 c181_20
                              refine lv_iconst (v := 0) hx hb d_Mo_suitsOther_194 (by decide) ?_
                              exact j_zret F hr (by decide +kernel) hlocks hK hS () (show ((0 : Int32).toInt = 1 ∧ othP p0.toInt S) ∨ (0 : Int32).toInt = 0 by have := tI_0; first | (right; omega) | (left; refine ⟨by omega, ?_⟩; unfold othP; refine ⟨fun q => ?_, fun q => ?_, fun q => ?_, fun q => ?_, fun q => ?_⟩ <;> omega)) hP hD d_Mo_suitsOther_195
                            · have fc181_20 : rv45.toInt = 6 := zt_eq (show rv45.toInt = _ from rfl) tI_6 c181_20
                              refine lv_iload hx hb d_Mo_suitsOther_184 (lv_at hl 0 rfl) ?_
                              refine lv_iconst (v := 3) hx hb d_Mo_suitsOther_186 (by decide) ?_
                              refine lv_icmp_ne (tgt := 194) hx hb d_Mo_suitsOther_187 (by decide) (fun c187_20 => ?_) (fun c187_20 => ?_)
                              · have fc187_20 : ¬ rv51.toInt = 3 := zt_ne (show rv51.toInt = _ from rfl) tI_3 c187_20
                                refine lv_iconst (v := 0) hx hb d_Mo_suitsOther_194 (by decide) ?_
                                exact j_zret F hr (by decide +kernel) hlocks hK hS () (show ((0 : Int32).toInt = 1 ∧ othP p0.toInt S) ∨ (0 : Int32).toInt = 0 by have := tI_0; first | (right; omega) | (left; refine ⟨by omega, ?_⟩; unfold othP; refine ⟨fun q => ?_, fun q => ?_, fun q => ?_, fun q => ?_, fun q => ?_⟩ <;> omega)) hP hD d_Mo_suitsOther_195
                              · have fc187_20 : rv51.toInt = 3 := zt_eq (show rv51.toInt = _ from rfl) tI_3 c187_20
                                refine lv_iconst (v := 1) hx hb d_Mo_suitsOther_190 (by decide) ?_
                                refine lv_goto (tgt := 195) hx hb d_Mo_suitsOther_191 (by decide) ?_
                                exact j_zret F hr (by decide +kernel) hlocks hK hS () (show ((1 : Int32).toInt = 1 ∧ othP p0.toInt S) ∨ (1 : Int32).toInt = 0 by have := tI_1; first | (right; omega) | (left; refine ⟨by omega, ?_⟩; unfold othP; refine ⟨fun q => ?_, fun q => ?_, fun q => ?_, fun q => ?_, fun q => ?_⟩ <;> omega)) hP hD d_Mo_suitsOther_195
                      · have fc148_10 : p0.toInt = 38 := zt_eq (show p0.toInt = _ from rfl) tI_38 c148_10
                        refine lv_iload_n hx hb d_Mo_suitsOther_151 rfl (lv_at hl 1 rfl) ?_
                        refine lv_iconst (v := 5) hx hb d_Mo_suitsOther_152 (by decide) ?_
                        refine lv_icmp_eq (tgt := 162) hx hb d_Mo_suitsOther_153 (by decide) (fun c153_10 => ?_) (fun c153_10 => ?_)
                        · have fc153_10 : rv45.toInt = 5 := zt_eq (show rv45.toInt = _ from rfl) tI_5 c153_10
                          refine lv_iconst (v := 1) hx hb d_Mo_suitsOther_162 (by decide) ?_
                          refine lv_goto (tgt := 167) hx hb d_Mo_suitsOther_163 (by decide) ?_
                          exact j_zret F hr (by decide +kernel) hlocks hK hS () (show ((1 : Int32).toInt = 1 ∧ othP p0.toInt S) ∨ (1 : Int32).toInt = 0 by have := tI_1; first | (right; omega) | (left; refine ⟨by omega, ?_⟩; unfold othP; refine ⟨fun q => ?_, fun q => ?_, fun q => ?_, fun q => ?_, fun q => ?_⟩ <;> omega)) hP hD d_Mo_suitsOther_167
                        · have fc153_10 : ¬ rv45.toInt = 5 := zt_ne (show rv45.toInt = _ from rfl) tI_5 c153_10
                          refine lv_iload_n hx hb d_Mo_suitsOther_156 rfl (lv_at hl 1 rfl) ?_
                          refine lv_bipush (v := 6) hx hb d_Mo_suitsOther_157 (by decide) ?_
                          refine lv_icmp_ne (tgt := 166) hx hb d_Mo_suitsOther_159 (by decide) (fun c159_10 => ?_) (fun c159_10 => ?_)
                          · have fc159_10 : ¬ rv45.toInt = 6 := zt_ne (show rv45.toInt = _ from rfl) tI_6 c159_10
                            refine lv_iconst (v := 0) hx hb d_Mo_suitsOther_166 (by decide) ?_
                            exact j_zret F hr (by decide +kernel) hlocks hK hS () (show ((0 : Int32).toInt = 1 ∧ othP p0.toInt S) ∨ (0 : Int32).toInt = 0 by have := tI_0; first | (right; omega) | (left; refine ⟨by omega, ?_⟩; unfold othP; refine ⟨fun q => ?_, fun q => ?_, fun q => ?_, fun q => ?_, fun q => ?_⟩ <;> omega)) hP hD d_Mo_suitsOther_167
                          · have fc159_10 : rv45.toInt = 6 := zt_eq (show rv45.toInt = _ from rfl) tI_6 c159_10
                            refine lv_iconst (v := 1) hx hb d_Mo_suitsOther_162 (by decide) ?_
                            refine lv_goto (tgt := 167) hx hb d_Mo_suitsOther_163 (by decide) ?_
                            exact j_zret F hr (by decide +kernel) hlocks hK hS () (show ((1 : Int32).toInt = 1 ∧ othP p0.toInt S) ∨ (1 : Int32).toInt = 0 by have := tI_1; first | (right; omega) | (left; refine ⟨by omega, ?_⟩; unfold othP; refine ⟨fun q => ?_, fun q => ?_, fun q => ?_, fun q => ?_, fun q => ?_⟩ <;> omega)) hP hD d_Mo_suitsOther_167
                    · have fc127_10 : p0.toInt = 31 := zt_eq (show p0.toInt = _ from rfl) tI_31 c127_10
                      refine lv_iload_n hx hb d_Mo_suitsOther_130 rfl (lv_at hl 1 rfl) ?_
                      refine lv_iconst (v := 2) hx hb d_Mo_suitsOther_131 (by decide) ?_
                      refine lv_icmp_eq (tgt := 139) hx hb d_Mo_suitsOther_132 (by decide) (fun c132_10 => ?_) (fun c132_10 => ?_)
                      · have fc132_10 : rv45.toInt = 2 := zt_eq (show rv45.toInt = _ from rfl) tI_2 c132_10
                        refine lv_iconst (v := 1) hx hb d_Mo_suitsOther_139 (by decide) ?_
                        refine lv_goto (tgt := 144) hx hb d_Mo_suitsOther_140 (by decide) ?_
                        exact j_zret F hr (by decide +kernel) hlocks hK hS () (show ((1 : Int32).toInt = 1 ∧ othP p0.toInt S) ∨ (1 : Int32).toInt = 0 by have := tI_1; first | (right; omega) | (left; refine ⟨by omega, ?_⟩; unfold othP; refine ⟨fun q => ?_, fun q => ?_, fun q => ?_, fun q => ?_, fun q => ?_⟩ <;> omega)) hP hD d_Mo_suitsOther_144
                      · have fc132_10 : ¬ rv45.toInt = 2 := zt_ne (show rv45.toInt = _ from rfl) tI_2 c132_10
                        refine lv_iload_n hx hb d_Mo_suitsOther_135 rfl (lv_at hl 1 rfl) ?_
                        refine lv_if_ne (tgt := 143) hx hb d_Mo_suitsOther_136 (by decide) (fun c136_10 => ?_) (fun c136_10 => ?_)
                        · have fc136_10 : ¬ rv45.toInt = 0 := zt_ne (show rv45.toInt = _ from rfl) tI_0 c136_10
                          refine lv_iconst (v := 0) hx hb d_Mo_suitsOther_143 (by decide) ?_
                          exact j_zret F hr (by decide +kernel) hlocks hK hS () (show ((0 : Int32).toInt = 1 ∧ othP p0.toInt S) ∨ (0 : Int32).toInt = 0 by have := tI_0; first | (right; omega) | (left; refine ⟨by omega, ?_⟩; unfold othP; refine ⟨fun q => ?_, fun q => ?_, fun q => ?_, fun q => ?_, fun q => ?_⟩ <;> omega)) hP hD d_Mo_suitsOther_144
                        · have fc136_10 : rv45.toInt = 0 := zt_eq (show rv45.toInt = _ from rfl) tI_0 c136_10
                          refine lv_iconst (v := 1) hx hb d_Mo_suitsOther_139 (by decide) ?_
                          refine lv_goto (tgt := 144) hx hb d_Mo_suitsOther_140 (by decide) ?_
                          exact j_zret F hr (by decide +kernel) hlocks hK hS () (show ((1 : Int32).toInt = 1 ∧ othP p0.toInt S) ∨ (1 : Int32).toInt = 0 by have := tI_1; first | (right; omega) | (left; refine ⟨by omega, ?_⟩; unfold othP; refine ⟨fun q => ?_, fun q => ?_, fun q => ?_, fun q => ?_, fun q => ?_⟩ <;> omega)) hP hD d_Mo_suitsOther_144
                  · have fc95_10 : p0.toInt = 30 := zt_eq (show p0.toInt = _ from rfl) tI_30 c95_10
                    refine lv_iload_n hx hb d_Mo_suitsOther_98 rfl (lv_at hl 1 rfl) ?_
                    refine lv_iconst (v := 2) hx hb d_Mo_suitsOther_99 (by decide) ?_
                    refine lv_icmp_eq (tgt := 107) hx hb d_Mo_suitsOther_100 (by decide) (fun c100_20 => ?_) (fun c100_20 => ?_)
                    · have fc100_20 : rv45.toInt = 2 := zt_eq (show rv45.toInt = _ from rfl) tI_2 c100_20
                      refine lv_aload_n hx hb d_Mo_suitsOther_107 rfl (lv_at hl 3 rfl) ?_
                      refine lv_iload_n hx hb d_Mo_suitsOther_108 rfl (lv_at hl 2 rfl) ?_
                      refine lv_iconst (v := 1) hx hb d_Mo_suitsOther_109 (by decide) ?_
                      refine lv_isub hx hb d_Mo_suitsOther_110 ?_
                      refine j_eqi (y := x20) ex20.symm ?_
                      refine jm_ci (w := (fun _ => S)) hK hP hD hS hA (va_runV (As := [.int x20]) (rest := []) F (m_kindOf l D T h0 ar S x20 H.size (show 0 ≤ x20.toInt ∧ x20.toInt < 1300 by first | omega | (simp only [fx20]; omega)) (show 0 ≤ ((a_kinds S) x20.toInt.toNat).toInt by first | omega | (simp only [fx20]; omega))) (j_cV (k := 1) (C := "PageScribeModel") hts k_7_174 k_1_12 k_7_171 k_7_173 k_0_102 (by decide +kernel) ⟨Nat.le_of_ble_eq_true rfl, Nat.le_of_ble_eq_true rfl⟩) (jm_pre hK hP hD) rfl rfl hl.1 rfl (lv_room (Nat.le_of_ble_eq_true rfl)) d_Mo_suitsOther_111 ⟨Nat.le_of_ble_eq_true rfl, Nat.le_of_ble_eq_true rfl⟩) (fun rv54 u54 H locs hw54 hP hD hS => ?_)
                      have hP : va_P D classes (mW T h0 ar S) H := hP
                      have hD : va_D A (mW T h0 ar S) := hD
                      have qhw54 : rv54.toInt = ((a_kinds S) ((f_size S).toInt - 2).toNat).toInt % 8 := by simpa only [fx20] using hw54
                      refine lv_iload_n hx hb d_Mo_suitsOther_114 rfl (lv_at hl 1 rfl) ?_
                      refine lv_icmp_ne (tgt := 122) hx hb d_Mo_suitsOther_115 (by decide) (fun c115_39 => ?_) (fun c115_39 => ?_)
                      · have fc115_39 : ¬ rv54.toInt = rv45.toInt := zt_ne (show rv54.toInt = _ from rfl) (show rv45.toInt = _ from rfl) c115_39
                        refine lv_iconst (v := 0) hx hb d_Mo_suitsOther_122 (by decide) ?_
                        exact j_zret F hr (by decide +kernel) hlocks hK hS () (show ((0 : Int32).toInt = 1 ∧ othP p0.toInt S) ∨ (0 : Int32).toInt = 0 by have := tI_0; first | (right; omega) | (left; refine ⟨by omega, ?_⟩; unfold othP; refine ⟨fun q => ?_, fun q => ?_, fun q => ?_, fun q => ?_, fun q => ?_⟩ <;> omega)) hP hD d_Mo_suitsOther_123
                      · have fc115_39 : rv54.toInt = rv45.toInt := zt_eq (show rv54.toInt = _ from rfl) (show rv45.toInt = _ from rfl) c115_39
                        refine lv_iconst (v := 1) hx hb d_Mo_suitsOther_118 (by decide) ?_
                        refine lv_goto (tgt := 123) hx hb d_Mo_suitsOther_119 (by decide) ?_
                        exact j_zret F hr (by decide +kernel) hlocks hK hS () (show ((1 : Int32).toInt = 1 ∧ othP p0.toInt S) ∨ (1 : Int32).toInt = 0 by have := tI_1; first | (right; omega) | (left; refine ⟨by omega, ?_⟩; unfold othP; refine ⟨fun q => ?_, fun q => ?_, fun q => ?_, fun q => ?_, fun q => ?_⟩ <;> omega)) hP hD d_Mo_suitsOther_123
                    · have fc100_20 : ¬ rv45.toInt = 2 := zt_ne (show rv45.toInt = _ from rfl) tI_2 c100_20
                      refine lv_iload_n hx hb d_Mo_suitsOther_103 rfl (lv_at hl 1 rfl) ?_
                      refine lv_if_ne (tgt := 122) hx hb d_Mo_suitsOther_104 (by decide) (fun c104_20 => ?_) (fun c104_20 => ?_)
                      · have fc104_20 : ¬ rv45.toInt = 0 := zt_ne (show rv45.toInt = _ from rfl) tI_0 c104_20
                        refine lv_iconst (v := 0) hx hb d_Mo_suitsOther_122 (by decide) ?_
                        exact j_zret F hr (by decide +kernel) hlocks hK hS () (show ((0 : Int32).toInt = 1 ∧ othP p0.toInt S) ∨ (0 : Int32).toInt = 0 by have := tI_0; first | (right; omega) | (left; refine ⟨by omega, ?_⟩; unfold othP; refine ⟨fun q => ?_, fun q => ?_, fun q => ?_, fun q => ?_, fun q => ?_⟩ <;> omega)) hP hD d_Mo_suitsOther_123
                      · have fc104_20 : rv45.toInt = 0 := zt_eq (show rv45.toInt = _ from rfl) tI_0 c104_20
                        refine lv_aload_n hx hb d_Mo_suitsOther_107 rfl (lv_at hl 3 rfl) ?_
                        refine lv_iload_n hx hb d_Mo_suitsOther_108 rfl (lv_at hl 2 rfl) ?_
                        refine lv_iconst (v := 1) hx hb d_Mo_suitsOther_109 (by decide) ?_
                        refine lv_isub hx hb d_Mo_suitsOther_110 ?_
                        refine j_eqi (y := x20) ex20.symm ?_
                        refine jm_ci (w := (fun _ => S)) hK hP hD hS hA (va_runV (As := [.int x20]) (rest := []) F (m_kindOf l D T h0 ar S x20 H.size (show 0 ≤ x20.toInt ∧ x20.toInt < 1300 by first | omega | (simp only [fx20]; omega)) (show 0 ≤ ((a_kinds S) x20.toInt.toNat).toInt by first | omega | (simp only [fx20]; omega))) (j_cV (k := 1) (C := "PageScribeModel") hts k_7_174 k_1_12 k_7_171 k_7_173 k_0_102 (by decide +kernel) ⟨Nat.le_of_ble_eq_true rfl, Nat.le_of_ble_eq_true rfl⟩) (jm_pre hK hP hD) rfl rfl hl.1 rfl (lv_room (Nat.le_of_ble_eq_true rfl)) d_Mo_suitsOther_111 ⟨Nat.le_of_ble_eq_true rfl, Nat.le_of_ble_eq_true rfl⟩) (fun rv55 u55 H locs hw55 hP hD hS => ?_)
                        have hP : va_P D classes (mW T h0 ar S) H := hP
                        have hD : va_D A (mW T h0 ar S) := hD
                        have qhw55 : rv55.toInt = ((a_kinds S) ((f_size S).toInt - 2).toNat).toInt % 8 := by simpa only [fx20] using hw55
                        refine lv_iload_n hx hb d_Mo_suitsOther_114 rfl (lv_at hl 1 rfl) ?_
                        refine lv_icmp_ne (tgt := 122) hx hb d_Mo_suitsOther_115 (by decide) (fun c115_40 => ?_) (fun c115_40 => ?_)
                        · have fc115_40 : ¬ rv55.toInt = rv45.toInt := zt_ne (show rv55.toInt = _ from rfl) (show rv45.toInt = _ from rfl) c115_40
                          refine lv_iconst (v := 0) hx hb d_Mo_suitsOther_122 (by decide) ?_
                          exact j_zret F hr (by decide +kernel) hlocks hK hS () (show ((0 : Int32).toInt = 1 ∧ othP p0.toInt S) ∨ (0 : Int32).toInt = 0 by have := tI_0; first | (right; omega) | (left; refine ⟨by omega, ?_⟩; unfold othP; refine ⟨fun q => ?_, fun q => ?_, fun q => ?_, fun q => ?_, fun q => ?_⟩ <;> omega)) hP hD d_Mo_suitsOther_123
                        · have fc115_40 : rv55.toInt = rv45.toInt := zt_eq (show rv55.toInt = _ from rfl) (show rv45.toInt = _ from rfl) c115_40
                          refine lv_iconst (v := 1) hx hb d_Mo_suitsOther_118 (by decide) ?_
                          refine lv_goto (tgt := 123) hx hb d_Mo_suitsOther_119 (by decide) ?_
                          exact j_zret F hr (by decide +kernel) hlocks hK hS () (show ((1 : Int32).toInt = 1 ∧ othP p0.toInt S) ∨ (1 : Int32).toInt = 0 by have := tI_1; first | (right; omega) | (left; refine ⟨by omega, ?_⟩; unfold othP; refine ⟨fun q => ?_, fun q => ?_, fun q => ?_, fun q => ?_, fun q => ?_⟩ <;> omega)) hP hD d_Mo_suitsOther_123
          · have fc37_2 : p0.toInt = 40 := zt_eq (show p0.toInt = _ from rfl) tI_40 c37_2
            refine lv_iload_n hx hb d_Mo_suitsOther_40 rfl (lv_at hl 0 rfl) ?_
            refine lv_iconst (v := 2) hx hb d_Mo_suitsOther_41 (by decide) ?_
            refine lv_isub hx hb d_Mo_suitsOther_42 ?_
            refine lv_topi (fun x21 ex21 => ?_)
            have fx21 : x21.toInt = ((f_size S).toInt - 3) := by rw [ex21]; exact (zt_sub fx14 tI_2 (by omega) (by omega)).trans (by omega)
            refine lv_goto (tgt := 59) hx hb d_Mo_suitsOther_43 (by decide) ?_
            have kv24 : vOk ((a_kinds S) (((f_size S).toInt - 3).toNat)) ((a_codes S) (((f_size S).toInt - 3).toNat)) ((a_reals S) (((f_size S).toInt - 3).toNat)) := i_vals (((f_size S).toInt - 3).toNat) (by omega)
            have rkv24 := vk_rng kv24
            refine jm_ci (w := (fun _ => S)) hK hP hD hS hA (va_runV (As := [.int x21]) (rest := []) F (m_kindOf l D T h0 ar S x21 s.heap.size (show 0 ≤ x21.toInt ∧ x21.toInt < 1300 by first | omega | (simp only [fx21]; omega)) (show 0 ≤ ((a_kinds S) x21.toInt.toNat).toInt by first | omega | (simp only [fx21]; omega))) (j_cV (k := 1) (C := "PageScribeModel") hts k_7_174 k_1_12 k_7_171 k_7_173 k_0_102 (by decide +kernel) ⟨Nat.le_of_ble_eq_true rfl, Nat.le_of_ble_eq_true rfl⟩) (jm_pre hK hP hD) rfl rfl hl.1 rfl (lv_room (Nat.le_of_ble_eq_true rfl)) d_Mo_suitsOther_59 ⟨Nat.le_of_ble_eq_true rfl, Nat.le_of_ble_eq_true rfl⟩) (fun rv56 u56 H locs hw56 hP hD hS => ?_)
            have hP : va_P D classes (mW T h0 ar S) H := hP
            have hD : va_D A (mW T h0 ar S) := hD
            have qhw56 : rv56.toInt = ((a_kinds S) ((f_size S).toInt - 3).toNat).toInt % 8 := by simpa only [fx21] using hw56
            refine lv_istore_n (lv' := [(3, .int rv56), (2, .int x14), (0, .ref h0), (1, .int p0)]) hx hb d_Mo_suitsOther_62 rfl hl (by decide) rfl (fun ls hl => ?_)
            refine lv_iload_n hx hb d_Mo_suitsOther_63 rfl (lv_at hl 3 rfl) ?_
            refine lv_bipush (v := 40) hx hb d_Mo_suitsOther_64 (by decide) ?_
            refine lv_icmp_ne (tgt := 79) hx hb d_Mo_suitsOther_66 (by decide) (fun c66_6 => ?_) (fun c66_6 => ?_)
            · have fc66_6 : ¬ p0.toInt = 40 := zt_ne (show p0.toInt = _ from rfl) tI_40 c66_6
              refine lv_aload_n hx hb d_Mo_suitsOther_79 rfl (lv_at hl 2 rfl) ?_
              refine lv_iload_n hx hb d_Mo_suitsOther_80 rfl (lv_at hl 1 rfl) ?_
              have kv25 : vOk ((a_kinds S) (((f_size S).toInt - 1).toNat)) ((a_codes S) (((f_size S).toInt - 1).toNat)) ((a_reals S) (((f_size S).toInt - 1).toNat)) := i_vals (((f_size S).toInt - 1).toNat) (by omega)
              have rkv25 := vk_rng kv25
              refine jm_ci (w := (fun _ => S)) hK hP hD hS hA (va_runV (As := [.int x14]) (rest := []) F (m_kindOf l D T h0 ar S x14 H.size (show 0 ≤ x14.toInt ∧ x14.toInt < 1300 by first | omega | (simp only [fx14]; omega)) (show 0 ≤ ((a_kinds S) x14.toInt.toNat).toInt by first | omega | (simp only [fx14]; omega))) (j_cV (k := 1) (C := "PageScribeModel") hts k_7_174 k_1_12 k_7_171 k_7_173 k_0_102 (by decide +kernel) ⟨Nat.le_of_ble_eq_true rfl, Nat.le_of_ble_eq_true rfl⟩) (jm_pre hK hP hD) rfl rfl hl.1 rfl (lv_room (Nat.le_of_ble_eq_true rfl)) d_Mo_suitsOther_81 ⟨Nat.le_of_ble_eq_true rfl, Nat.le_of_ble_eq_true rfl⟩) (fun rv57 u57 H locs hw57 hP hD hS => ?_)
              have hP : va_P D classes (mW T h0 ar S) H := hP
              have hD : va_D A (mW T h0 ar S) := hD
              have qhw57 : rv57.toInt = ((a_kinds S) ((f_size S).toInt - 1).toNat).toInt % 8 := by simpa only [fx14] using hw57
              refine lv_istore (lv' := [(4, .int rv57), (3, .int rv56), (2, .int x14), (0, .ref h0), (1, .int p0)]) hx hb d_Mo_suitsOther_84 hl (by decide) rfl (fun ls hl => ?_)
              refine lv_iload_n hx hb d_Mo_suitsOther_86 rfl (lv_at hl 4 rfl) ?_
              refine lv_bipush (v := 29) hx hb d_Mo_suitsOther_87 (by decide) ?_
              refine lv_icmp_eq (tgt := 98) hx hb d_Mo_suitsOther_89 (by decide) (fun c89_11 => ?_) (fun c89_11 => ?_)
              · have fc89_11 : p0.toInt = 29 := zt_eq (show p0.toInt = _ from rfl) tI_29 c89_11
                refine lv_iload_n hx hb d_Mo_suitsOther_98 rfl (lv_at hl 1 rfl) ?_
                refine lv_iconst (v := 2) hx hb d_Mo_suitsOther_99 (by decide) ?_
                refine lv_icmp_eq (tgt := 107) hx hb d_Mo_suitsOther_100 (by decide) (fun c100_21 => ?_) (fun c100_21 => ?_)
                · have fc100_21 : rv56.toInt = 2 := zt_eq (show rv56.toInt = _ from rfl) tI_2 c100_21
                  refine lv_aload_n hx hb d_Mo_suitsOther_107 rfl (lv_at hl 3 rfl) ?_
                  refine lv_iload_n hx hb d_Mo_suitsOther_108 rfl (lv_at hl 2 rfl) ?_
                  refine lv_iconst (v := 1) hx hb d_Mo_suitsOther_109 (by decide) ?_
                  refine lv_isub hx hb d_Mo_suitsOther_110 ?_
                  refine lv_topi (fun x22 ex22 => ?_)
                  have fx22 : x22.toInt = ((f_size S).toInt - 2) := by rw [ex22]; exact (zt_sub fx14 tI_1 (by omega) (by omega)).trans (by omega)
                  have kv26 : vOk ((a_kinds S) (((f_size S).toInt - 2).toNat)) ((a_codes S) (((f_size S).toInt - 2).toNat)) ((a_reals S) (((f_size S).toInt - 2).toNat)) := i_vals (((f_size S).toInt - 2).toNat) (by omega)
                  have rkv26 := vk_rng kv26
                  refine jm_ci (w := (fun _ => S)) hK hP hD hS hA (va_runV (As := [.int x22]) (rest := []) F (m_kindOf l D T h0 ar S x22 H.size (show 0 ≤ x22.toInt ∧ x22.toInt < 1300 by first | omega | (simp only [fx22]; omega)) (show 0 ≤ ((a_kinds S) x22.toInt.toNat).toInt by first | omega | (simp only [fx22]; omega))) (j_cV (k := 1) (C := "PageScribeModel") hts k_7_174 k_1_12 k_7_171 k_7_173 k_0_102 (by decide +kernel) ⟨Nat.le_of_ble_eq_true rfl, Nat.le_of_ble_eq_true rfl⟩) (jm_pre hK hP hD) rfl rfl hl.1 rfl (lv_room (Nat.le_of_ble_eq_true rfl)) d_Mo_suitsOther_111 ⟨Nat.le_of_ble_eq_true rfl, Nat.le_of_ble_eq_true rfl⟩) (fun rv58 u58 H locs hw58 hP hD hS => ?_)
                  have hP : va_P D classes (mW T h0 ar S) H := hP
                  have hD : va_D A (mW T h0 ar S) := hD
                  have qhw58 : rv58.toInt = ((a_kinds S) ((f_size S).toInt - 2).toNat).toInt % 8 := by simpa only [fx22] using hw58
                  refine lv_iload_n hx hb d_Mo_suitsOther_114 rfl (lv_at hl 1 rfl) ?_
                  refine lv_icmp_ne (tgt := 122) hx hb d_Mo_suitsOther_115 (by decide) (fun c115_41 => ?_) (fun c115_41 => ?_)
                  · have fc115_41 : ¬ rv58.toInt = rv56.toInt := zt_ne (show rv58.toInt = _ from rfl) (show rv56.toInt = _ from rfl) c115_41
                    refine lv_iconst (v := 0) hx hb d_Mo_suitsOther_122 (by decide) ?_
                    exact j_zret F hr (by decide +kernel) hlocks hK hS () (show ((0 : Int32).toInt = 1 ∧ othP p0.toInt S) ∨ (0 : Int32).toInt = 0 by have := tI_0; first | (right; omega) | (left; refine ⟨by omega, ?_⟩; unfold othP; refine ⟨fun q => ?_, fun q => ?_, fun q => ?_, fun q => ?_, fun q => ?_⟩ <;> omega)) hP hD d_Mo_suitsOther_123
                  · have fc115_41 : rv58.toInt = rv56.toInt := zt_eq (show rv58.toInt = _ from rfl) (show rv56.toInt = _ from rfl) c115_41
                    refine lv_iconst (v := 1) hx hb d_Mo_suitsOther_118 (by decide) ?_
                    refine lv_goto (tgt := 123) hx hb d_Mo_suitsOther_119 (by decide) ?_
                    exact j_zret F hr (by decide +kernel) hlocks hK hS () (show ((1 : Int32).toInt = 1 ∧ othP p0.toInt S) ∨ (1 : Int32).toInt = 0 by have := tI_1; first | (right; omega) | (left; refine ⟨by omega, ?_⟩; unfold othP; refine ⟨fun q => ?_, fun q => ?_, fun q => ?_, fun q => ?_, fun q => ?_⟩ <;> omega)) hP hD d_Mo_suitsOther_123
                · have fc100_21 : ¬ rv56.toInt = 2 := zt_ne (show rv56.toInt = _ from rfl) tI_2 c100_21
                  refine lv_iload_n hx hb d_Mo_suitsOther_103 rfl (lv_at hl 1 rfl) ?_
                  refine lv_if_ne (tgt := 122) hx hb d_Mo_suitsOther_104 (by decide) (fun c104_21 => ?_) (fun c104_21 => ?_)
                  · have fc104_21 : ¬ rv56.toInt = 0 := zt_ne (show rv56.toInt = _ from rfl) tI_0 c104_21
                    refine lv_iconst (v := 0) hx hb d_Mo_suitsOther_122 (by decide) ?_
                    exact j_zret F hr (by decide +kernel) hlocks hK hS () (show ((0 : Int32).toInt = 1 ∧ othP p0.toInt S) ∨ (0 : Int32).toInt = 0 by have := tI_0; first | (right; omega) | (left; refine ⟨by omega, ?_⟩; unfold othP; refine ⟨fun q => ?_, fun q => ?_, fun q => ?_, fun q => ?_, fun q => ?_⟩ <;> omega)) hP hD d_Mo_suitsOther_123
                  · have fc104_21 : rv56.toInt = 0 := zt_eq (show rv56.toInt = _ from rfl) tI_0 c104_21
                    refine lv_aload_n hx hb d_Mo_suitsOther_107 rfl (lv_at hl 3 rfl) ?_
                    refine lv_iload_n hx hb d_Mo_suitsOther_108 rfl (lv_at hl 2 rfl) ?_
                    refine lv_iconst (v := 1) hx hb d_Mo_suitsOther_109 (by decide) ?_
                    refine lv_isub hx hb d_Mo_suitsOther_110 ?_
                    refine lv_topi (fun x23 ex23 => ?_)
                    have fx23 : x23.toInt = ((f_size S).toInt - 2) := by rw [ex23]; exact (zt_sub fx14 tI_1 (by omega) (by omega)).trans (by omega)
                    have kv27 : vOk ((a_kinds S) (((f_size S).toInt - 2).toNat)) ((a_codes S) (((f_size S).toInt - 2).toNat)) ((a_reals S) (((f_size S).toInt - 2).toNat)) := i_vals (((f_size S).toInt - 2).toNat) (by omega)
                    have rkv27 := vk_rng kv27
                    refine jm_ci (w := (fun _ => S)) hK hP hD hS hA (va_runV (As := [.int x23]) (rest := []) F (m_kindOf l D T h0 ar S x23 H.size (show 0 ≤ x23.toInt ∧ x23.toInt < 1300 by first | omega | (simp only [fx23]; omega)) (show 0 ≤ ((a_kinds S) x23.toInt.toNat).toInt by first | omega | (simp only [fx23]; omega))) (j_cV (k := 1) (C := "PageScribeModel") hts k_7_174 k_1_12 k_7_171 k_7_173 k_0_102 (by decide +kernel) ⟨Nat.le_of_ble_eq_true rfl, Nat.le_of_ble_eq_true rfl⟩) (jm_pre hK hP hD) rfl rfl hl.1 rfl (lv_room (Nat.le_of_ble_eq_true rfl)) d_Mo_suitsOther_111 ⟨Nat.le_of_ble_eq_true rfl, Nat.le_of_ble_eq_true rfl⟩) (fun rv59 u59 H locs hw59 hP hD hS => ?_)
                    have hP : va_P D classes (mW T h0 ar S) H := hP
                    have hD : va_D A (mW T h0 ar S) := hD
                    have qhw59 : rv59.toInt = ((a_kinds S) ((f_size S).toInt - 2).toNat).toInt % 8 := by simpa only [fx23] using hw59
                    refine lv_iload_n hx hb d_Mo_suitsOther_114 rfl (lv_at hl 1 rfl) ?_
                    refine lv_icmp_ne (tgt := 122) hx hb d_Mo_suitsOther_115 (by decide) (fun c115_42 => ?_) (fun c115_42 => ?_)
                    · have fc115_42 : ¬ rv59.toInt = rv56.toInt := zt_ne (show rv59.toInt = _ from rfl) (show rv56.toInt = _ from rfl) c115_42
                      refine lv_iconst (v := 0) hx hb d_Mo_suitsOther_122 (by decide) ?_
                      exact j_zret F hr (by decide +kernel) hlocks hK hS () (show ((0 : Int32).toInt = 1 ∧ othP p0.toInt S) ∨ (0 : Int32).toInt = 0 by have := tI_0; first | (right; omega) | (left; refine ⟨by omega, ?_⟩; unfold othP; refine ⟨fun q => ?_, fun q => ?_, fun q => ?_, fun q => ?_, fun q => ?_⟩ <;> omega)) hP hD d_Mo_suitsOther_123
                    · have fc115_42 : rv59.toInt = rv56.toInt := zt_eq (show rv59.toInt = _ from rfl) (show rv56.toInt = _ from rfl) c115_42
                      refine lv_iconst (v := 1) hx hb d_Mo_suitsOther_118 (by decide) ?_
                      refine lv_goto (tgt := 123) hx hb d_Mo_suitsOther_119 (by decide) ?_
                      exact j_zret F hr (by decide +kernel) hlocks hK hS () (show ((1 : Int32).toInt = 1 ∧ othP p0.toInt S) ∨ (1 : Int32).toInt = 0 by have := tI_1; first | (right; omega) | (left; refine ⟨by omega, ?_⟩; unfold othP; refine ⟨fun q => ?_, fun q => ?_, fun q => ?_, fun q => ?_, fun q => ?_⟩ <;> omega)) hP hD d_Mo_suitsOther_123
              · have fc89_11 : ¬ p0.toInt = 29 := zt_ne (show p0.toInt = _ from rfl) tI_29 c89_11
                refine lv_iload_n hx hb d_Mo_suitsOther_92 rfl (lv_at hl 4 rfl) ?_
                refine lv_bipush (v := 30) hx hb d_Mo_suitsOther_93 (by decide) ?_
                refine lv_icmp_ne (tgt := 124) hx hb d_Mo_suitsOther_95 (by decide) (fun c95_11 => ?_) (fun c95_11 => ?_)
                · have fc95_11 : ¬ p0.toInt = 30 := zt_ne (show p0.toInt = _ from rfl) tI_30 c95_11
                  refine lv_iload_n hx hb d_Mo_suitsOther_124 rfl (lv_at hl 4 rfl) ?_
                  refine lv_bipush (v := 31) hx hb d_Mo_suitsOther_125 (by decide) ?_
                  refine lv_icmp_ne (tgt := 145) hx hb d_Mo_suitsOther_127 (by decide) (fun c127_11 => ?_) (fun c127_11 => ?_)
                  · have fc127_11 : ¬ p0.toInt = 31 := zt_ne (show p0.toInt = _ from rfl) tI_31 c127_11
                    refine lv_iload_n hx hb d_Mo_suitsOther_145 rfl (lv_at hl 4 rfl) ?_
                    refine lv_bipush (v := 38) hx hb d_Mo_suitsOther_146 (by decide) ?_
                    refine lv_icmp_ne (tgt := 168) hx hb d_Mo_suitsOther_148 (by decide) (fun c148_11 => ?_) (fun c148_11 => ?_)
                    · have fc148_11 : ¬ p0.toInt = 38 := zt_ne (show p0.toInt = _ from rfl) tI_38 c148_11
                      refine lv_iload_n hx hb d_Mo_suitsOther_168 rfl (lv_at hl 1 rfl) ?_
                      refine lv_iconst (v := 5) hx hb d_Mo_suitsOther_169 (by decide) ?_
                      refine lv_icmp_ne (tgt := 178) hx hb d_Mo_suitsOther_170 (by decide) (fun c170_11 => ?_) (fun c170_11 => ?_)
                      · have fc170_11 : ¬ rv56.toInt = 5 := zt_ne (show rv56.toInt = _ from rfl) tI_5 c170_11
                        refine lv_iload_n hx hb d_Mo_suitsOther_178 rfl (lv_at hl 1 rfl) ?_
                        refine lv_bipush (v := 6) hx hb d_Mo_suitsOther_179 (by decide) ?_
                        refine lv_icmp_ne (tgt := 194) hx hb d_Mo_suitsOther_181 (by decide) (fun c181_21 => ?_) (fun c181_21 => ?_)
                        · have fc181_21 : ¬ rv56.toInt = 6 := zt_ne (show rv56.toInt = _ from rfl) tI_6 c181_21
                          refine lv_iconst (v := 0) hx hb d_Mo_suitsOther_194 (by decide) ?_
                          exact j_zret F hr (by decide +kernel) hlocks hK hS () (show ((0 : Int32).toInt = 1 ∧ othP p0.toInt S) ∨ (0 : Int32).toInt = 0 by have := tI_0; first | (right; omega) | (left; refine ⟨by omega, ?_⟩; unfold othP; refine ⟨fun q => ?_, fun q => ?_, fun q => ?_, fun q => ?_, fun q => ?_⟩ <;> omega)) hP hD d_Mo_suitsOther_195
                        · have fc181_21 : rv56.toInt = 6 := zt_eq (show rv56.toInt = _ from rfl) tI_6 c181_21
                          refine lv_iload hx hb d_Mo_suitsOther_184 (lv_at hl 0 rfl) ?_
                          refine lv_iconst (v := 3) hx hb d_Mo_suitsOther_186 (by decide) ?_
                          refine lv_icmp_ne (tgt := 194) hx hb d_Mo_suitsOther_187 (by decide) (fun c187_21 => ?_) (fun c187_21 => ?_)
                          · have fc187_21 : ¬ rv57.toInt = 3 := zt_ne (show rv57.toInt = _ from rfl) tI_3 c187_21
                            refine lv_iconst (v := 0) hx hb d_Mo_suitsOther_194 (by decide) ?_
                            exact j_zret F hr (by decide +kernel) hlocks hK hS () (show ((0 : Int32).toInt = 1 ∧ othP p0.toInt S) ∨ (0 : Int32).toInt = 0 by have := tI_0; first | (right; omega) | (left; refine ⟨by omega, ?_⟩; unfold othP; refine ⟨fun q => ?_, fun q => ?_, fun q => ?_, fun q => ?_, fun q => ?_⟩ <;> omega)) hP hD d_Mo_suitsOther_195
                          · have fc187_21 : rv57.toInt = 3 := zt_eq (show rv57.toInt = _ from rfl) tI_3 c187_21
                            refine lv_iconst (v := 1) hx hb d_Mo_suitsOther_190 (by decide) ?_
                            refine lv_goto (tgt := 195) hx hb d_Mo_suitsOther_191 (by decide) ?_
                            exact j_zret F hr (by decide +kernel) hlocks hK hS () (show ((1 : Int32).toInt = 1 ∧ othP p0.toInt S) ∨ (1 : Int32).toInt = 0 by have := tI_1; first | (right; omega) | (left; refine ⟨by omega, ?_⟩; unfold othP; refine ⟨fun q => ?_, fun q => ?_, fun q => ?_, fun q => ?_, fun q => ?_⟩ <;> omega)) hP hD d_Mo_suitsOther_195
                      · have fc170_11 : rv56.toInt = 5 := zt_eq (show rv56.toInt = _ from rfl) tI_5 c170_11
                        refine lv_iload hx hb d_Mo_suitsOther_173 (lv_at hl 0 rfl) ?_
                        refine lv_if_eq (tgt := 190) hx hb d_Mo_suitsOther_175 (by decide) (fun c175_11 => ?_) (fun c175_11 => ?_)
                        · have fc175_11 : rv57.toInt = 0 := zt_eq (show rv57.toInt = _ from rfl) tI_0 c175_11
                          refine lv_iconst (v := 1) hx hb d_Mo_suitsOther_190 (by decide) ?_
                          refine lv_goto (tgt := 195) hx hb d_Mo_suitsOther_191 (by decide) ?_
                          exact j_zret F hr (by decide +kernel) hlocks hK hS () (show ((1 : Int32).toInt = 1 ∧ othP p0.toInt S) ∨ (1 : Int32).toInt = 0 by have := tI_1; first | (right; omega) | (left; refine ⟨by omega, ?_⟩; unfold othP; refine ⟨fun q => ?_, fun q => ?_, fun q => ?_, fun q => ?_, fun q => ?_⟩ <;> omega)) hP hD d_Mo_suitsOther_195
                        · have fc175_11 : ¬ rv57.toInt = 0 := zt_ne (show rv57.toInt = _ from rfl) tI_0 c175_11
                          refine lv_iload_n hx hb d_Mo_suitsOther_178 rfl (lv_at hl 1 rfl) ?_
                          refine lv_bipush (v := 6) hx hb d_Mo_suitsOther_179 (by decide) ?_
                          refine lv_icmp_ne (tgt := 194) hx hb d_Mo_suitsOther_181 (by decide) (fun c181_22 => ?_) (fun c181_22 => ?_)
                          · have fc181_22 : ¬ rv56.toInt = 6 := zt_ne (show rv56.toInt = _ from rfl) tI_6 c181_22
                            refine lv_iconst (v := 0) hx hb d_Mo_suitsOther_194 (by decide) ?_
                            exact j_zret F hr (by decide +kernel) hlocks hK hS () (show ((0 : Int32).toInt = 1 ∧ othP p0.toInt S) ∨ (0 : Int32).toInt = 0 by have := tI_0; first | (right; omega) | (left; refine ⟨by omega, ?_⟩; unfold othP; refine ⟨fun q => ?_, fun q => ?_, fun q => ?_, fun q => ?_, fun q => ?_⟩ <;> omega)) hP hD d_Mo_suitsOther_195
                          · have fc181_22 : rv56.toInt = 6 := zt_eq (show rv56.toInt = _ from rfl) tI_6 c181_22
                            refine lv_iload hx hb d_Mo_suitsOther_184 (lv_at hl 0 rfl) ?_
                            refine lv_iconst (v := 3) hx hb d_Mo_suitsOther_186 (by decide) ?_
                            refine lv_icmp_ne (tgt := 194) hx hb d_Mo_suitsOther_187 (by decide) (fun c187_22 => ?_) (fun c187_22 => ?_)
                            · have fc187_22 : ¬ rv57.toInt = 3 := zt_ne (show rv57.toInt = _ from rfl) tI_3 c187_22
                              refine lv_iconst (v := 0) hx hb d_Mo_suitsOther_194 (by decide) ?_
                              exact j_zret F hr (by decide +kernel) hlocks hK hS () (show ((0 : Int32).toInt = 1 ∧ othP p0.toInt S) ∨ (0 : Int32).toInt = 0 by have := tI_0; first | (right; omega) | (left; refine ⟨by omega, ?_⟩; unfold othP; refine ⟨fun q => ?_, fun q => ?_, fun q => ?_, fun q => ?_, fun q => ?_⟩ <;> omega)) hP hD d_Mo_suitsOther_195
                            · have fc187_22 : rv57.toInt = 3 := zt_eq (show rv57.toInt = _ from rfl) tI_3 c187_22
                              refine lv_iconst (v := 1) hx hb d_Mo_suitsOther_190 (by decide) ?_
                              refine lv_goto (tgt := 195) hx hb d_Mo_suitsOther_191 (by decide) ?_
                              exact j_zret F hr (by decide +kernel) hlocks hK hS () (show ((1 : Int32).toInt = 1 ∧ othP p0.toInt S) ∨ (1 : Int32).toInt = 0 by have := tI_1; first | (right; omega) | (left; refine ⟨by omega, ?_⟩; unfold othP; refine ⟨fun q => ?_, fun q => ?_, fun q => ?_, fun q => ?_, fun q => ?_⟩ <;> omega)) hP hD d_Mo_suitsOther_195
                    · have fc148_11 : p0.toInt = 38 := zt_eq (show p0.toInt = _ from rfl) tI_38 c148_11
                      refine lv_iload_n hx hb d_Mo_suitsOther_151 rfl (lv_at hl 1 rfl) ?_
                      refine lv_iconst (v := 5) hx hb d_Mo_suitsOther_152 (by decide) ?_
                      refine lv_icmp_eq (tgt := 162) hx hb d_Mo_suitsOther_153 (by decide) (fun c153_11 => ?_) (fun c153_11 => ?_)
                      · have fc153_11 : rv56.toInt = 5 := zt_eq (show rv56.toInt = _ from rfl) tI_5 c153_11
                        refine lv_iconst (v := 1) hx hb d_Mo_suitsOther_162 (by decide) ?_
                        refine lv_goto (tgt := 167) hx hb d_Mo_suitsOther_163 (by decide) ?_
                        exact j_zret F hr (by decide +kernel) hlocks hK hS () (show ((1 : Int32).toInt = 1 ∧ othP p0.toInt S) ∨ (1 : Int32).toInt = 0 by have := tI_1; first | (right; omega) | (left; refine ⟨by omega, ?_⟩; unfold othP; refine ⟨fun q => ?_, fun q => ?_, fun q => ?_, fun q => ?_, fun q => ?_⟩ <;> omega)) hP hD d_Mo_suitsOther_167
                      · have fc153_11 : ¬ rv56.toInt = 5 := zt_ne (show rv56.toInt = _ from rfl) tI_5 c153_11
                        refine lv_iload_n hx hb d_Mo_suitsOther_156 rfl (lv_at hl 1 rfl) ?_
                        refine lv_bipush (v := 6) hx hb d_Mo_suitsOther_157 (by decide) ?_
                        refine lv_icmp_ne (tgt := 166) hx hb d_Mo_suitsOther_159 (by decide) (fun c159_11 => ?_) (fun c159_11 => ?_)
                        · have fc159_11 : ¬ rv56.toInt = 6 := zt_ne (show rv56.toInt = _ from rfl) tI_6 c159_11
                          refine lv_iconst (v := 0) hx hb d_Mo_suitsOther_166 (by decide) ?_
                          exact j_zret F hr (by decide +kernel) hlocks hK hS () (show ((0 : Int32).toInt = 1 ∧ othP p0.toInt S) ∨ (0 : Int32).toInt = 0 by have := tI_0; first | (right; omega) | (left; refine ⟨by omega, ?_⟩; unfold othP; refine ⟨fun q => ?_, fun q => ?_, fun q => ?_, fun q => ?_, fun q => ?_⟩ <;> omega)) hP hD d_Mo_suitsOther_167
                        · have fc159_11 : rv56.toInt = 6 := zt_eq (show rv56.toInt = _ from rfl) tI_6 c159_11
                          refine lv_iconst (v := 1) hx hb d_Mo_suitsOther_162 (by decide) ?_
                          refine lv_goto (tgt := 167) hx hb d_Mo_suitsOther_163 (by decide) ?_
                          exact j_zret F hr (by decide +kernel) hlocks hK hS () (show ((1 : Int32).toInt = 1 ∧ othP p0.toInt S) ∨ (1 : Int32).toInt = 0 by have := tI_1; first | (right; omega) | (left; refine ⟨by omega, ?_⟩; unfold othP; refine ⟨fun q => ?_, fun q => ?_, fun q => ?_, fun q => ?_, fun q => ?_⟩ <;> omega)) hP hD d_Mo_suitsOther_167
                  · have fc127_11 : p0.toInt = 31 := zt_eq (show p0.toInt = _ from rfl) tI_31 c127_11
                    refine lv_iload_n hx hb d_Mo_suitsOther_130 rfl (lv_at hl 1 rfl) ?_
                    refine lv_iconst (v := 2) hx hb d_Mo_suitsOther_131 (by decide) ?_
                    refine lv_icmp_eq (tgt := 139) hx hb d_Mo_suitsOther_132 (by decide) (fun c132_11 => ?_) (fun c132_11 => ?_)
                    · have fc132_11 : rv56.toInt = 2 := zt_eq (show rv56.toInt = _ from rfl) tI_2 c132_11
                      refine lv_iconst (v := 1) hx hb d_Mo_suitsOther_139 (by decide) ?_
                      refine lv_goto (tgt := 144) hx hb d_Mo_suitsOther_140 (by decide) ?_
                      exact j_zret F hr (by decide +kernel) hlocks hK hS () (show ((1 : Int32).toInt = 1 ∧ othP p0.toInt S) ∨ (1 : Int32).toInt = 0 by have := tI_1; first | (right; omega) | (left; refine ⟨by omega, ?_⟩; unfold othP; refine ⟨fun q => ?_, fun q => ?_, fun q => ?_, fun q => ?_, fun q => ?_⟩ <;> omega)) hP hD d_Mo_suitsOther_144
                    · have fc132_11 : ¬ rv56.toInt = 2 := zt_ne (show rv56.toInt = _ from rfl) tI_2 c132_11
                      refine lv_iload_n hx hb d_Mo_suitsOther_135 rfl (lv_at hl 1 rfl) ?_
                      refine lv_if_ne (tgt := 143) hx hb d_Mo_suitsOther_136 (by decide) (fun c136_11 => ?_) (fun c136_11 => ?_)
                      · have fc136_11 : ¬ rv56.toInt = 0 := zt_ne (show rv56.toInt = _ from rfl) tI_0 c136_11
                        refine lv_iconst (v := 0) hx hb d_Mo_suitsOther_143 (by decide) ?_
                        exact j_zret F hr (by decide +kernel) hlocks hK hS () (show ((0 : Int32).toInt = 1 ∧ othP p0.toInt S) ∨ (0 : Int32).toInt = 0 by have := tI_0; first | (right; omega) | (left; refine ⟨by omega, ?_⟩; unfold othP; refine ⟨fun q => ?_, fun q => ?_, fun q => ?_, fun q => ?_, fun q => ?_⟩ <;> omega)) hP hD d_Mo_suitsOther_144
                      · have fc136_11 : rv56.toInt = 0 := zt_eq (show rv56.toInt = _ from rfl) tI_0 c136_11
                        refine lv_iconst (v := 1) hx hb d_Mo_suitsOther_139 (by decide) ?_
                        refine lv_goto (tgt := 144) hx hb d_Mo_suitsOther_140 (by decide) ?_
                        exact j_zret F hr (by decide +kernel) hlocks hK hS () (show ((1 : Int32).toInt = 1 ∧ othP p0.toInt S) ∨ (1 : Int32).toInt = 0 by have := tI_1; first | (right; omega) | (left; refine ⟨by omega, ?_⟩; unfold othP; refine ⟨fun q => ?_, fun q => ?_, fun q => ?_, fun q => ?_, fun q => ?_⟩ <;> omega)) hP hD d_Mo_suitsOther_144
                · have fc95_11 : p0.toInt = 30 := zt_eq (show p0.toInt = _ from rfl) tI_30 c95_11
                  refine lv_iload_n hx hb d_Mo_suitsOther_98 rfl (lv_at hl 1 rfl) ?_
                  refine lv_iconst (v := 2) hx hb d_Mo_suitsOther_99 (by decide) ?_
                  refine lv_icmp_eq (tgt := 107) hx hb d_Mo_suitsOther_100 (by decide) (fun c100_22 => ?_) (fun c100_22 => ?_)
                  · have fc100_22 : rv56.toInt = 2 := zt_eq (show rv56.toInt = _ from rfl) tI_2 c100_22
                    refine lv_aload_n hx hb d_Mo_suitsOther_107 rfl (lv_at hl 3 rfl) ?_
                    refine lv_iload_n hx hb d_Mo_suitsOther_108 rfl (lv_at hl 2 rfl) ?_
                    refine lv_iconst (v := 1) hx hb d_Mo_suitsOther_109 (by decide) ?_
                    refine lv_isub hx hb d_Mo_suitsOther_110 ?_
                    refine lv_topi (fun x24 ex24 => ?_)
                    have fx24 : x24.toInt = ((f_size S).toInt - 2) := by rw [ex24]; exact (zt_sub fx14 tI_1 (by omega) (by omega)).trans (by omega)
                    have kv28 : vOk ((a_kinds S) (((f_size S).toInt - 2).toNat)) ((a_codes S) (((f_size S).toInt - 2).toNat)) ((a_reals S) (((f_size S).toInt - 2).toNat)) := i_vals (((f_size S).toInt - 2).toNat) (by omega)
                    have rkv28 := vk_rng kv28
                    refine jm_ci (w := (fun _ => S)) hK hP hD hS hA (va_runV (As := [.int x24]) (rest := []) F (m_kindOf l D T h0 ar S x24 H.size (show 0 ≤ x24.toInt ∧ x24.toInt < 1300 by first | omega | (simp only [fx24]; omega)) (show 0 ≤ ((a_kinds S) x24.toInt.toNat).toInt by first | omega | (simp only [fx24]; omega))) (j_cV (k := 1) (C := "PageScribeModel") hts k_7_174 k_1_12 k_7_171 k_7_173 k_0_102 (by decide +kernel) ⟨Nat.le_of_ble_eq_true rfl, Nat.le_of_ble_eq_true rfl⟩) (jm_pre hK hP hD) rfl rfl hl.1 rfl (lv_room (Nat.le_of_ble_eq_true rfl)) d_Mo_suitsOther_111 ⟨Nat.le_of_ble_eq_true rfl, Nat.le_of_ble_eq_true rfl⟩) (fun rv60 u60 H locs hw60 hP hD hS => ?_)
                    have hP : va_P D classes (mW T h0 ar S) H := hP
                    have hD : va_D A (mW T h0 ar S) := hD
                    have qhw60 : rv60.toInt = ((a_kinds S) ((f_size S).toInt - 2).toNat).toInt % 8 := by simpa only [fx24] using hw60
                    refine lv_iload_n hx hb d_Mo_suitsOther_114 rfl (lv_at hl 1 rfl) ?_
                    refine lv_icmp_ne (tgt := 122) hx hb d_Mo_suitsOther_115 (by decide) (fun c115_43 => ?_) (fun c115_43 => ?_)
                    · have fc115_43 : ¬ rv60.toInt = rv56.toInt := zt_ne (show rv60.toInt = _ from rfl) (show rv56.toInt = _ from rfl) c115_43
                      refine lv_iconst (v := 0) hx hb d_Mo_suitsOther_122 (by decide) ?_
                      exact j_zret F hr (by decide +kernel) hlocks hK hS () (show ((0 : Int32).toInt = 1 ∧ othP p0.toInt S) ∨ (0 : Int32).toInt = 0 by have := tI_0; first | (right; omega) | (left; refine ⟨by omega, ?_⟩; unfold othP; refine ⟨fun q => ?_, fun q => ?_, fun q => ?_, fun q => ?_, fun q => ?_⟩ <;> omega)) hP hD d_Mo_suitsOther_123
                    · have fc115_43 : rv60.toInt = rv56.toInt := zt_eq (show rv60.toInt = _ from rfl) (show rv56.toInt = _ from rfl) c115_43
                      refine lv_iconst (v := 1) hx hb d_Mo_suitsOther_118 (by decide) ?_
                      refine lv_goto (tgt := 123) hx hb d_Mo_suitsOther_119 (by decide) ?_
                      exact j_zret F hr (by decide +kernel) hlocks hK hS () (show ((1 : Int32).toInt = 1 ∧ othP p0.toInt S) ∨ (1 : Int32).toInt = 0 by have := tI_1; first | (right; omega) | (left; refine ⟨by omega, ?_⟩; unfold othP; refine ⟨fun q => ?_, fun q => ?_, fun q => ?_, fun q => ?_, fun q => ?_⟩ <;> omega)) hP hD d_Mo_suitsOther_123
                  · have fc100_22 : ¬ rv56.toInt = 2 := zt_ne (show rv56.toInt = _ from rfl) tI_2 c100_22
                    refine lv_iload_n hx hb d_Mo_suitsOther_103 rfl (lv_at hl 1 rfl) ?_
                    refine lv_if_ne (tgt := 122) hx hb d_Mo_suitsOther_104 (by decide) (fun c104_22 => ?_) (fun c104_22 => ?_)
                    · have fc104_22 : ¬ rv56.toInt = 0 := zt_ne (show rv56.toInt = _ from rfl) tI_0 c104_22
                      refine lv_iconst (v := 0) hx hb d_Mo_suitsOther_122 (by decide) ?_
                      exact j_zret F hr (by decide +kernel) hlocks hK hS () (show ((0 : Int32).toInt = 1 ∧ othP p0.toInt S) ∨ (0 : Int32).toInt = 0 by have := tI_0; first | (right; omega) | (left; refine ⟨by omega, ?_⟩; unfold othP; refine ⟨fun q => ?_, fun q => ?_, fun q => ?_, fun q => ?_, fun q => ?_⟩ <;> omega)) hP hD d_Mo_suitsOther_123
                    · have fc104_22 : rv56.toInt = 0 := zt_eq (show rv56.toInt = _ from rfl) tI_0 c104_22
                      refine lv_aload_n hx hb d_Mo_suitsOther_107 rfl (lv_at hl 3 rfl) ?_
                      refine lv_iload_n hx hb d_Mo_suitsOther_108 rfl (lv_at hl 2 rfl) ?_
                      refine lv_iconst (v := 1) hx hb d_Mo_suitsOther_109 (by decide) ?_
                      refine lv_isub hx hb d_Mo_suitsOther_110 ?_
                      refine lv_topi (fun x25 ex25 => ?_)
                      have fx25 : x25.toInt = ((f_size S).toInt - 2) := by rw [ex25]; exact (zt_sub fx14 tI_1 (by omega) (by omega)).trans (by omega)
                      have kv29 : vOk ((a_kinds S) (((f_size S).toInt - 2).toNat)) ((a_codes S) (((f_size S).toInt - 2).toNat)) ((a_reals S) (((f_size S).toInt - 2).toNat)) := i_vals (((f_size S).toInt - 2).toNat) (by omega)
                      have rkv29 := vk_rng kv29
                      refine jm_ci (w := (fun _ => S)) hK hP hD hS hA (va_runV (As := [.int x25]) (rest := []) F (m_kindOf l D T h0 ar S x25 H.size (show 0 ≤ x25.toInt ∧ x25.toInt < 1300 by first | omega | (simp only [fx25]; omega)) (show 0 ≤ ((a_kinds S) x25.toInt.toNat).toInt by first | omega | (simp only [fx25]; omega))) (j_cV (k := 1) (C := "PageScribeModel") hts k_7_174 k_1_12 k_7_171 k_7_173 k_0_102 (by decide +kernel) ⟨Nat.le_of_ble_eq_true rfl, Nat.le_of_ble_eq_true rfl⟩) (jm_pre hK hP hD) rfl rfl hl.1 rfl (lv_room (Nat.le_of_ble_eq_true rfl)) d_Mo_suitsOther_111 ⟨Nat.le_of_ble_eq_true rfl, Nat.le_of_ble_eq_true rfl⟩) (fun rv61 u61 H locs hw61 hP hD hS => ?_)
                      have hP : va_P D classes (mW T h0 ar S) H := hP
                      have hD : va_D A (mW T h0 ar S) := hD
                      have qhw61 : rv61.toInt = ((a_kinds S) ((f_size S).toInt - 2).toNat).toInt % 8 := by simpa only [fx25] using hw61
                      refine lv_iload_n hx hb d_Mo_suitsOther_114 rfl (lv_at hl 1 rfl) ?_
                      refine lv_icmp_ne (tgt := 122) hx hb d_Mo_suitsOther_115 (by decide) (fun c115_44 => ?_) (fun c115_44 => ?_)
                      · have fc115_44 : ¬ rv61.toInt = rv56.toInt := zt_ne (show rv61.toInt = _ from rfl) (show rv56.toInt = _ from rfl) c115_44
                        refine lv_iconst (v := 0) hx hb d_Mo_suitsOther_122 (by decide) ?_
                        exact j_zret F hr (by decide +kernel) hlocks hK hS () (show ((0 : Int32).toInt = 1 ∧ othP p0.toInt S) ∨ (0 : Int32).toInt = 0 by have := tI_0; first | (right; omega) | (left; refine ⟨by omega, ?_⟩; unfold othP; refine ⟨fun q => ?_, fun q => ?_, fun q => ?_, fun q => ?_, fun q => ?_⟩ <;> omega)) hP hD d_Mo_suitsOther_123
                      · have fc115_44 : rv61.toInt = rv56.toInt := zt_eq (show rv61.toInt = _ from rfl) (show rv56.toInt = _ from rfl) c115_44
                        refine lv_iconst (v := 1) hx hb d_Mo_suitsOther_118 (by decide) ?_
                        refine lv_goto (tgt := 123) hx hb d_Mo_suitsOther_119 (by decide) ?_
                        exact j_zret F hr (by decide +kernel) hlocks hK hS () (show ((1 : Int32).toInt = 1 ∧ othP p0.toInt S) ∨ (1 : Int32).toInt = 0 by have := tI_1; first | (right; omega) | (left; refine ⟨by omega, ?_⟩; unfold othP; refine ⟨fun q => ?_, fun q => ?_, fun q => ?_, fun q => ?_, fun q => ?_⟩ <;> omega)) hP hD d_Mo_suitsOther_123
            · have fc66_6 : p0.toInt = 40 := zt_eq (show p0.toInt = _ from rfl) tI_40 c66_6
              refine lv_aload_n hx hb d_Mo_suitsOther_69 rfl (lv_at hl 2 rfl) ?_
              refine lv_iload_n hx hb d_Mo_suitsOther_70 rfl (lv_at hl 1 rfl) ?_
              refine lv_iconst (v := 1) hx hb d_Mo_suitsOther_71 (by decide) ?_
              refine lv_isub hx hb d_Mo_suitsOther_72 ?_
              refine lv_topi (fun x26 ex26 => ?_)
              have fx26 : x26.toInt = ((f_size S).toInt - 2) := by rw [ex26]; exact (zt_sub fx14 tI_1 (by omega) (by omega)).trans (by omega)
              have kv30 : vOk ((a_kinds S) (((f_size S).toInt - 2).toNat)) ((a_codes S) (((f_size S).toInt - 2).toNat)) ((a_reals S) (((f_size S).toInt - 2).toNat)) := i_vals (((f_size S).toInt - 2).toNat) (by omega)
              have rkv30 := vk_rng kv30
              refine jm_ci (w := (fun _ => S)) hK hP hD hS hA (va_runV (As := [.int x26]) (rest := []) F (m_kindOf l D T h0 ar S x26 H.size (show 0 ≤ x26.toInt ∧ x26.toInt < 1300 by first | omega | (simp only [fx26]; omega)) (show 0 ≤ ((a_kinds S) x26.toInt.toNat).toInt by first | omega | (simp only [fx26]; omega))) (j_cV (k := 1) (C := "PageScribeModel") hts k_7_174 k_1_12 k_7_171 k_7_173 k_0_102 (by decide +kernel) ⟨Nat.le_of_ble_eq_true rfl, Nat.le_of_ble_eq_true rfl⟩) (jm_pre hK hP hD) rfl rfl hl.1 rfl (lv_room (Nat.le_of_ble_eq_true rfl)) d_Mo_suitsOther_73 ⟨Nat.le_of_ble_eq_true rfl, Nat.le_of_ble_eq_true rfl⟩) (fun rv62 u62 H locs hw62 hP hD hS => ?_)
              have hP : va_P D classes (mW T h0 ar S) H := hP
              have hD : va_D A (mW T h0 ar S) := hD
              have qhw62 : rv62.toInt = ((a_kinds S) ((f_size S).toInt - 2).toNat).toInt % 8 := by simpa only [fx26] using hw62
              refine lv_goto (tgt := 84) hx hb d_Mo_suitsOther_76 (by decide) ?_
              refine lv_istore (lv' := [(4, .int rv62), (3, .int rv56), (2, .int x14), (0, .ref h0), (1, .int p0)]) hx hb d_Mo_suitsOther_84 hl (by decide) rfl (fun ls hl => ?_)
              refine lv_iload_n hx hb d_Mo_suitsOther_86 rfl (lv_at hl 4 rfl) ?_
              refine lv_bipush (v := 29) hx hb d_Mo_suitsOther_87 (by decide) ?_
              refine lv_icmp_eq (tgt := 98) hx hb d_Mo_suitsOther_89 (by decide) (fun c89_12 => ?_) (fun c89_12 => ?_)
              · have fc89_12 : p0.toInt = 29 := zt_eq (show p0.toInt = _ from rfl) tI_29 c89_12
                refine lv_iload_n hx hb d_Mo_suitsOther_98 rfl (lv_at hl 1 rfl) ?_
                refine lv_iconst (v := 2) hx hb d_Mo_suitsOther_99 (by decide) ?_
                refine lv_icmp_eq (tgt := 107) hx hb d_Mo_suitsOther_100 (by decide) (fun c100_23 => ?_) (fun c100_23 => ?_)
                · have fc100_23 : rv56.toInt = 2 := zt_eq (show rv56.toInt = _ from rfl) tI_2 c100_23
                  refine lv_aload_n hx hb d_Mo_suitsOther_107 rfl (lv_at hl 3 rfl) ?_
                  refine lv_iload_n hx hb d_Mo_suitsOther_108 rfl (lv_at hl 2 rfl) ?_
                  refine lv_iconst (v := 1) hx hb d_Mo_suitsOther_109 (by decide) ?_
                  refine lv_isub hx hb d_Mo_suitsOther_110 ?_
                  refine j_eqi (y := x26) ex26.symm ?_
                  refine jm_ci (w := (fun _ => S)) hK hP hD hS hA (va_runV (As := [.int x26]) (rest := []) F (m_kindOf l D T h0 ar S x26 H.size (show 0 ≤ x26.toInt ∧ x26.toInt < 1300 by first | omega | (simp only [fx26]; omega)) (show 0 ≤ ((a_kinds S) x26.toInt.toNat).toInt by first | omega | (simp only [fx26]; omega))) (j_cV (k := 1) (C := "PageScribeModel") hts k_7_174 k_1_12 k_7_171 k_7_173 k_0_102 (by decide +kernel) ⟨Nat.le_of_ble_eq_true rfl, Nat.le_of_ble_eq_true rfl⟩) (jm_pre hK hP hD) rfl rfl hl.1 rfl (lv_room (Nat.le_of_ble_eq_true rfl)) d_Mo_suitsOther_111 ⟨Nat.le_of_ble_eq_true rfl, Nat.le_of_ble_eq_true rfl⟩) (fun rv63 u63 H locs hw63 hP hD hS => ?_)
                  have hP : va_P D classes (mW T h0 ar S) H := hP
                  have hD : va_D A (mW T h0 ar S) := hD
                  have qhw63 : rv63.toInt = ((a_kinds S) ((f_size S).toInt - 2).toNat).toInt % 8 := by simpa only [fx26] using hw63
                  refine lv_iload_n hx hb d_Mo_suitsOther_114 rfl (lv_at hl 1 rfl) ?_
                  refine lv_icmp_ne (tgt := 122) hx hb d_Mo_suitsOther_115 (by decide) (fun c115_45 => ?_) (fun c115_45 => ?_)
                  · have fc115_45 : ¬ rv63.toInt = rv56.toInt := zt_ne (show rv63.toInt = _ from rfl) (show rv56.toInt = _ from rfl) c115_45
                    refine lv_iconst (v := 0) hx hb d_Mo_suitsOther_122 (by decide) ?_
                    exact j_zret F hr (by decide +kernel) hlocks hK hS () (show ((0 : Int32).toInt = 1 ∧ othP p0.toInt S) ∨ (0 : Int32).toInt = 0 by have := tI_0; first | (right; omega) | (left; refine ⟨by omega, ?_⟩; unfold othP; refine ⟨fun q => ?_, fun q => ?_, fun q => ?_, fun q => ?_, fun q => ?_⟩ <;> omega)) hP hD d_Mo_suitsOther_123
                  · have fc115_45 : rv63.toInt = rv56.toInt := zt_eq (show rv63.toInt = _ from rfl) (show rv56.toInt = _ from rfl) c115_45
                    refine lv_iconst (v := 1) hx hb d_Mo_suitsOther_118 (by decide) ?_
                    refine lv_goto (tgt := 123) hx hb d_Mo_suitsOther_119 (by decide) ?_
                    exact j_zret F hr (by decide +kernel) hlocks hK hS () (show ((1 : Int32).toInt = 1 ∧ othP p0.toInt S) ∨ (1 : Int32).toInt = 0 by have := tI_1; first | (right; omega) | (left; refine ⟨by omega, ?_⟩; unfold othP; refine ⟨fun q => ?_, fun q => ?_, fun q => ?_, fun q => ?_, fun q => ?_⟩ <;> omega)) hP hD d_Mo_suitsOther_123
                · have fc100_23 : ¬ rv56.toInt = 2 := zt_ne (show rv56.toInt = _ from rfl) tI_2 c100_23
                  refine lv_iload_n hx hb d_Mo_suitsOther_103 rfl (lv_at hl 1 rfl) ?_
                  refine lv_if_ne (tgt := 122) hx hb d_Mo_suitsOther_104 (by decide) (fun c104_23 => ?_) (fun c104_23 => ?_)
                  · have fc104_23 : ¬ rv56.toInt = 0 := zt_ne (show rv56.toInt = _ from rfl) tI_0 c104_23
                    refine lv_iconst (v := 0) hx hb d_Mo_suitsOther_122 (by decide) ?_
                    exact j_zret F hr (by decide +kernel) hlocks hK hS () (show ((0 : Int32).toInt = 1 ∧ othP p0.toInt S) ∨ (0 : Int32).toInt = 0 by have := tI_0; first | (right; omega) | (left; refine ⟨by omega, ?_⟩; unfold othP; refine ⟨fun q => ?_, fun q => ?_, fun q => ?_, fun q => ?_, fun q => ?_⟩ <;> omega)) hP hD d_Mo_suitsOther_123
                  · have fc104_23 : rv56.toInt = 0 := zt_eq (show rv56.toInt = _ from rfl) tI_0 c104_23
                    refine lv_aload_n hx hb d_Mo_suitsOther_107 rfl (lv_at hl 3 rfl) ?_
                    refine lv_iload_n hx hb d_Mo_suitsOther_108 rfl (lv_at hl 2 rfl) ?_
                    refine lv_iconst (v := 1) hx hb d_Mo_suitsOther_109 (by decide) ?_
                    refine lv_isub hx hb d_Mo_suitsOther_110 ?_
                    refine j_eqi (y := x26) ex26.symm ?_
                    refine jm_ci (w := (fun _ => S)) hK hP hD hS hA (va_runV (As := [.int x26]) (rest := []) F (m_kindOf l D T h0 ar S x26 H.size (show 0 ≤ x26.toInt ∧ x26.toInt < 1300 by first | omega | (simp only [fx26]; omega)) (show 0 ≤ ((a_kinds S) x26.toInt.toNat).toInt by first | omega | (simp only [fx26]; omega))) (j_cV (k := 1) (C := "PageScribeModel") hts k_7_174 k_1_12 k_7_171 k_7_173 k_0_102 (by decide +kernel) ⟨Nat.le_of_ble_eq_true rfl, Nat.le_of_ble_eq_true rfl⟩) (jm_pre hK hP hD) rfl rfl hl.1 rfl (lv_room (Nat.le_of_ble_eq_true rfl)) d_Mo_suitsOther_111 ⟨Nat.le_of_ble_eq_true rfl, Nat.le_of_ble_eq_true rfl⟩) (fun rv64 u64 H locs hw64 hP hD hS => ?_)
                    have hP : va_P D classes (mW T h0 ar S) H := hP
                    have hD : va_D A (mW T h0 ar S) := hD
                    have qhw64 : rv64.toInt = ((a_kinds S) ((f_size S).toInt - 2).toNat).toInt % 8 := by simpa only [fx26] using hw64
                    refine lv_iload_n hx hb d_Mo_suitsOther_114 rfl (lv_at hl 1 rfl) ?_
                    refine lv_icmp_ne (tgt := 122) hx hb d_Mo_suitsOther_115 (by decide) (fun c115_46 => ?_) (fun c115_46 => ?_)
                    · have fc115_46 : ¬ rv64.toInt = rv56.toInt := zt_ne (show rv64.toInt = _ from rfl) (show rv56.toInt = _ from rfl) c115_46
                      refine lv_iconst (v := 0) hx hb d_Mo_suitsOther_122 (by decide) ?_
                      exact j_zret F hr (by decide +kernel) hlocks hK hS () (show ((0 : Int32).toInt = 1 ∧ othP p0.toInt S) ∨ (0 : Int32).toInt = 0 by have := tI_0; first | (right; omega) | (left; refine ⟨by omega, ?_⟩; unfold othP; refine ⟨fun q => ?_, fun q => ?_, fun q => ?_, fun q => ?_, fun q => ?_⟩ <;> omega)) hP hD d_Mo_suitsOther_123
                    · have fc115_46 : rv64.toInt = rv56.toInt := zt_eq (show rv64.toInt = _ from rfl) (show rv56.toInt = _ from rfl) c115_46
                      refine lv_iconst (v := 1) hx hb d_Mo_suitsOther_118 (by decide) ?_
                      refine lv_goto (tgt := 123) hx hb d_Mo_suitsOther_119 (by decide) ?_
                      exact j_zret F hr (by decide +kernel) hlocks hK hS () (show ((1 : Int32).toInt = 1 ∧ othP p0.toInt S) ∨ (1 : Int32).toInt = 0 by have := tI_1; first | (right; omega) | (left; refine ⟨by omega, ?_⟩; unfold othP; refine ⟨fun q => ?_, fun q => ?_, fun q => ?_, fun q => ?_, fun q => ?_⟩ <;> omega)) hP hD d_Mo_suitsOther_123
              · have fc89_12 : ¬ p0.toInt = 29 := zt_ne (show p0.toInt = _ from rfl) tI_29 c89_12
                refine lv_iload_n hx hb d_Mo_suitsOther_92 rfl (lv_at hl 4 rfl) ?_
                refine lv_bipush (v := 30) hx hb d_Mo_suitsOther_93 (by decide) ?_
                refine lv_icmp_ne (tgt := 124) hx hb d_Mo_suitsOther_95 (by decide) (fun c95_12 => ?_) (fun c95_12 => ?_)
                · have fc95_12 : ¬ p0.toInt = 30 := zt_ne (show p0.toInt = _ from rfl) tI_30 c95_12
                  refine lv_iload_n hx hb d_Mo_suitsOther_124 rfl (lv_at hl 4 rfl) ?_
                  refine lv_bipush (v := 31) hx hb d_Mo_suitsOther_125 (by decide) ?_
                  refine lv_icmp_ne (tgt := 145) hx hb d_Mo_suitsOther_127 (by decide) (fun c127_12 => ?_) (fun c127_12 => ?_)
                  · have fc127_12 : ¬ p0.toInt = 31 := zt_ne (show p0.toInt = _ from rfl) tI_31 c127_12
                    refine lv_iload_n hx hb d_Mo_suitsOther_145 rfl (lv_at hl 4 rfl) ?_
                    refine lv_bipush (v := 38) hx hb d_Mo_suitsOther_146 (by decide) ?_
                    refine lv_icmp_ne (tgt := 168) hx hb d_Mo_suitsOther_148 (by decide) (fun c148_12 => ?_) (fun c148_12 => ?_)
                    · have fc148_12 : ¬ p0.toInt = 38 := zt_ne (show p0.toInt = _ from rfl) tI_38 c148_12
                      refine lv_iload_n hx hb d_Mo_suitsOther_168 rfl (lv_at hl 1 rfl) ?_
                      refine lv_iconst (v := 5) hx hb d_Mo_suitsOther_169 (by decide) ?_
                      refine lv_icmp_ne (tgt := 178) hx hb d_Mo_suitsOther_170 (by decide) (fun c170_12 => ?_) (fun c170_12 => ?_)
                      · have fc170_12 : ¬ rv56.toInt = 5 := zt_ne (show rv56.toInt = _ from rfl) tI_5 c170_12
                        refine lv_iload_n hx hb d_Mo_suitsOther_178 rfl (lv_at hl 1 rfl) ?_
                        refine lv_bipush (v := 6) hx hb d_Mo_suitsOther_179 (by decide) ?_
                        refine lv_icmp_ne (tgt := 194) hx hb d_Mo_suitsOther_181 (by decide) (fun c181_23 => ?_) (fun c181_23 => ?_)
                        · have fc181_23 : ¬ rv56.toInt = 6 := zt_ne (show rv56.toInt = _ from rfl) tI_6 c181_23
                          refine lv_iconst (v := 0) hx hb d_Mo_suitsOther_194 (by decide) ?_
                          exact j_zret F hr (by decide +kernel) hlocks hK hS () (show ((0 : Int32).toInt = 1 ∧ othP p0.toInt S) ∨ (0 : Int32).toInt = 0 by have := tI_0; first | (right; omega) | (left; refine ⟨by omega, ?_⟩; unfold othP; refine ⟨fun q => ?_, fun q => ?_, fun q => ?_, fun q => ?_, fun q => ?_⟩ <;> omega)) hP hD d_Mo_suitsOther_195
                        · have fc181_23 : rv56.toInt = 6 := zt_eq (show rv56.toInt = _ from rfl) tI_6 c181_23
                          refine lv_iload hx hb d_Mo_suitsOther_184 (lv_at hl 0 rfl) ?_
                          refine lv_iconst (v := 3) hx hb d_Mo_suitsOther_186 (by decide) ?_
                          refine lv_icmp_ne (tgt := 194) hx hb d_Mo_suitsOther_187 (by decide) (fun c187_23 => ?_) (fun c187_23 => ?_)
                          · have fc187_23 : ¬ rv62.toInt = 3 := zt_ne (show rv62.toInt = _ from rfl) tI_3 c187_23
                            refine lv_iconst (v := 0) hx hb d_Mo_suitsOther_194 (by decide) ?_
                            exact j_zret F hr (by decide +kernel) hlocks hK hS () (show ((0 : Int32).toInt = 1 ∧ othP p0.toInt S) ∨ (0 : Int32).toInt = 0 by have := tI_0; first | (right; omega) | (left; refine ⟨by omega, ?_⟩; unfold othP; refine ⟨fun q => ?_, fun q => ?_, fun q => ?_, fun q => ?_, fun q => ?_⟩ <;> omega)) hP hD d_Mo_suitsOther_195
                          · have fc187_23 : rv62.toInt = 3 := zt_eq (show rv62.toInt = _ from rfl) tI_3 c187_23
                            refine lv_iconst (v := 1) hx hb d_Mo_suitsOther_190 (by decide) ?_
                            refine lv_goto (tgt := 195) hx hb d_Mo_suitsOther_191 (by decide) ?_
                            exact j_zret F hr (by decide +kernel) hlocks hK hS () (show ((1 : Int32).toInt = 1 ∧ othP p0.toInt S) ∨ (1 : Int32).toInt = 0 by have := tI_1; first | (right; omega) | (left; refine ⟨by omega, ?_⟩; unfold othP; refine ⟨fun q => ?_, fun q => ?_, fun q => ?_, fun q => ?_, fun q => ?_⟩ <;> omega)) hP hD d_Mo_suitsOther_195
                      · have fc170_12 : rv56.toInt = 5 := zt_eq (show rv56.toInt = _ from rfl) tI_5 c170_12
                        refine lv_iload hx hb d_Mo_suitsOther_173 (lv_at hl 0 rfl) ?_
                        refine lv_if_eq (tgt := 190) hx hb d_Mo_suitsOther_175 (by decide) (fun c175_12 => ?_) (fun c175_12 => ?_)
                        · have fc175_12 : rv62.toInt = 0 := zt_eq (show rv62.toInt = _ from rfl) tI_0 c175_12
                          refine lv_iconst (v := 1) hx hb d_Mo_suitsOther_190 (by decide) ?_
                          refine lv_goto (tgt := 195) hx hb d_Mo_suitsOther_191 (by decide) ?_
                          exact j_zret F hr (by decide +kernel) hlocks hK hS () (show ((1 : Int32).toInt = 1 ∧ othP p0.toInt S) ∨ (1 : Int32).toInt = 0 by have := tI_1; first | (right; omega) | (left; refine ⟨by omega, ?_⟩; unfold othP; refine ⟨fun q => ?_, fun q => ?_, fun q => ?_, fun q => ?_, fun q => ?_⟩ <;> omega)) hP hD d_Mo_suitsOther_195
                        · have fc175_12 : ¬ rv62.toInt = 0 := zt_ne (show rv62.toInt = _ from rfl) tI_0 c175_12
                          refine lv_iload_n hx hb d_Mo_suitsOther_178 rfl (lv_at hl 1 rfl) ?_
                          refine lv_bipush (v := 6) hx hb d_Mo_suitsOther_179 (by decide) ?_
                          refine lv_icmp_ne (tgt := 194) hx hb d_Mo_suitsOther_181 (by decide) (fun c181_24 => ?_) (fun c181_24 => ?_)
                          · have fc181_24 : ¬ rv56.toInt = 6 := zt_ne (show rv56.toInt = _ from rfl) tI_6 c181_24
                            refine lv_iconst (v := 0) hx hb d_Mo_suitsOther_194 (by decide) ?_
                            exact j_zret F hr (by decide +kernel) hlocks hK hS () (show ((0 : Int32).toInt = 1 ∧ othP p0.toInt S) ∨ (0 : Int32).toInt = 0 by have := tI_0; first | (right; omega) | (left; refine ⟨by omega, ?_⟩; unfold othP; refine ⟨fun q => ?_, fun q => ?_, fun q => ?_, fun q => ?_, fun q => ?_⟩ <;> omega)) hP hD d_Mo_suitsOther_195
                          · have fc181_24 : rv56.toInt = 6 := zt_eq (show rv56.toInt = _ from rfl) tI_6 c181_24
                            refine lv_iload hx hb d_Mo_suitsOther_184 (lv_at hl 0 rfl) ?_
                            refine lv_iconst (v := 3) hx hb d_Mo_suitsOther_186 (by decide) ?_
                            refine lv_icmp_ne (tgt := 194) hx hb d_Mo_suitsOther_187 (by decide) (fun c187_24 => ?_) (fun c187_24 => ?_)
                            · have fc187_24 : ¬ rv62.toInt = 3 := zt_ne (show rv62.toInt = _ from rfl) tI_3 c187_24
                              refine lv_iconst (v := 0) hx hb d_Mo_suitsOther_194 (by decide) ?_
                              exact j_zret F hr (by decide +kernel) hlocks hK hS () (show ((0 : Int32).toInt = 1 ∧ othP p0.toInt S) ∨ (0 : Int32).toInt = 0 by have := tI_0; first | (right; omega) | (left; refine ⟨by omega, ?_⟩; unfold othP; refine ⟨fun q => ?_, fun q => ?_, fun q => ?_, fun q => ?_, fun q => ?_⟩ <;> omega)) hP hD d_Mo_suitsOther_195
                            · have fc187_24 : rv62.toInt = 3 := zt_eq (show rv62.toInt = _ from rfl) tI_3 c187_24
                              refine lv_iconst (v := 1) hx hb d_Mo_suitsOther_190 (by decide) ?_
                              refine lv_goto (tgt := 195) hx hb d_Mo_suitsOther_191 (by decide) ?_
                              exact j_zret F hr (by decide +kernel) hlocks hK hS () (show ((1 : Int32).toInt = 1 ∧ othP p0.toInt S) ∨ (1 : Int32).toInt = 0 by have := tI_1; first | (right; omega) | (left; refine ⟨by omega, ?_⟩; unfold othP; refine ⟨fun q => ?_, fun q => ?_, fun q => ?_, fun q => ?_, fun q => ?_⟩ <;> omega)) hP hD d_Mo_suitsOther_195
                    · have fc148_12 : p0.toInt = 38 := zt_eq (show p0.toInt = _ from rfl) tI_38 c148_12
                      refine lv_iload_n hx hb d_Mo_suitsOther_151 rfl (lv_at hl 1 rfl) ?_
                      refine lv_iconst (v := 5) hx hb d_Mo_suitsOther_152 (by decide) ?_
                      refine lv_icmp_eq (tgt := 162) hx hb d_Mo_suitsOther_153 (by decide) (fun c153_12 => ?_) (fun c153_12 => ?_)
                      · have fc153_12 : rv56.toInt = 5 := zt_eq (show rv56.toInt = _ from rfl) tI_5 c153_12
                        refine lv_iconst (v := 1) hx hb d_Mo_suitsOther_162 (by decide) ?_
                        refine lv_goto (tgt := 167) hx hb d_Mo_suitsOther_163 (by decide) ?_
                        exact j_zret F hr (by decide +kernel) hlocks hK hS () (show ((1 : Int32).toInt = 1 ∧ othP p0.toInt S) ∨ (1 : Int32).toInt = 0 by have := tI_1; first | (right; omega) | (left; refine ⟨by omega, ?_⟩; unfold othP; refine ⟨fun q => ?_, fun q => ?_, fun q => ?_, fun q => ?_, fun q => ?_⟩ <;> omega)) hP hD d_Mo_suitsOther_167
                      · have fc153_12 : ¬ rv56.toInt = 5 := zt_ne (show rv56.toInt = _ from rfl) tI_5 c153_12
                        refine lv_iload_n hx hb d_Mo_suitsOther_156 rfl (lv_at hl 1 rfl) ?_
                        refine lv_bipush (v := 6) hx hb d_Mo_suitsOther_157 (by decide) ?_
                        refine lv_icmp_ne (tgt := 166) hx hb d_Mo_suitsOther_159 (by decide) (fun c159_12 => ?_) (fun c159_12 => ?_)
                        · have fc159_12 : ¬ rv56.toInt = 6 := zt_ne (show rv56.toInt = _ from rfl) tI_6 c159_12
                          refine lv_iconst (v := 0) hx hb d_Mo_suitsOther_166 (by decide) ?_
                          exact j_zret F hr (by decide +kernel) hlocks hK hS () (show ((0 : Int32).toInt = 1 ∧ othP p0.toInt S) ∨ (0 : Int32).toInt = 0 by have := tI_0; first | (right; omega) | (left; refine ⟨by omega, ?_⟩; unfold othP; refine ⟨fun q => ?_, fun q => ?_, fun q => ?_, fun q => ?_, fun q => ?_⟩ <;> omega)) hP hD d_Mo_suitsOther_167
                        · have fc159_12 : rv56.toInt = 6 := zt_eq (show rv56.toInt = _ from rfl) tI_6 c159_12
                          refine lv_iconst (v := 1) hx hb d_Mo_suitsOther_162 (by decide) ?_
                          refine lv_goto (tgt := 167) hx hb d_Mo_suitsOther_163 (by decide) ?_
                          exact j_zret F hr (by decide +kernel) hlocks hK hS () (show ((1 : Int32).toInt = 1 ∧ othP p0.toInt S) ∨ (1 : Int32).toInt = 0 by have := tI_1; first | (right; omega) | (left; refine ⟨by omega, ?_⟩; unfold othP; refine ⟨fun q => ?_, fun q => ?_, fun q => ?_, fun q => ?_, fun q => ?_⟩ <;> omega)) hP hD d_Mo_suitsOther_167
                  · have fc127_12 : p0.toInt = 31 := zt_eq (show p0.toInt = _ from rfl) tI_31 c127_12
                    refine lv_iload_n hx hb d_Mo_suitsOther_130 rfl (lv_at hl 1 rfl) ?_
                    refine lv_iconst (v := 2) hx hb d_Mo_suitsOther_131 (by decide) ?_
                    refine lv_icmp_eq (tgt := 139) hx hb d_Mo_suitsOther_132 (by decide) (fun c132_12 => ?_) (fun c132_12 => ?_)
                    · have fc132_12 : rv56.toInt = 2 := zt_eq (show rv56.toInt = _ from rfl) tI_2 c132_12
                      refine lv_iconst (v := 1) hx hb d_Mo_suitsOther_139 (by decide) ?_
                      refine lv_goto (tgt := 144) hx hb d_Mo_suitsOther_140 (by decide) ?_
                      exact j_zret F hr (by decide +kernel) hlocks hK hS () (show ((1 : Int32).toInt = 1 ∧ othP p0.toInt S) ∨ (1 : Int32).toInt = 0 by have := tI_1; first | (right; omega) | (left; refine ⟨by omega, ?_⟩; unfold othP; refine ⟨fun q => ?_, fun q => ?_, fun q => ?_, fun q => ?_, fun q => ?_⟩ <;> omega)) hP hD d_Mo_suitsOther_144
                    · have fc132_12 : ¬ rv56.toInt = 2 := zt_ne (show rv56.toInt = _ from rfl) tI_2 c132_12
                      refine lv_iload_n hx hb d_Mo_suitsOther_135 rfl (lv_at hl 1 rfl) ?_
                      refine lv_if_ne (tgt := 143) hx hb d_Mo_suitsOther_136 (by decide) (fun c136_12 => ?_) (fun c136_12 => ?_)
                      · have fc136_12 : ¬ rv56.toInt = 0 := zt_ne (show rv56.toInt = _ from rfl) tI_0 c136_12
                        refine lv_iconst (v := 0) hx hb d_Mo_suitsOther_143 (by decide) ?_
                        exact j_zret F hr (by decide +kernel) hlocks hK hS () (show ((0 : Int32).toInt = 1 ∧ othP p0.toInt S) ∨ (0 : Int32).toInt = 0 by have := tI_0; first | (right; omega) | (left; refine ⟨by omega, ?_⟩; unfold othP; refine ⟨fun q => ?_, fun q => ?_, fun q => ?_, fun q => ?_, fun q => ?_⟩ <;> omega)) hP hD d_Mo_suitsOther_144
                      · have fc136_12 : rv56.toInt = 0 := zt_eq (show rv56.toInt = _ from rfl) tI_0 c136_12
                        refine lv_iconst (v := 1) hx hb d_Mo_suitsOther_139 (by decide) ?_
                        refine lv_goto (tgt := 144) hx hb d_Mo_suitsOther_140 (by decide) ?_
                        exact j_zret F hr (by decide +kernel) hlocks hK hS () (show ((1 : Int32).toInt = 1 ∧ othP p0.toInt S) ∨ (1 : Int32).toInt = 0 by have := tI_1; first | (right; omega) | (left; refine ⟨by omega, ?_⟩; unfold othP; refine ⟨fun q => ?_, fun q => ?_, fun q => ?_, fun q => ?_, fun q => ?_⟩ <;> omega)) hP hD d_Mo_suitsOther_144
                · have fc95_12 : p0.toInt = 30 := zt_eq (show p0.toInt = _ from rfl) tI_30 c95_12
                  refine lv_iload_n hx hb d_Mo_suitsOther_98 rfl (lv_at hl 1 rfl) ?_
                  refine lv_iconst (v := 2) hx hb d_Mo_suitsOther_99 (by decide) ?_
                  refine lv_icmp_eq (tgt := 107) hx hb d_Mo_suitsOther_100 (by decide) (fun c100_24 => ?_) (fun c100_24 => ?_)
                  · have fc100_24 : rv56.toInt = 2 := zt_eq (show rv56.toInt = _ from rfl) tI_2 c100_24
                    refine lv_aload_n hx hb d_Mo_suitsOther_107 rfl (lv_at hl 3 rfl) ?_
                    refine lv_iload_n hx hb d_Mo_suitsOther_108 rfl (lv_at hl 2 rfl) ?_
                    refine lv_iconst (v := 1) hx hb d_Mo_suitsOther_109 (by decide) ?_
                    refine lv_isub hx hb d_Mo_suitsOther_110 ?_
                    refine j_eqi (y := x26) ex26.symm ?_
                    refine jm_ci (w := (fun _ => S)) hK hP hD hS hA (va_runV (As := [.int x26]) (rest := []) F (m_kindOf l D T h0 ar S x26 H.size (show 0 ≤ x26.toInt ∧ x26.toInt < 1300 by first | omega | (simp only [fx26]; omega)) (show 0 ≤ ((a_kinds S) x26.toInt.toNat).toInt by first | omega | (simp only [fx26]; omega))) (j_cV (k := 1) (C := "PageScribeModel") hts k_7_174 k_1_12 k_7_171 k_7_173 k_0_102 (by decide +kernel) ⟨Nat.le_of_ble_eq_true rfl, Nat.le_of_ble_eq_true rfl⟩) (jm_pre hK hP hD) rfl rfl hl.1 rfl (lv_room (Nat.le_of_ble_eq_true rfl)) d_Mo_suitsOther_111 ⟨Nat.le_of_ble_eq_true rfl, Nat.le_of_ble_eq_true rfl⟩) (fun rv65 u65 H locs hw65 hP hD hS => ?_)
                    have hP : va_P D classes (mW T h0 ar S) H := hP
                    have hD : va_D A (mW T h0 ar S) := hD
                    have qhw65 : rv65.toInt = ((a_kinds S) ((f_size S).toInt - 2).toNat).toInt % 8 := by simpa only [fx26] using hw65
                    refine lv_iload_n hx hb d_Mo_suitsOther_114 rfl (lv_at hl 1 rfl) ?_
                    refine lv_icmp_ne (tgt := 122) hx hb d_Mo_suitsOther_115 (by decide) (fun c115_47 => ?_) (fun c115_47 => ?_)
                    · have fc115_47 : ¬ rv65.toInt = rv56.toInt := zt_ne (show rv65.toInt = _ from rfl) (show rv56.toInt = _ from rfl) c115_47
                      refine lv_iconst (v := 0) hx hb d_Mo_suitsOther_122 (by decide) ?_
                      exact j_zret F hr (by decide +kernel) hlocks hK hS () (show ((0 : Int32).toInt = 1 ∧ othP p0.toInt S) ∨ (0 : Int32).toInt = 0 by have := tI_0; first | (right; omega) | (left; refine ⟨by omega, ?_⟩; unfold othP; refine ⟨fun q => ?_, fun q => ?_, fun q => ?_, fun q => ?_, fun q => ?_⟩ <;> omega)) hP hD d_Mo_suitsOther_123
                    · have fc115_47 : rv65.toInt = rv56.toInt := zt_eq (show rv65.toInt = _ from rfl) (show rv56.toInt = _ from rfl) c115_47
                      refine lv_iconst (v := 1) hx hb d_Mo_suitsOther_118 (by decide) ?_
                      refine lv_goto (tgt := 123) hx hb d_Mo_suitsOther_119 (by decide) ?_
                      exact j_zret F hr (by decide +kernel) hlocks hK hS () (show ((1 : Int32).toInt = 1 ∧ othP p0.toInt S) ∨ (1 : Int32).toInt = 0 by have := tI_1; first | (right; omega) | (left; refine ⟨by omega, ?_⟩; unfold othP; refine ⟨fun q => ?_, fun q => ?_, fun q => ?_, fun q => ?_, fun q => ?_⟩ <;> omega)) hP hD d_Mo_suitsOther_123
                  · have fc100_24 : ¬ rv56.toInt = 2 := zt_ne (show rv56.toInt = _ from rfl) tI_2 c100_24
                    refine lv_iload_n hx hb d_Mo_suitsOther_103 rfl (lv_at hl 1 rfl) ?_
                    refine lv_if_ne (tgt := 122) hx hb d_Mo_suitsOther_104 (by decide) (fun c104_24 => ?_) (fun c104_24 => ?_)
                    · have fc104_24 : ¬ rv56.toInt = 0 := zt_ne (show rv56.toInt = _ from rfl) tI_0 c104_24
                      refine lv_iconst (v := 0) hx hb d_Mo_suitsOther_122 (by decide) ?_
                      exact j_zret F hr (by decide +kernel) hlocks hK hS () (show ((0 : Int32).toInt = 1 ∧ othP p0.toInt S) ∨ (0 : Int32).toInt = 0 by have := tI_0; first | (right; omega) | (left; refine ⟨by omega, ?_⟩; unfold othP; refine ⟨fun q => ?_, fun q => ?_, fun q => ?_, fun q => ?_, fun q => ?_⟩ <;> omega)) hP hD d_Mo_suitsOther_123
                    · have fc104_24 : rv56.toInt = 0 := zt_eq (show rv56.toInt = _ from rfl) tI_0 c104_24
                      refine lv_aload_n hx hb d_Mo_suitsOther_107 rfl (lv_at hl 3 rfl) ?_
                      refine lv_iload_n hx hb d_Mo_suitsOther_108 rfl (lv_at hl 2 rfl) ?_
                      refine lv_iconst (v := 1) hx hb d_Mo_suitsOther_109 (by decide) ?_
                      refine lv_isub hx hb d_Mo_suitsOther_110 ?_
                      refine j_eqi (y := x26) ex26.symm ?_
                      refine jm_ci (w := (fun _ => S)) hK hP hD hS hA (va_runV (As := [.int x26]) (rest := []) F (m_kindOf l D T h0 ar S x26 H.size (show 0 ≤ x26.toInt ∧ x26.toInt < 1300 by first | omega | (simp only [fx26]; omega)) (show 0 ≤ ((a_kinds S) x26.toInt.toNat).toInt by first | omega | (simp only [fx26]; omega))) (j_cV (k := 1) (C := "PageScribeModel") hts k_7_174 k_1_12 k_7_171 k_7_173 k_0_102 (by decide +kernel) ⟨Nat.le_of_ble_eq_true rfl, Nat.le_of_ble_eq_true rfl⟩) (jm_pre hK hP hD) rfl rfl hl.1 rfl (lv_room (Nat.le_of_ble_eq_true rfl)) d_Mo_suitsOther_111 ⟨Nat.le_of_ble_eq_true rfl, Nat.le_of_ble_eq_true rfl⟩) (fun rv66 u66 H locs hw66 hP hD hS => ?_)
                      have hP : va_P D classes (mW T h0 ar S) H := hP
                      have hD : va_D A (mW T h0 ar S) := hD
                      have qhw66 : rv66.toInt = ((a_kinds S) ((f_size S).toInt - 2).toNat).toInt % 8 := by simpa only [fx26] using hw66
                      refine lv_iload_n hx hb d_Mo_suitsOther_114 rfl (lv_at hl 1 rfl) ?_
                      refine lv_icmp_ne (tgt := 122) hx hb d_Mo_suitsOther_115 (by decide) (fun c115_48 => ?_) (fun c115_48 => ?_)
                      · have fc115_48 : ¬ rv66.toInt = rv56.toInt := zt_ne (show rv66.toInt = _ from rfl) (show rv56.toInt = _ from rfl) c115_48
                        refine lv_iconst (v := 0) hx hb d_Mo_suitsOther_122 (by decide) ?_
                        exact j_zret F hr (by decide +kernel) hlocks hK hS () (show ((0 : Int32).toInt = 1 ∧ othP p0.toInt S) ∨ (0 : Int32).toInt = 0 by have := tI_0; first | (right; omega) | (left; refine ⟨by omega, ?_⟩; unfold othP; refine ⟨fun q => ?_, fun q => ?_, fun q => ?_, fun q => ?_, fun q => ?_⟩ <;> omega)) hP hD d_Mo_suitsOther_123
                      · have fc115_48 : rv66.toInt = rv56.toInt := zt_eq (show rv66.toInt = _ from rfl) (show rv56.toInt = _ from rfl) c115_48
                        refine lv_iconst (v := 1) hx hb d_Mo_suitsOther_118 (by decide) ?_
                        refine lv_goto (tgt := 123) hx hb d_Mo_suitsOther_119 (by decide) ?_
                        exact j_zret F hr (by decide +kernel) hlocks hK hS () (show ((1 : Int32).toInt = 1 ∧ othP p0.toInt S) ∨ (1 : Int32).toInt = 0 by have := tI_1; first | (right; omega) | (left; refine ⟨by omega, ?_⟩; unfold othP; refine ⟨fun q => ?_, fun q => ?_, fun q => ?_, fun q => ?_, fun q => ?_⟩ <;> omega)) hP hD d_Mo_suitsOther_123
        · have fc21_1 : p0.toInt < 38 := Int.not_le.mp (zt_nle tI_38 (show p0.toInt = _ from rfl) c21_1)
          refine lv_iconst (v := 1) hx hb d_Mo_suitsOther_24 (by decide) ?_
          exact j_zret F hr (by decide +kernel) hlocks hK hS () (show ((1 : Int32).toInt = 1 ∧ othP p0.toInt S) ∨ (1 : Int32).toInt = 0 by have := tI_1; first | (right; omega) | (left; refine ⟨by omega, ?_⟩; unfold othP; refine ⟨fun q => ?_, fun q => ?_, fun q => ?_, fun q => ?_, fun q => ?_⟩ <;> omega)) hP hD d_Mo_suitsOther_25
