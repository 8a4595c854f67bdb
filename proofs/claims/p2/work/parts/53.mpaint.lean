theorem d_Mo_paint_0 : decode prog_15_method_71_code 0 = .ok (.aload_n 0, 1) := by decide +kernel
theorem d_Mo_paint_1 : decode prog_15_method_71_code 1 = .ok (.getfield 247, 3) := by decide +kernel
theorem d_Mo_paint_4 : decode prog_15_method_71_code 4 = .ok (.iconst 1, 1) := by decide +kernel
theorem d_Mo_paint_5 : decode prog_15_method_71_code 5 = .ok (.isub, 1) := by decide +kernel
theorem d_Mo_paint_6 : decode prog_15_method_71_code 6 = .ok (.istore_n 2, 1) := by decide +kernel
theorem d_Mo_paint_7 : decode prog_15_method_71_code 7 = .ok (.iload_n 1, 1) := by decide +kernel
theorem d_Mo_paint_8 : decode prog_15_method_71_code 8 = .ok (.bipush 65, 2) := by decide +kernel
theorem d_Mo_paint_10 : decode prog_15_method_71_code 10 = .ok (.if_icmp .eq 9, 3) := by decide +kernel
theorem d_Mo_paint_13 : decode prog_15_method_71_code 13 = .ok (.iload_n 1, 1) := by decide +kernel
theorem d_Mo_paint_14 : decode prog_15_method_71_code 14 = .ok (.bipush 66, 2) := by decide +kernel
theorem d_Mo_paint_16 : decode prog_15_method_71_code 16 = .ok (.if_icmp .ne 13, 3) := by decide +kernel
theorem d_Mo_paint_29 : decode prog_15_method_71_code 29 = .ok (.dconst 0, 1) := by decide +kernel
theorem d_Mo_paint_30 : decode prog_15_method_71_code 30 = .ok (.dstore_n 3, 1) := by decide +kernel
theorem d_Mo_paint_31 : decode prog_15_method_71_code 31 = .ok (.iload_n 1, 1) := by decide +kernel
theorem d_Mo_paint_32 : decode prog_15_method_71_code 32 = .ok (.bipush 62, 2) := by decide +kernel
theorem d_Mo_paint_34 : decode prog_15_method_71_code 34 = .ok (.if_icmp .le 23, 3) := by decide +kernel
theorem d_Mo_paint_37 : decode prog_15_method_71_code 37 = .ok (.iload_n 1, 1) := by decide +kernel
theorem d_Mo_paint_38 : decode prog_15_method_71_code 38 = .ok (.bipush 67, 2) := by decide +kernel
theorem d_Mo_paint_40 : decode prog_15_method_71_code 40 = .ok (.if_icmp .ge 17, 3) := by decide +kernel
theorem d_Mo_paint_43 : decode prog_15_method_71_code 43 = .ok (.iload_n 1, 1) := by decide +kernel
theorem d_Mo_paint_44 : decode prog_15_method_71_code 44 = .ok (.bipush 64, 2) := by decide +kernel
theorem d_Mo_paint_46 : decode prog_15_method_71_code 46 = .ok (.if_icmp .eq 11, 3) := by decide +kernel
theorem d_Mo_paint_49 : decode prog_15_method_71_code 49 = .ok (.aload_n 0, 1) := by decide +kernel
theorem d_Mo_paint_50 : decode prog_15_method_71_code 50 = .ok (.iload_n 2, 1) := by decide +kernel
theorem d_Mo_paint_51 : decode prog_15_method_71_code 51 = .ok (.invokevirtual 473, 3) := by decide +kernel
theorem d_Mo_paint_54 : decode prog_15_method_71_code 54 = .ok (.goto 4, 3) := by decide +kernel
theorem d_Mo_paint_58 : decode prog_15_method_71_code 58 = .ok (.dstore 5, 2) := by decide +kernel
theorem d_Mo_paint_60 : decode prog_15_method_71_code 60 = .ok (.iload_n 1, 1) := by decide +kernel
theorem d_Mo_paint_61 : decode prog_15_method_71_code 61 = .ok (.tableswitch 253 63 67 #[35, 70, 77, 77, 183], 35) := by decide +kernel
theorem d_Mo_paint_96 : decode prog_15_method_71_code 96 = .ok (.dload 5, 2) := by decide +kernel
theorem d_Mo_paint_98 : decode prog_15_method_71_code 98 = .ok (.dconst 0, 1) := by decide +kernel
theorem d_Mo_paint_99 : decode prog_15_method_71_code 99 = .ok (.dcmp .l, 1) := by decide +kernel
theorem d_Mo_paint_100 : decode prog_15_method_71_code 100 = .ok (.ifCond .lt 10, 3) := by decide +kernel
theorem d_Mo_paint_110 : decode prog_15_method_71_code 110 = .ok (.iconst 4, 1) := by decide +kernel
theorem d_Mo_paint_111 : decode prog_15_method_71_code 111 = .ok (.ireturn, 1) := by decide +kernel
theorem d_Mo_paint_103 : decode prog_15_method_71_code 103 = .ok (.dload 5, 2) := by decide +kernel
theorem d_Mo_paint_105 : decode prog_15_method_71_code 105 = .ok (.dconst 1, 1) := by decide +kernel
theorem tD_4607182418800017408 : dk 4607182418800017408 = 4607182418800017408 := by decide +kernel
theorem d_Mo_paint_106 : decode prog_15_method_71_code 106 = .ok (.dcmp .g, 1) := by decide +kernel
theorem d_Mo_paint_107 : decode prog_15_method_71_code 107 = .ok (.ifCond .le 5, 3) := by decide +kernel
theorem d_Mo_paint_112 : decode prog_15_method_71_code 112 = .ok (.aload_n 0, 1) := by decide +kernel
theorem d_Mo_paint_113 : decode prog_15_method_71_code 113 = .ok (.dload 5, 2) := by decide +kernel
theorem d_Mo_paint_115 : decode prog_15_method_71_code 115 = .ok (.d2f, 1) := by decide +kernel
theorem d_Mo_paint_116 : decode prog_15_method_71_code 116 = .ok (.putfield 74, 3) := by decide +kernel
theorem d_Mo_paint_119 : decode prog_15_method_71_code 119 = .ok (.aload_n 0, 1) := by decide +kernel
theorem d_Mo_paint_120 : decode prog_15_method_71_code 120 = .ok (.dup, 1) := by decide +kernel
theorem d_Mo_paint_121 : decode prog_15_method_71_code 121 = .ok (.getfield 247, 3) := by decide +kernel
theorem d_Mo_paint_124 : decode prog_15_method_71_code 124 = .ok (.iconst 1, 1) := by decide +kernel
theorem d_Mo_paint_125 : decode prog_15_method_71_code 125 = .ok (.isub, 1) := by decide +kernel
theorem d_Mo_paint_126 : decode prog_15_method_71_code 126 = .ok (.putfield 247, 3) := by decide +kernel
theorem d_Mo_paint_129 : decode prog_15_method_71_code 129 = .ok (.iconst 0, 1) := by decide +kernel
theorem d_Mo_paint_130 : decode prog_15_method_71_code 130 = .ok (.ireturn, 1) := by decide +kernel
set_option maxHeartbeats 4000000 in
set_option maxRecDepth 100000 in
theorem m_paint_63 (l : Launch) (D : va_G) (T : Nat → ClassId) (h0 : Nat) (ar : Nat → Nat) (S : MS)  (sz : Nat) (hI : MI S) (h1 : 1 ≤ (f_size S).toInt) : Met l ⟨"PageScribeModel", "paint", "(I)I"⟩ (wy ⟨"PageScribeModel", "paint", "(I)I"⟩ prog_15_method_71_code 8 (some .int)) ({ frames := 1, cells := 0, slots := 0, locals := 70 }) (va_Pc [.ref h0, .int 63] (Pw D T (mW T h0 ar S) sz E0)) (va_Qi (fun (r : Int32) (u : MS) => MI u ∧ kA S u ∧ kF S u ∧ (0 ≤ r.toInt ∧ r.toInt ≤ 15)) (fun u t => Bw D T (va_A (mW T h0 ar S) sz) (mW T h0 ar u) t) (va_A (mW T h0 ar S) sz)) 0 0 (va_A (mW T h0 ar S) sz) := by
  refine j_met (y := ⟨"PageScribeModel", "paint", "(I)I"⟩) (b := prog_15_method_71_code) (n := 8) (ret := (some .int)) (av := [.ref h0, .int 63]) (Qc := fun A => va_Qi (fun (r : Int32) (u : MS) => MI u ∧ kA S u ∧ kF S u ∧ (0 ≤ r.toInt ∧ r.toInt ≤ 15)) (fun u t => Bw D T A (mW T h0 ar u) t) A) (by decide +kernel) (Nat.le_of_ble_eq_true rfl) (fun p e s m args below meth c A ls F hr hlocks hnm hK hP hD hS hA hN hE hl => ?_)
  obtain ⟨hx, hb, hml, hown, hts⟩ := id F
  have hl : lv_has ls 8 [(0, .ref h0), (1, .int 63)] := hl
  obtain ⟨i_size, i_taken, i_vals, i_room, i_dicts, i_deep, i_open, i_cells, i_points, i_part, i_length, i_knows, i_page, i_text, i_pats, i_fuel, i_fr, i_ink⟩ := id hI
  refine lv_aload_n hx hb d_Mo_paint_0 rfl (lv_at hl 0 rfl) ?_
  refine va_get (D := D) (ci := 11) (v := .int (f_size S)) (C := "PageScribeModel") (T := F_Mo) (N := 45) hx hb hts i_Mo hown hK hP 0 mW_0 cl_11 4 (by decide) (hts _ k_6_164) (fun _ h9 => h9) (mg_size _ _) d_Mo_paint_1 ?_
  refine lv_iconst (v := 1) hx hb d_Mo_paint_4 (by decide) ?_
  refine lv_isub hx hb d_Mo_paint_5 ?_
  refine lv_topi (fun x1 ex1 => ?_)
  have fx1 : x1.toInt = ((f_size S).toInt - 1) := by rw [ex1]; exact (zt_sub (show (f_size S).toInt = _ from rfl) tI_1 (by omega) (by omega)).trans (by omega)
  refine lv_istore_n (lv' := [(2, .int x1), (0, .ref h0), (1, .int 63)]) hx hb d_Mo_paint_6 rfl hl (by decide) rfl (fun ls hl => ?_)
  refine lv_iload_n hx hb d_Mo_paint_7 rfl (lv_at hl 2 rfl) ?_
  refine lv_bipush (v := 65) hx hb d_Mo_paint_8 (by decide) ?_
  refine lv_icmp_eq (tgt := 19) hx hb d_Mo_paint_10 (by decide) (fun c9 => absurd c9 (by decide +kernel)) (fun _ => ?_)
  refine lv_iload_n hx hb d_Mo_paint_13 rfl (lv_at hl 2 rfl) ?_
  refine lv_bipush (v := 66) hx hb d_Mo_paint_14 (by decide) ?_
  refine lv_icmp_ne (tgt := 29) hx hb d_Mo_paint_16 (by decide) (fun _ => ?_) (fun c9 => absurd c9 (by decide +kernel))
  refine lv_dconst0 hx hb d_Mo_paint_29 ?_
  have := tD_0
  refine lv_dstore_n (lv' := [(3, .double 0), (2, .int x1), (0, .ref h0), (1, .int 63)]) hx hb d_Mo_paint_30 rfl hl (by decide) rfl (fun ls hl => ?_)
  refine lv_iload_n hx hb d_Mo_paint_31 rfl (lv_at hl 3 rfl) ?_
  refine lv_bipush (v := 62) hx hb d_Mo_paint_32 (by decide) ?_
  refine lv_icmp_le (tgt := 57) hx hb d_Mo_paint_34 (by decide) (fun c9 => absurd c9 (by decide +kernel)) (fun _ => ?_)
  refine lv_iload_n hx hb d_Mo_paint_37 rfl (lv_at hl 3 rfl) ?_
  refine lv_bipush (v := 67) hx hb d_Mo_paint_38 (by decide) ?_
  refine lv_icmp_ge (tgt := 57) hx hb d_Mo_paint_40 (by decide) (fun c9 => absurd c9 (by decide +kernel)) (fun _ => ?_)
  refine lv_iload_n hx hb d_Mo_paint_43 rfl (lv_at hl 3 rfl) ?_
  refine lv_bipush (v := 64) hx hb d_Mo_paint_44 (by decide) ?_
  refine lv_icmp_eq (tgt := 57) hx hb d_Mo_paint_46 (by decide) (fun c9 => absurd c9 (by decide +kernel)) (fun _ => ?_)
  refine lv_aload_n hx hb d_Mo_paint_49 rfl (lv_at hl 2 rfl) ?_
  refine lv_iload_n hx hb d_Mo_paint_50 rfl (lv_at hl 1 rfl) ?_
  have kv1 : vOk ((a_kinds S) (((f_size S).toInt - 1).toNat)) ((a_codes S) (((f_size S).toInt - 1).toNat)) ((a_reals S) (((f_size S).toInt - 1).toNat)) := i_vals (((f_size S).toInt - 1).toNat) (by omega)
  have rkv1 := vk_rng kv1
  refine jm_cd (w := (fun _ => S)) hK hP hD hS hA (va_runV (As := [.int x1]) (rest := []) F (m_numberAt l D T h0 ar S x1 s.heap.size ⟨i_size, i_taken, i_vals, i_room, i_dicts, i_deep, i_open, i_cells, i_points, i_part, i_length, i_knows, i_page, i_text, i_pats, i_fuel, i_fr, i_ink⟩ (show 0 ≤ x1.toInt ∧ x1.toInt < 1300 by first | omega | (simp only [fx1]; omega))) (j_cV (k := 1) (C := "PageScribeModel") hts k_7_207 k_1_12 k_7_204 k_7_206 k_0_110 (by decide +kernel) ⟨Nat.le_of_ble_eq_true rfl, Nat.le_of_ble_eq_true rfl⟩) (jm_pre hK hP hD) rfl rfl hl.1 rfl (lv_room (Nat.le_of_ble_eq_true rfl)) d_Mo_paint_51 ⟨Nat.le_of_ble_eq_true rfl, Nat.le_of_ble_eq_true rfl⟩) (fun rv1 u1 H locs hw1 hP hD hS => ?_)
  have hP : va_P D classes (mW T h0 ar S) H := hP
  have hD : va_D A (mW T h0 ar S) := hD
  have qhw1 : dB rv1 := by simpa only [fx1] using hw1
  refine lv_goto (tgt := 58) hx hb d_Mo_paint_54 (by decide) ?_
  refine lv_dstore (lv' := [(5, .double rv1), (3, .double 0), (2, .int x1), (0, .ref h0), (1, .int 63)]) hx hb d_Mo_paint_58 hl (by decide) rfl (fun ls hl => ?_)
  refine lv_iload_n hx hb d_Mo_paint_60 rfl (lv_at hl 4 rfl) ?_
  refine lv_tableIn (off := 35) (tgt := 96) hx hb d_Mo_paint_61 (by decide +kernel) (by decide +kernel) (by decide +kernel) (by decide) ?_
  refine lv_dload hx hb d_Mo_paint_96 (lv_at hl 0 rfl) ?_
  refine lv_dconst0 hx hb d_Mo_paint_98 ?_
  have := tD_0
  refine lv_dcmp hx hb d_Mo_paint_99 ?_
  refine lv_topi (fun x2 ex2 => ?_)
  refine lv_if_lt (tgt := 110) hx hb d_Mo_paint_100 (by decide) (fun c100_1 => ?_) (fun c100_1 => ?_)
  · have fc100_1 : x2.toInt < 0 := zt_lt (show x2.toInt = _ from rfl) tI_0 c100_1
    have vc100_1 : dk rv1 < dk 0 := by have := zr_dcmp (a := rv1) (b := 0) ex2 (show dN rv1 by omega) (show dN 0 by omega); have := zt_lt (show x2.toInt = _ from rfl) tI_0 c100_1; omega
    refine lv_iconst (v := 4) hx hb d_Mo_paint_110 (by decide) ?_
    exact j_iret F hr hlocks hK hS S ⟨⟨i_size, i_taken, i_vals, i_room, i_dicts, i_deep, i_open, i_cells, i_points, i_part, i_length, i_knows, i_page, i_text, i_pats, i_fuel, i_fr, i_ink⟩, (kA_r S), (kF_r S), (show 0 ≤ (4 : Int32).toInt ∧ (4 : Int32).toInt ≤ 15 by have := tI_4; omega)⟩ hP hD d_Mo_paint_111
  · have fc100_1 : 0 ≤ x2.toInt := Int.not_lt.mp (zt_nlt (show x2.toInt = _ from rfl) tI_0 c100_1)
    have vc100_1 : dk rv1 ≥ dk 0 := by have := zr_dcmp (a := rv1) (b := 0) ex2 (show dN rv1 by omega) (show dN 0 by omega); have := Int.not_lt.mp (zt_nlt (show x2.toInt = _ from rfl) tI_0 c100_1); omega
    refine lv_dload hx hb d_Mo_paint_103 (lv_at hl 0 rfl) ?_
    refine lv_dconst1 hx hb d_Mo_paint_105 ?_
    have := tD_4607182418800017408
    refine lv_dcmp hx hb d_Mo_paint_106 ?_
    refine lv_topi (fun x3 ex3 => ?_)
    refine lv_if_le (tgt := 112) hx hb d_Mo_paint_107 (by decide) (fun c107_1 => ?_) (fun c107_1 => ?_)
    · have fc107_1 : x3.toInt ≤ 0 := zt_le (show x3.toInt = _ from rfl) tI_0 c107_1
      have vc107_1 : dk rv1 ≤ dk 4607182418800017408 := by have := zr_dcmp (a := rv1) (b := 4607182418800017408) ex3 (show dN rv1 by omega) (show dN 4607182418800017408 by omega); have := zt_le (show x3.toInt = _ from rfl) tI_0 c107_1; omega
      refine lv_aload_n hx hb d_Mo_paint_112 rfl (lv_at hl 3 rfl) ?_
      refine lv_dload hx hb d_Mo_paint_113 (lv_at hl 0 rfl) ?_
      have nf1 := zf_d2f (show dN rv1 by omega)
      refine lv_d2f hx hb d_Mo_paint_115 (zf_N nf1) ?_
      refine va_put (D := D) (ci := 11) (v := .float (FP.d2f rv1)) (ty := .float) (C := "PageScribeModel") (T := F_Mo) (N := 45) hx hb hts i_Mo t_Mo t_Mo_ok n_Mo hown hK hP hD hS 0 mW_0 cl_11 37 (by decide) (hts _ k_6_197) (fun _ h9 => h9) rfl (by decide +kernel) rfl rfl (Nat.le_of_ble_eq_true rfl) d_Mo_paint_116 (fun H locs hP hD hS => ?_)
      rw [mp_gray] at hP hD
      have hP : va_P D classes (mW T h0 ar ((S.1, S.2.1, S.2.2.1, S.2.2.2.1, ((f_steps S), (f_failure S), (f_columns S), (f_rows S), (a_pixels S), (FP.d2f rv1), (a_across S), (a_along S)), S.2.2.2.2.2) : MS)) H := hP
      have hD : va_D A (mW T h0 ar ((S.1, S.2.1, S.2.2.1, S.2.2.2.1, ((f_steps S), (f_failure S), (f_columns S), (f_rows S), (a_pixels S), (FP.d2f rv1), (a_across S), (a_along S)), S.2.2.2.2.2) : MS)) := hD
      refine lv_aload_n hx hb d_Mo_paint_119 rfl (lv_at hl 3 rfl) ?_
      refine lv_dup hx hb d_Mo_paint_120 rfl ?_
      refine va_get (D := D) (ci := 11) (v := .int (f_size S)) (C := "PageScribeModel") (T := F_Mo) (N := 45) hx hb hts i_Mo hown hK hP 0 mW_0 cl_11 4 (by decide) (hts _ k_6_164) (fun _ h9 => h9) (mg_size _ _) d_Mo_paint_121 ?_
      refine lv_iconst (v := 1) hx hb d_Mo_paint_124 (by decide) ?_
      refine lv_isub hx hb d_Mo_paint_125 ?_
      refine j_eqi (y := x1) ex1.symm ?_
      refine va_put (D := D) (ci := 11) (v := .int x1) (ty := .int) (C := "PageScribeModel") (T := F_Mo) (N := 45) hx hb hts i_Mo t_Mo t_Mo_ok n_Mo hown hK hP hD hS 0 mW_0 cl_11 4 (by decide) (hts _ k_6_164) (fun _ h9 => h9) rfl (by decide +kernel) rfl rfl (Nat.le_of_ble_eq_true rfl) d_Mo_paint_126 (fun H locs hP hD hS => ?_)
      rw [mp_size] at hP hD
      have hP : va_P D classes (mW T h0 ar ((((f_thrown S), (a_kinds S), (a_codes S), (a_reals S), x1, (f_taken S), (a_words S), (a_many S)), S.2.1, S.2.2.1, S.2.2.2.1, ((f_steps S), (f_failure S), (f_columns S), (f_rows S), (a_pixels S), (FP.d2f rv1), (a_across S), (a_along S)), S.2.2.2.2.2) : MS)) H := hP
      have hD : va_D A (mW T h0 ar ((((f_thrown S), (a_kinds S), (a_codes S), (a_reals S), x1, (f_taken S), (a_words S), (a_many S)), S.2.1, S.2.2.1, S.2.2.2.1, ((f_steps S), (f_failure S), (f_columns S), (f_rows S), (a_pixels S), (FP.d2f rv1), (a_across S), (a_along S)), S.2.2.2.2.2) : MS)) := hD
      refine lv_iconst (v := 0) hx hb d_Mo_paint_129 (by decide) ?_
      exact j_iret F hr hlocks hK hS ((((f_thrown S), (a_kinds S), (a_codes S), (a_reals S), x1, (f_taken S), (a_words S), (a_many S)), S.2.1, S.2.2.1, S.2.2.2.1, ((f_steps S), (f_failure S), (f_columns S), (f_rows S), (a_pixels S), (FP.d2f rv1), (a_across S), (a_along S)), S.2.2.2.2.2) : MS) ⟨⟨(show 0 ≤ x1.toInt ∧ x1.toInt ≤ 40 by omega), i_taken, i_vals, i_room, i_dicts, i_deep, i_open, i_cells, i_points, i_part, i_length, i_knows, i_page, i_text, i_pats, i_fuel, i_fr, ⟨nf1, i_ink.2⟩⟩, (kA_r S), (kF_r S), (show 0 ≤ (0 : Int32).toInt ∧ (0 : Int32).toInt ≤ 15 by have := tI_0; omega)⟩ hP hD d_Mo_paint_130
    · have fc107_1 : 0 < x3.toInt := Int.not_le.mp (zt_nle (show x3.toInt = _ from rfl) tI_0 c107_1)
      have vc107_1 : dk rv1 > dk 4607182418800017408 := by have := zr_dcmp (a := rv1) (b := 4607182418800017408) ex3 (show dN rv1 by omega) (show dN 4607182418800017408 by omega); have := Int.not_le.mp (zt_nle (show x3.toInt = _ from rfl) tI_0 c107_1); omega
      refine lv_iconst (v := 4) hx hb d_Mo_paint_110 (by decide) ?_
      exact j_iret F hr hlocks hK hS S ⟨⟨i_size, i_taken, i_vals, i_room, i_dicts, i_deep, i_open, i_cells, i_points, i_part, i_length, i_knows, i_page, i_text, i_pats, i_fuel, i_fr, i_ink⟩, (kA_r S), (kF_r S), (show 0 ≤ (4 : Int32).toInt ∧ (4 : Int32).toInt ≤ 15 by have := tI_4; omega)⟩ hP hD d_Mo_paint_111
theorem d_Mo_paint_57 : decode prog_15_method_71_code 57 = .ok (.dconst 0, 1) := by decide +kernel
theorem d_Mo_paint_131 : decode prog_15_method_71_code 131 = .ok (.aload_n 0, 1) := by decide +kernel
theorem d_Mo_paint_132 : decode prog_15_method_71_code 132 = .ok (.iconst 0, 1) := by decide +kernel
theorem d_Mo_paint_133 : decode prog_15_method_71_code 133 = .ok (.putfield 547, 3) := by decide +kernel
theorem d_Mo_paint_136 : decode prog_15_method_71_code 136 = .ok (.iconst 0, 1) := by decide +kernel
theorem d_Mo_paint_137 : decode prog_15_method_71_code 137 = .ok (.ireturn, 1) := by decide +kernel
set_option maxHeartbeats 4000000 in
set_option maxRecDepth 100000 in
theorem m_paint_64 (l : Launch) (D : va_G) (T : Nat → ClassId) (h0 : Nat) (ar : Nat → Nat) (S : MS)  (sz : Nat) (hI : MI S) (h1 : 0 ≤ (f_size S).toInt) : Met l ⟨"PageScribeModel", "paint", "(I)I"⟩ (wy ⟨"PageScribeModel", "paint", "(I)I"⟩ prog_15_method_71_code 8 (some .int)) ({ frames := 1, cells := 0, slots := 0, locals := 70 }) (va_Pc [.ref h0, .int 64] (Pw D T (mW T h0 ar S) sz E0)) (va_Qi (fun (r : Int32) (u : MS) => MI u ∧ kA S u ∧ kF S u ∧ (0 ≤ r.toInt ∧ r.toInt ≤ 15)) (fun u t => Bw D T (va_A (mW T h0 ar S) sz) (mW T h0 ar u) t) (va_A (mW T h0 ar S) sz)) 0 0 (va_A (mW T h0 ar S) sz) := by
  refine j_met (y := ⟨"PageScribeModel", "paint", "(I)I"⟩) (b := prog_15_method_71_code) (n := 8) (ret := (some .int)) (av := [.ref h0, .int 64]) (Qc := fun A => va_Qi (fun (r : Int32) (u : MS) => MI u ∧ kA S u ∧ kF S u ∧ (0 ≤ r.toInt ∧ r.toInt ≤ 15)) (fun u t => Bw D T A (mW T h0 ar u) t) A) (by decide +kernel) (Nat.le_of_ble_eq_true rfl) (fun p e s m args below meth c A ls F hr hlocks hnm hK hP hD hS hA hN hE hl => ?_)
  obtain ⟨hx, hb, hml, hown, hts⟩ := id F
  have hl : lv_has ls 8 [(0, .ref h0), (1, .int 64)] := hl
  obtain ⟨i_size, i_taken, i_vals, i_room, i_dicts, i_deep, i_open, i_cells, i_points, i_part, i_length, i_knows, i_page, i_text, i_pats, i_fuel, i_fr, i_ink⟩ := id hI
  refine lv_aload_n hx hb d_Mo_paint_0 rfl (lv_at hl 0 rfl) ?_
  refine va_get (D := D) (ci := 11) (v := .int (f_size S)) (C := "PageScribeModel") (T := F_Mo) (N := 45) hx hb hts i_Mo hown hK hP 0 mW_0 cl_11 4 (by decide) (hts _ k_6_164) (fun _ h9 => h9) (mg_size _ _) d_Mo_paint_1 ?_
  refine lv_iconst (v := 1) hx hb d_Mo_paint_4 (by decide) ?_
  refine lv_isub hx hb d_Mo_paint_5 ?_
  refine lv_topi (fun x1 ex1 => ?_)
  have fx1 : x1.toInt = ((f_size S).toInt - 1) := by rw [ex1]; exact (zt_sub (show (f_size S).toInt = _ from rfl) tI_1 (by omega) (by omega)).trans (by omega)
  refine lv_istore_n (lv' := [(2, .int x1), (0, .ref h0), (1, .int 64)]) hx hb d_Mo_paint_6 rfl hl (by decide) rfl (fun ls hl => ?_)
  refine lv_iload_n hx hb d_Mo_paint_7 rfl (lv_at hl 2 rfl) ?_
  refine lv_bipush (v := 65) hx hb d_Mo_paint_8 (by decide) ?_
  refine lv_icmp_eq (tgt := 19) hx hb d_Mo_paint_10 (by decide) (fun c9 => absurd c9 (by decide +kernel)) (fun _ => ?_)
  refine lv_iload_n hx hb d_Mo_paint_13 rfl (lv_at hl 2 rfl) ?_
  refine lv_bipush (v := 66) hx hb d_Mo_paint_14 (by decide) ?_
  refine lv_icmp_ne (tgt := 29) hx hb d_Mo_paint_16 (by decide) (fun _ => ?_) (fun c9 => absurd c9 (by decide +kernel))
  refine lv_dconst0 hx hb d_Mo_paint_29 ?_
  have := tD_0
  refine lv_dstore_n (lv' := [(3, .double 0), (2, .int x1), (0, .ref h0), (1, .int 64)]) hx hb d_Mo_paint_30 rfl hl (by decide) rfl (fun ls hl => ?_)
  refine lv_iload_n hx hb d_Mo_paint_31 rfl (lv_at hl 3 rfl) ?_
  refine lv_bipush (v := 62) hx hb d_Mo_paint_32 (by decide) ?_
  refine lv_icmp_le (tgt := 57) hx hb d_Mo_paint_34 (by decide) (fun c9 => absurd c9 (by decide +kernel)) (fun _ => ?_)
  refine lv_iload_n hx hb d_Mo_paint_37 rfl (lv_at hl 3 rfl) ?_
  refine lv_bipush (v := 67) hx hb d_Mo_paint_38 (by decide) ?_
  refine lv_icmp_ge (tgt := 57) hx hb d_Mo_paint_40 (by decide) (fun c9 => absurd c9 (by decide +kernel)) (fun _ => ?_)
  refine lv_iload_n hx hb d_Mo_paint_43 rfl (lv_at hl 3 rfl) ?_
  refine lv_bipush (v := 64) hx hb d_Mo_paint_44 (by decide) ?_
  refine lv_icmp_eq (tgt := 57) hx hb d_Mo_paint_46 (by decide) (fun _ => ?_) (fun c9 => absurd c9 (by decide +kernel))
  refine lv_dconst0 hx hb d_Mo_paint_57 ?_
  have := tD_0
  refine lv_dstore (lv' := [(5, .double 0), (3, .double 0), (2, .int x1), (0, .ref h0), (1, .int 64)]) hx hb d_Mo_paint_58 hl (by decide) rfl (fun ls hl => ?_)
  refine lv_iload_n hx hb d_Mo_paint_60 rfl (lv_at hl 4 rfl) ?_
  refine lv_tableIn (off := 70) (tgt := 131) hx hb d_Mo_paint_61 (by decide +kernel) (by decide +kernel) (by decide +kernel) (by decide) ?_
  refine lv_aload_n hx hb d_Mo_paint_131 rfl (lv_at hl 3 rfl) ?_
  refine lv_iconst (v := 0) hx hb d_Mo_paint_132 (by decide) ?_
  refine va_put (D := D) (ci := 11) (v := .int 0) (ty := .int) (C := "PageScribeModel") (T := F_Mo) (N := 45) hx hb hts i_Mo t_Mo t_Mo_ok n_Mo hown hK hP hD hS 0 mW_0 cl_11 41 (by decide) (hts _ k_6_201) (fun _ h9 => h9) rfl (by decide +kernel) rfl rfl (Nat.le_of_ble_eq_true rfl) d_Mo_paint_133 (fun H locs hP hD hS => ?_)
  rw [mp_points] at hP hD
  have hP : va_P D classes (mW T h0 ar ((S.1, S.2.1, S.2.2.1, S.2.2.2.1, S.2.2.2.2.1, ((a_part S), 0, (a_patterns S), (a_early S), (a_late S))) : MS)) H := hP
  have hD : va_D A (mW T h0 ar ((S.1, S.2.1, S.2.2.1, S.2.2.2.1, S.2.2.2.2.1, ((a_part S), 0, (a_patterns S), (a_early S), (a_late S))) : MS)) := hD
  refine lv_iconst (v := 0) hx hb d_Mo_paint_136 (by decide) ?_
  exact j_iret F hr hlocks hK hS ((S.1, S.2.1, S.2.2.1, S.2.2.2.1, S.2.2.2.2.1, ((a_part S), 0, (a_patterns S), (a_early S), (a_late S))) : MS) ⟨⟨i_size, i_taken, i_vals, i_room, i_dicts, i_deep, i_open, i_cells, (show 0 ≤ (0 : Int32).toInt ∧ (0 : Int32).toInt ≤ 30 by have := tI_0; omega), i_part, i_length, i_knows, i_page, i_text, i_pats, i_fuel, i_fr, i_ink⟩, (kA_r S), (kF_r S), (show 0 ≤ (0 : Int32).toInt ∧ (0 : Int32).toInt ≤ 15 by have := tI_0; omega)⟩ hP hD d_Mo_paint_137
theorem d_Mo_paint_19 : decode prog_15_method_71_code 19 = .ok (.aload_n 0, 1) := by decide +kernel
theorem d_Mo_paint_20 : decode prog_15_method_71_code 20 = .ok (.iload_n 2, 1) := by decide +kernel
theorem d_Mo_paint_21 : decode prog_15_method_71_code 21 = .ok (.iconst 1, 1) := by decide +kernel
theorem d_Mo_paint_22 : decode prog_15_method_71_code 22 = .ok (.isub, 1) := by decide +kernel
theorem d_Mo_paint_23 : decode prog_15_method_71_code 23 = .ok (.invokevirtual 473, 3) := by decide +kernel
theorem d_Mo_paint_26 : decode prog_15_method_71_code 26 = .ok (.goto 4, 3) := by decide +kernel
theorem d_Mo_paint_138 : decode prog_15_method_71_code 138 = .ok (.dload_n 3, 1) := by decide +kernel
theorem d_Mo_paint_139 : decode prog_15_method_71_code 139 = .ok (.ldc2_w 550, 3) := by decide +kernel
theorem k_8_96 : Cond.constantDouble "PageScribeModel" 550 (4696837146684686336 : UInt64) ∈ gw := gw_of (tb_8 (List.mem_of_getElem? (i := 96) (by decide +kernel))) (by decide +kernel)
theorem tD_4696837146684686336 : dk 4696837146684686336 = 4696837146684686336 := by decide +kernel
theorem d_Mo_paint_142 : decode prog_15_method_71_code 142 = .ok (.dcmp .l, 1) := by decide +kernel
theorem d_Mo_paint_143 : decode prog_15_method_71_code 143 = .ok (.ifCond .gt 29, 3) := by decide +kernel
theorem d_Mo_paint_172 : decode prog_15_method_71_code 172 = .ok (.iconst 4, 1) := by decide +kernel
theorem d_Mo_paint_173 : decode prog_15_method_71_code 173 = .ok (.ireturn, 1) := by decide +kernel
theorem d_Mo_paint_146 : decode prog_15_method_71_code 146 = .ok (.dload_n 3, 1) := by decide +kernel
theorem d_Mo_paint_147 : decode prog_15_method_71_code 147 = .ok (.ldc2_w 552, 3) := by decide +kernel
theorem k_8_97 : Cond.constantDouble "PageScribeModel" 552 (13920209183539462144 : UInt64) ∈ gw := gw_of (tb_8 (List.mem_of_getElem? (i := 97) (by decide +kernel))) (by decide +kernel)
theorem tD_13920209183539462144 : dk 13920209183539462144 = -4696837146684686336 := by decide +kernel
theorem d_Mo_paint_150 : decode prog_15_method_71_code 150 = .ok (.dcmp .g, 1) := by decide +kernel
theorem d_Mo_paint_151 : decode prog_15_method_71_code 151 = .ok (.ifCond .lt 21, 3) := by decide +kernel
theorem d_Mo_paint_154 : decode prog_15_method_71_code 154 = .ok (.dload 5, 2) := by decide +kernel
theorem d_Mo_paint_156 : decode prog_15_method_71_code 156 = .ok (.ldc2_w 550, 3) := by decide +kernel
theorem d_Mo_paint_159 : decode prog_15_method_71_code 159 = .ok (.dcmp .l, 1) := by decide +kernel
theorem d_Mo_paint_160 : decode prog_15_method_71_code 160 = .ok (.ifCond .gt 12, 3) := by decide +kernel
theorem d_Mo_paint_163 : decode prog_15_method_71_code 163 = .ok (.dload 5, 2) := by decide +kernel
theorem d_Mo_paint_165 : decode prog_15_method_71_code 165 = .ok (.ldc2_w 552, 3) := by decide +kernel
theorem d_Mo_paint_168 : decode prog_15_method_71_code 168 = .ok (.dcmp .g, 1) := by decide +kernel
theorem d_Mo_paint_169 : decode prog_15_method_71_code 169 = .ok (.ifCond .ge 5, 3) := by decide +kernel
theorem d_Mo_paint_174 : decode prog_15_method_71_code 174 = .ok (.iload_n 1, 1) := by decide +kernel
theorem d_Mo_paint_175 : decode prog_15_method_71_code 175 = .ok (.bipush 66, 2) := by decide +kernel
theorem d_Mo_paint_177 : decode prog_15_method_71_code 177 = .ok (.if_icmp .ne 13, 3) := by decide +kernel
theorem d_Mo_paint_190 : decode prog_15_method_71_code 190 = .ok (.aload_n 0, 1) := by decide +kernel
theorem d_Mo_paint_191 : decode prog_15_method_71_code 191 = .ok (.getfield 547, 3) := by decide +kernel
theorem d_Mo_paint_194 : decode prog_15_method_71_code 194 = .ok (.bipush 30, 2) := by decide +kernel
theorem d_Mo_paint_196 : decode prog_15_method_71_code 196 = .ok (.if_icmp .ne 6, 3) := by decide +kernel
theorem d_Mo_paint_202 : decode prog_15_method_71_code 202 = .ok (.aload_n 0, 1) := by decide +kernel
theorem d_Mo_paint_203 : decode prog_15_method_71_code 203 = .ok (.dup, 1) := by decide +kernel
theorem d_Mo_paint_204 : decode prog_15_method_71_code 204 = .ok (.getfield 247, 3) := by decide +kernel
theorem d_Mo_paint_207 : decode prog_15_method_71_code 207 = .ok (.iconst 2, 1) := by decide +kernel
theorem d_Mo_paint_208 : decode prog_15_method_71_code 208 = .ok (.isub, 1) := by decide +kernel
theorem d_Mo_paint_209 : decode prog_15_method_71_code 209 = .ok (.putfield 247, 3) := by decide +kernel
theorem d_Mo_paint_212 : decode prog_15_method_71_code 212 = .ok (.aload_n 0, 1) := by decide +kernel
theorem d_Mo_paint_213 : decode prog_15_method_71_code 213 = .ok (.dload_n 3, 1) := by decide +kernel
theorem d_Mo_paint_214 : decode prog_15_method_71_code 214 = .ok (.dload 5, 2) := by decide +kernel
theorem d_Mo_paint_216 : decode prog_15_method_71_code 216 = .ok (.iload_n 1, 1) := by decide +kernel
theorem d_Mo_paint_217 : decode prog_15_method_71_code 217 = .ok (.bipush 65, 2) := by decide +kernel
theorem d_Mo_paint_219 : decode prog_15_method_71_code 219 = .ok (.if_icmp .ne 10, 3) := by decide +kernel
theorem d_Mo_paint_222 : decode prog_15_method_71_code 222 = .ok (.aload_n 0, 1) := by decide +kernel
theorem d_Mo_paint_223 : decode prog_15_method_71_code 223 = .ok (.getfield 547, 3) := by decide +kernel
theorem d_Mo_paint_226 : decode prog_15_method_71_code 226 = .ok (.goto 14, 3) := by decide +kernel
theorem d_Mo_paint_240 : decode prog_15_method_71_code 240 = .ok (.invokevirtual 554, 3) := by decide +kernel
theorem k_8_101 : Cond.code ⟨"PageScribeModel", "point", "(DDI)I"⟩ prog_15_method_72_code 6 (some .int) ∈ gw := gw_of (tb_8 (List.mem_of_getElem? (i := 101) (by decide +kernel))) (by decide +kernel)
theorem k_8_98 : Cond.methodLink "PageScribeModel" 554 ⟨"PageScribeModel", "point", "(DDI)I"⟩ ∈ gw := gw_of (tb_8 (List.mem_of_getElem? (i := 98) (by decide +kernel))) (by decide +kernel)
theorem k_8_100 : Cond.instanceMethod ⟨"PageScribeModel", "point", "(DDI)I"⟩ ∈ gw := gw_of (tb_8 (List.mem_of_getElem? (i := 100) (by decide +kernel))) (by decide +kernel)
theorem k_0_139 : Cond.selects "PageScribeModel" ⟨"PageScribeModel", "point", "(DDI)I"⟩ ⟨"PageScribeModel", "point", "(DDI)I"⟩ ∈ gw := gw_of (tb_0 (List.mem_of_getElem? (i := 139) (by decide +kernel))) (by decide +kernel)
theorem d_Mo_paint_243 : decode prog_15_method_71_code 243 = .ok (.ireturn, 1) := by decide +kernel
theorem d_Mo_paint_199 : decode prog_15_method_71_code 199 = .ok (.bipush 7, 2) := by decide +kernel
theorem d_Mo_paint_201 : decode prog_15_method_71_code 201 = .ok (.ireturn, 1) := by decide +kernel
set_option maxHeartbeats 4000000 in
set_option maxRecDepth 100000 in
theorem m_paint_65 (l : Launch) (D : va_G) (T : Nat → ClassId) (h0 : Nat) (ar : Nat → Nat) (S : MS)  (sz : Nat) (hI : MI S) (h1 : 2 ≤ (f_size S).toInt) : Met l ⟨"PageScribeModel", "paint", "(I)I"⟩ (wy ⟨"PageScribeModel", "paint", "(I)I"⟩ prog_15_method_71_code 8 (some .int)) ({ frames := 1, cells := 0, slots := 0, locals := 70 }) (va_Pc [.ref h0, .int 65] (Pw D T (mW T h0 ar S) sz E0)) (va_Qi (fun (r : Int32) (u : MS) => MI u ∧ kA S u ∧ kF S u ∧ (0 ≤ r.toInt ∧ r.toInt ≤ 15)) (fun u t => Bw D T (va_A (mW T h0 ar S) sz) (mW T h0 ar u) t) (va_A (mW T h0 ar S) sz)) 0 0 (va_A (mW T h0 ar S) sz) := by
  refine j_met (y := ⟨"PageScribeModel", "paint", "(I)I"⟩) (b := prog_15_method_71_code) (n := 8) (ret := (some .int)) (av := [.ref h0, .int 65]) (Qc := fun A => va_Qi (fun (r : Int32) (u : MS) => MI u ∧ kA S u ∧ kF S u ∧ (0 ≤ r.toInt ∧ r.toInt ≤ 15)) (fun u t => Bw D T A (mW T h0 ar u) t) A) (by decide +kernel) (Nat.le_of_ble_eq_true rfl) (fun p e s m args below meth c A ls F hr hlocks hnm hK hP hD hS hA hN hE hl => ?_)
  obtain ⟨hx, hb, hml, hown, hts⟩ := id F
  have hl : lv_has ls 8 [(0, .ref h0), (1, .int 65)] := hl
  obtain ⟨i_size, i_taken, i_vals, i_room, i_dicts, i_deep, i_open, i_cells, i_points, i_part, i_length, i_knows, i_page, i_text, i_pats, i_fuel, i_fr, i_ink⟩ := id hI
  refine lv_aload_n hx hb d_Mo_paint_0 rfl (lv_at hl 0 rfl) ?_
  refine va_get (D := D) (ci := 11) (v := .int (f_size S)) (C := "PageScribeModel") (T := F_Mo) (N := 45) hx hb hts i_Mo hown hK hP 0 mW_0 cl_11 4 (by decide) (hts _ k_6_164) (fun _ h9 => h9) (mg_size _ _) d_Mo_paint_1 ?_
  refine lv_iconst (v := 1) hx hb d_Mo_paint_4 (by decide) ?_
  refine lv_isub hx hb d_Mo_paint_5 ?_
  refine lv_topi (fun x1 ex1 => ?_)
  have fx1 : x1.toInt = ((f_size S).toInt - 1) := by rw [ex1]; exact (zt_sub (show (f_size S).toInt = _ from rfl) tI_1 (by omega) (by omega)).trans (by omega)
  refine lv_istore_n (lv' := [(2, .int x1), (0, .ref h0), (1, .int 65)]) hx hb d_Mo_paint_6 rfl hl (by decide) rfl (fun ls hl => ?_)
  refine lv_iload_n hx hb d_Mo_paint_7 rfl (lv_at hl 2 rfl) ?_
  refine lv_bipush (v := 65) hx hb d_Mo_paint_8 (by decide) ?_
  refine lv_icmp_eq (tgt := 19) hx hb d_Mo_paint_10 (by decide) (fun _ => ?_) (fun c9 => absurd c9 (by decide +kernel))
  refine lv_aload_n hx hb d_Mo_paint_19 rfl (lv_at hl 1 rfl) ?_
  refine lv_iload_n hx hb d_Mo_paint_20 rfl (lv_at hl 0 rfl) ?_
  refine lv_iconst (v := 1) hx hb d_Mo_paint_21 (by decide) ?_
  refine lv_isub hx hb d_Mo_paint_22 ?_
  refine lv_topi (fun x2 ex2 => ?_)
  have fx2 : x2.toInt = ((f_size S).toInt - 2) := by rw [ex2]; exact (zt_sub fx1 tI_1 (by omega) (by omega)).trans (by omega)
  have kv1 : vOk ((a_kinds S) (((f_size S).toInt - 2).toNat)) ((a_codes S) (((f_size S).toInt - 2).toNat)) ((a_reals S) (((f_size S).toInt - 2).toNat)) := i_vals (((f_size S).toInt - 2).toNat) (by omega)
  have rkv1 := vk_rng kv1
  refine jm_cd (w := (fun _ => S)) hK hP hD hS hA (va_runV (As := [.int x2]) (rest := []) F (m_numberAt l D T h0 ar S x2 s.heap.size ⟨i_size, i_taken, i_vals, i_room, i_dicts, i_deep, i_open, i_cells, i_points, i_part, i_length, i_knows, i_page, i_text, i_pats, i_fuel, i_fr, i_ink⟩ (show 0 ≤ x2.toInt ∧ x2.toInt < 1300 by first | omega | (simp only [fx2]; omega))) (j_cV (k := 1) (C := "PageScribeModel") hts k_7_207 k_1_12 k_7_204 k_7_206 k_0_110 (by decide +kernel) ⟨Nat.le_of_ble_eq_true rfl, Nat.le_of_ble_eq_true rfl⟩) (jm_pre hK hP hD) rfl rfl hl.1 rfl (lv_room (Nat.le_of_ble_eq_true rfl)) d_Mo_paint_23 ⟨Nat.le_of_ble_eq_true rfl, Nat.le_of_ble_eq_true rfl⟩) (fun rv1 u1 H locs hw1 hP hD hS => ?_)
  have hP : va_P D classes (mW T h0 ar S) H := hP
  have hD : va_D A (mW T h0 ar S) := hD
  have qhw1 : dB rv1 := by simpa only [fx2] using hw1
  refine lv_goto (tgt := 30) hx hb d_Mo_paint_26 (by decide) ?_
  refine lv_dstore_n (lv' := [(3, .double rv1), (2, .int x1), (0, .ref h0), (1, .int 65)]) hx hb d_Mo_paint_30 rfl hl (by decide) rfl (fun ls hl => ?_)
  refine lv_iload_n hx hb d_Mo_paint_31 rfl (lv_at hl 3 rfl) ?_
  refine lv_bipush (v := 62) hx hb d_Mo_paint_32 (by decide) ?_
  refine lv_icmp_le (tgt := 57) hx hb d_Mo_paint_34 (by decide) (fun c9 => absurd c9 (by decide +kernel)) (fun _ => ?_)
  refine lv_iload_n hx hb d_Mo_paint_37 rfl (lv_at hl 3 rfl) ?_
  refine lv_bipush (v := 67) hx hb d_Mo_paint_38 (by decide) ?_
  refine lv_icmp_ge (tgt := 57) hx hb d_Mo_paint_40 (by decide) (fun c9 => absurd c9 (by decide +kernel)) (fun _ => ?_)
  refine lv_iload_n hx hb d_Mo_paint_43 rfl (lv_at hl 3 rfl) ?_
  refine lv_bipush (v := 64) hx hb d_Mo_paint_44 (by decide) ?_
  refine lv_icmp_eq (tgt := 57) hx hb d_Mo_paint_46 (by decide) (fun c9 => absurd c9 (by decide +kernel)) (fun _ => ?_)
  refine lv_aload_n hx hb d_Mo_paint_49 rfl (lv_at hl 2 rfl) ?_
  refine lv_iload_n hx hb d_Mo_paint_50 rfl (lv_at hl 1 rfl) ?_
  have kv2 : vOk ((a_kinds S) (((f_size S).toInt - 1).toNat)) ((a_codes S) (((f_size S).toInt - 1).toNat)) ((a_reals S) (((f_size S).toInt - 1).toNat)) := i_vals (((f_size S).toInt - 1).toNat) (by omega)
  have rkv2 := vk_rng kv2
  refine jm_cd (w := (fun _ => S)) hK hP hD hS hA (va_runV (As := [.int x1]) (rest := []) F (m_numberAt l D T h0 ar S x1 H.size ⟨i_size, i_taken, i_vals, i_room, i_dicts, i_deep, i_open, i_cells, i_points, i_part, i_length, i_knows, i_page, i_text, i_pats, i_fuel, i_fr, i_ink⟩ (show 0 ≤ x1.toInt ∧ x1.toInt < 1300 by first | omega | (simp only [fx1]; omega))) (j_cV (k := 1) (C := "PageScribeModel") hts k_7_207 k_1_12 k_7_204 k_7_206 k_0_110 (by decide +kernel) ⟨Nat.le_of_ble_eq_true rfl, Nat.le_of_ble_eq_true rfl⟩) (jm_pre hK hP hD) rfl rfl hl.1 rfl (lv_room (Nat.le_of_ble_eq_true rfl)) d_Mo_paint_51 ⟨Nat.le_of_ble_eq_true rfl, Nat.le_of_ble_eq_true rfl⟩) (fun rv2 u2 H locs hw2 hP hD hS => ?_)
  have hP : va_P D classes (mW T h0 ar S) H := hP
  have hD : va_D A (mW T h0 ar S) := hD
  have qhw2 : dB rv2 := by simpa only [fx1] using hw2
  refine lv_goto (tgt := 58) hx hb d_Mo_paint_54 (by decide) ?_
  refine lv_dstore (lv' := [(5, .double rv2), (3, .double rv1), (2, .int x1), (0, .ref h0), (1, .int 65)]) hx hb d_Mo_paint_58 hl (by decide) rfl (fun ls hl => ?_)
  refine lv_iload_n hx hb d_Mo_paint_60 rfl (lv_at hl 4 rfl) ?_
  refine lv_tableIn (off := 77) (tgt := 138) hx hb d_Mo_paint_61 (by decide +kernel) (by decide +kernel) (by decide +kernel) (by decide) ?_
  refine lv_dload_n hx hb d_Mo_paint_138 rfl (lv_at hl 1 rfl) ?_
  refine lv_ldc2d (v := 4696837146684686336) hx hb hown (hts _ k_8_96) d_Mo_paint_139 ?_
  have := tD_4696837146684686336
  refine lv_dcmp hx hb d_Mo_paint_142 ?_
  refine lv_topi (fun x3 ex3 => ?_)
  refine lv_if_gt (tgt := 172) hx hb d_Mo_paint_143 (by decide) (fun c143_1 => ?_) (fun c143_1 => ?_)
  · have fc143_1 : 0 < x3.toInt := zt_lt tI_0 (show x3.toInt = _ from rfl) c143_1
    have vc143_1 : dk rv1 > dk 4696837146684686336 := by have := zr_dcmp (a := rv1) (b := 4696837146684686336) ex3 (show dN rv1 by omega) (show dN 4696837146684686336 by omega); have := zt_lt tI_0 (show x3.toInt = _ from rfl) c143_1; omega
    refine lv_iconst (v := 4) hx hb d_Mo_paint_172 (by decide) ?_
    exact j_iret F hr hlocks hK hS S ⟨⟨i_size, i_taken, i_vals, i_room, i_dicts, i_deep, i_open, i_cells, i_points, i_part, i_length, i_knows, i_page, i_text, i_pats, i_fuel, i_fr, i_ink⟩, (kA_r S), (kF_r S), (show 0 ≤ (4 : Int32).toInt ∧ (4 : Int32).toInt ≤ 15 by have := tI_4; omega)⟩ hP hD d_Mo_paint_173
  · have fc143_1 : x3.toInt ≤ 0 := Int.not_lt.mp (zt_nlt tI_0 (show x3.toInt = _ from rfl) c143_1)
    have vc143_1 : dk rv1 ≤ dk 4696837146684686336 := by have := zr_dcmp (a := rv1) (b := 4696837146684686336) ex3 (show dN rv1 by omega) (show dN 4696837146684686336 by omega); have := Int.not_lt.mp (zt_nlt tI_0 (show x3.toInt = _ from rfl) c143_1); omega
    refine lv_dload_n hx hb d_Mo_paint_146 rfl (lv_at hl 1 rfl) ?_
    refine lv_ldc2d (v := 13920209183539462144) hx hb hown (hts _ k_8_97) d_Mo_paint_147 ?_
    have := tD_13920209183539462144
    refine lv_dcmp hx hb d_Mo_paint_150 ?_
    refine lv_topi (fun x4 ex4 => ?_)
    refine lv_if_lt (tgt := 172) hx hb d_Mo_paint_151 (by decide) (fun c151_1 => ?_) (fun c151_1 => ?_)
    · have fc151_1 : x4.toInt < 0 := zt_lt (show x4.toInt = _ from rfl) tI_0 c151_1
      have vc151_1 : dk rv1 < dk 13920209183539462144 := by have := zr_dcmp (a := rv1) (b := 13920209183539462144) ex4 (show dN rv1 by omega) (show dN 13920209183539462144 by omega); have := zt_lt (show x4.toInt = _ from rfl) tI_0 c151_1; omega
      refine lv_iconst (v := 4) hx hb d_Mo_paint_172 (by decide) ?_
      exact j_iret F hr hlocks hK hS S ⟨⟨i_size, i_taken, i_vals, i_room, i_dicts, i_deep, i_open, i_cells, i_points, i_part, i_length, i_knows, i_page, i_text, i_pats, i_fuel, i_fr, i_ink⟩, (kA_r S), (kF_r S), (show 0 ≤ (4 : Int32).toInt ∧ (4 : Int32).toInt ≤ 15 by have := tI_4; omega)⟩ hP hD d_Mo_paint_173
    · have fc151_1 : 0 ≤ x4.toInt := Int.not_lt.mp (zt_nlt (show x4.toInt = _ from rfl) tI_0 c151_1)
      have vc151_1 : dk rv1 ≥ dk 13920209183539462144 := by have := zr_dcmp (a := rv1) (b := 13920209183539462144) ex4 (show dN rv1 by omega) (show dN 13920209183539462144 by omega); have := Int.not_lt.mp (zt_nlt (show x4.toInt = _ from rfl) tI_0 c151_1); omega
      refine lv_dload hx hb d_Mo_paint_154 (lv_at hl 0 rfl) ?_
      refine lv_ldc2d (v := 4696837146684686336) hx hb hown (hts _ k_8_96) d_Mo_paint_156 ?_
      have := tD_4696837146684686336
      refine lv_dcmp hx hb d_Mo_paint_159 ?_
      refine lv_topi (fun x5 ex5 => ?_)
      refine lv_if_gt (tgt := 172) hx hb d_Mo_paint_160 (by decide) (fun c160_1 => ?_) (fun c160_1 => ?_)
      · have fc160_1 : 0 < x5.toInt := zt_lt tI_0 (show x5.toInt = _ from rfl) c160_1
        have vc160_1 : dk rv2 > dk 4696837146684686336 := by have := zr_dcmp (a := rv2) (b := 4696837146684686336) ex5 (show dN rv2 by omega) (show dN 4696837146684686336 by omega); have := zt_lt tI_0 (show x5.toInt = _ from rfl) c160_1; omega
        refine lv_iconst (v := 4) hx hb d_Mo_paint_172 (by decide) ?_
        exact j_iret F hr hlocks hK hS S ⟨⟨i_size, i_taken, i_vals, i_room, i_dicts, i_deep, i_open, i_cells, i_points, i_part, i_length, i_knows, i_page, i_text, i_pats, i_fuel, i_fr, i_ink⟩, (kA_r S), (kF_r S), (show 0 ≤ (4 : Int32).toInt ∧ (4 : Int32).toInt ≤ 15 by have := tI_4; omega)⟩ hP hD d_Mo_paint_173
      · have fc160_1 : x5.toInt ≤ 0 := Int.not_lt.mp (zt_nlt tI_0 (show x5.toInt = _ from rfl) c160_1)
        have vc160_1 : dk rv2 ≤ dk 4696837146684686336 := by have := zr_dcmp (a := rv2) (b := 4696837146684686336) ex5 (show dN rv2 by omega) (show dN 4696837146684686336 by omega); have := Int.not_lt.mp (zt_nlt tI_0 (show x5.toInt = _ from rfl) c160_1); omega
        refine lv_dload hx hb d_Mo_paint_163 (lv_at hl 0 rfl) ?_
        refine lv_ldc2d (v := 13920209183539462144) hx hb hown (hts _ k_8_97) d_Mo_paint_165 ?_
        have := tD_13920209183539462144
        refine lv_dcmp hx hb d_Mo_paint_168 ?_
        refine lv_topi (fun x6 ex6 => ?_)
        refine lv_if_ge (tgt := 174) hx hb d_Mo_paint_169 (by decide) (fun c169_1 => ?_) (fun c169_1 => ?_)
        · have fc169_1 : 0 ≤ x6.toInt := zt_le tI_0 (show x6.toInt = _ from rfl) c169_1
          have vc169_1 : dk rv2 ≥ dk 13920209183539462144 := by have := zr_dcmp (a := rv2) (b := 13920209183539462144) ex6 (show dN rv2 by omega) (show dN 13920209183539462144 by omega); have := zt_le tI_0 (show x6.toInt = _ from rfl) c169_1; omega
          refine lv_iload_n hx hb d_Mo_paint_174 rfl (lv_at hl 4 rfl) ?_
          refine lv_bipush (v := 66) hx hb d_Mo_paint_175 (by decide) ?_
          refine lv_icmp_ne (tgt := 190) hx hb d_Mo_paint_177 (by decide) (fun _ => ?_) (fun c9 => absurd c9 (by decide +kernel))
          refine lv_aload_n hx hb d_Mo_paint_190 rfl (lv_at hl 3 rfl) ?_
          refine va_get (D := D) (ci := 11) (v := .int (f_points S)) (C := "PageScribeModel") (T := F_Mo) (N := 45) hx hb hts i_Mo hown hK hP 0 mW_0 cl_11 41 (by decide) (hts _ k_6_201) (fun _ h9 => h9) (mg_points _ _) d_Mo_paint_191 ?_
          refine lv_bipush (v := 30) hx hb d_Mo_paint_194 (by decide) ?_
          refine lv_icmp_ne (tgt := 202) hx hb d_Mo_paint_196 (by decide) (fun c196_1 => ?_) (fun c196_1 => ?_)
          · first | have fc196_1 : (f_points S).toInt < 30 := (by have := zt_ne (show (f_points S).toInt = _ from rfl) tI_30 c196_1; omega) | have fc196_1 : 30 < (f_points S).toInt := (by have := zt_ne (show (f_points S).toInt = _ from rfl) tI_30 c196_1; omega) | skip
            refine lv_aload_n hx hb d_Mo_paint_202 rfl (lv_at hl 3 rfl) ?_
            refine lv_dup hx hb d_Mo_paint_203 rfl ?_
            refine va_get (D := D) (ci := 11) (v := .int (f_size S)) (C := "PageScribeModel") (T := F_Mo) (N := 45) hx hb hts i_Mo hown hK hP 0 mW_0 cl_11 4 (by decide) (hts _ k_6_164) (fun _ h9 => h9) (mg_size _ _) d_Mo_paint_204 ?_
            refine lv_iconst (v := 2) hx hb d_Mo_paint_207 (by decide) ?_
            refine lv_isub hx hb d_Mo_paint_208 ?_
            refine lv_topi (fun x7 ex7 => ?_)
            have fx7 : x7.toInt = ((f_size S).toInt - 2) := by rw [ex7]; exact (zt_sub (show (f_size S).toInt = _ from rfl) tI_2 (by omega) (by omega)).trans (by omega)
            refine va_put (D := D) (ci := 11) (v := .int x7) (ty := .int) (C := "PageScribeModel") (T := F_Mo) (N := 45) hx hb hts i_Mo t_Mo t_Mo_ok n_Mo hown hK hP hD hS 0 mW_0 cl_11 4 (by decide) (hts _ k_6_164) (fun _ h9 => h9) rfl (by decide +kernel) rfl rfl (Nat.le_of_ble_eq_true rfl) d_Mo_paint_209 (fun H locs hP hD hS => ?_)
            rw [mp_size] at hP hD
            have hP : va_P D classes (mW T h0 ar ((((f_thrown S), (a_kinds S), (a_codes S), (a_reals S), x7, (f_taken S), (a_words S), (a_many S)), S.2.1, S.2.2.1, S.2.2.2.1, S.2.2.2.2.1, S.2.2.2.2.2) : MS)) H := hP
            have hD : va_D A (mW T h0 ar ((((f_thrown S), (a_kinds S), (a_codes S), (a_reals S), x7, (f_taken S), (a_words S), (a_many S)), S.2.1, S.2.2.1, S.2.2.2.1, S.2.2.2.2.1, S.2.2.2.2.2) : MS)) := hD
            refine lv_aload_n hx hb d_Mo_paint_212 rfl (lv_at hl 3 rfl) ?_
            refine lv_dload_n hx hb d_Mo_paint_213 rfl (lv_at hl 1 rfl) ?_
            refine lv_dload hx hb d_Mo_paint_214 (lv_at hl 0 rfl) ?_
            refine lv_iload_n hx hb d_Mo_paint_216 rfl (lv_at hl 4 rfl) ?_
            refine lv_bipush (v := 65) hx hb d_Mo_paint_217 (by decide) ?_
            refine lv_icmp_ne (tgt := 229) hx hb d_Mo_paint_219 (by decide) (fun c9 => absurd c9 (by decide +kernel)) (fun _ => ?_)
            refine lv_aload_n hx hb d_Mo_paint_222 rfl (lv_at hl 3 rfl) ?_
            refine va_get (D := D) (ci := 11) (v := .int (f_points S)) (C := "PageScribeModel") (T := F_Mo) (N := 45) hx hb hts i_Mo hown hK hP 0 mW_0 cl_11 41 (by decide) (hts _ k_6_201) (fun _ h9 => h9) (mg_points _ _) d_Mo_paint_223 ?_
            refine lv_goto (tgt := 240) hx hb d_Mo_paint_226 (by decide) ?_
            refine jm_ci (w := (fun u => u)) hK hP hD hS hA (va_runV (As := [.double rv1, .double rv2, .int (f_points S)]) (rest := []) F (m_point l D T h0 ar ((((f_thrown S), (a_kinds S), (a_codes S), (a_reals S), x7, (f_taken S), (a_words S), (a_many S)), S.2.1, S.2.2.1, S.2.2.2.1, S.2.2.2.2.1, S.2.2.2.2.2) : MS) rv1 rv2 (f_points S) H.size ⟨(show 0 ≤ x7.toInt ∧ x7.toInt ≤ 40 by omega), i_taken, i_vals, i_room, i_dicts, i_deep, i_open, i_cells, i_points, i_part, i_length, i_knows, i_page, i_text, i_pats, i_fuel, i_fr, i_ink⟩ (show (f_points S).toInt < 30 by omega) (show dI rv1 by omega) (show dI rv2 by omega) (show 0 ≤ (f_points S).toInt ∧ (f_points S).toInt ≤ 29 by omega)) (j_cV (k := 3) (C := "PageScribeModel") hts k_8_101 k_1_12 k_8_98 k_8_100 k_0_139 (by decide +kernel) ⟨Nat.le_of_ble_eq_true rfl, Nat.le_of_ble_eq_true rfl⟩) (jm_pre hK hP hD) rfl rfl hl.1 rfl (lv_room (Nat.le_of_ble_eq_true rfl)) d_Mo_paint_240 ⟨Nat.le_of_ble_eq_true rfl, Nat.le_of_ble_eq_true rfl⟩) (fun rv3 S1 H locs hw3 hP hD hS => ?_)
            have hP : va_P D classes (mW T h0 ar S1) H := hP
            have hD : va_D A (mW T h0 ar S1) := hD
            obtain ⟨⟨i_size, i_taken, i_vals, i_room, i_dicts, i_deep, i_open, i_cells, i_points, i_part, i_length, i_knows, i_page, i_text, i_pats, i_fuel, i_fr, i_ink⟩, kpA_S1, kpF_S1, qqhw3⟩ := hw3
            have kSA_S1 : kA S S1 := kA_t (show kA S ((((f_thrown S), (a_kinds S), (a_codes S), (a_reals S), x7, (f_taken S), (a_words S), (a_many S)), S.2.1, S.2.2.1, S.2.2.2.1, S.2.2.2.2.1, S.2.2.2.2.2) : MS) from (kA_r S)) kpA_S1
            have kSF_S1 : kF S S1 := kF_t (show kF S ((((f_thrown S), (a_kinds S), (a_codes S), (a_reals S), x7, (f_taken S), (a_words S), (a_many S)), S.2.1, S.2.2.1, S.2.2.2.1, S.2.2.2.2.1, S.2.2.2.2.2) : MS) from (kF_r S)) kpF_S1
            have kST_S1 : kT S S1 := kT_t (show kT S ((((f_thrown S), (a_kinds S), (a_codes S), (a_reals S), x7, (f_taken S), (a_words S), (a_many S)), S.2.1, S.2.2.1, S.2.2.2.1, S.2.2.2.2.1, S.2.2.2.2.2) : MS) from (kT_r S)) (kT_A kpA_S1)
            have qhw3 : rv3.toInt = 0 := by simpa only [fx7] using qqhw3
            exact j_iret F hr hlocks hK hS S1 ⟨⟨i_size, i_taken, i_vals, i_room, i_dicts, i_deep, i_open, i_cells, i_points, i_part, i_length, i_knows, i_page, i_text, i_pats, i_fuel, i_fr, i_ink⟩, kSA_S1, kSF_S1, (show 0 ≤ rv3.toInt ∧ rv3.toInt ≤ 15 by omega)⟩ hP hD d_Mo_paint_243
          · have fc196_1 : (f_points S).toInt = 30 := zt_eq (show (f_points S).toInt = _ from rfl) tI_30 c196_1
            refine lv_bipush (v := 7) hx hb d_Mo_paint_199 (by decide) ?_
            exact j_iret F hr hlocks hK hS S ⟨⟨i_size, i_taken, i_vals, i_room, i_dicts, i_deep, i_open, i_cells, i_points, i_part, i_length, i_knows, i_page, i_text, i_pats, i_fuel, i_fr, i_ink⟩, (kA_r S), (kF_r S), (show 0 ≤ (7 : Int32).toInt ∧ (7 : Int32).toInt ≤ 15 by have := tI_7; omega)⟩ hP hD d_Mo_paint_201
        · have fc169_1 : x6.toInt < 0 := Int.not_le.mp (zt_nle tI_0 (show x6.toInt = _ from rfl) c169_1)
          have vc169_1 : dk rv2 < dk 13920209183539462144 := by have := zr_dcmp (a := rv2) (b := 13920209183539462144) ex6 (show dN rv2 by omega) (show dN 13920209183539462144 by omega); have := Int.not_le.mp (zt_nle tI_0 (show x6.toInt = _ from rfl) c169_1); omega
          refine lv_iconst (v := 4) hx hb d_Mo_paint_172 (by decide) ?_
          exact j_iret F hr hlocks hK hS S ⟨⟨i_size, i_taken, i_vals, i_room, i_dicts, i_deep, i_open, i_cells, i_points, i_part, i_length, i_knows, i_page, i_text, i_pats, i_fuel, i_fr, i_ink⟩, (kA_r S), (kF_r S), (show 0 ≤ (4 : Int32).toInt ∧ (4 : Int32).toInt ≤ 15 by have := tI_4; omega)⟩ hP hD d_Mo_paint_173
theorem d_Mo_paint_180 : decode prog_15_method_71_code 180 = .ok (.aload_n 0, 1) := by decide +kernel
theorem d_Mo_paint_181 : decode prog_15_method_71_code 181 = .ok (.getfield 547, 3) := by decide +kernel
theorem d_Mo_paint_184 : decode prog_15_method_71_code 184 = .ok (.ifCond .ne 6, 3) := by decide +kernel
theorem d_Mo_paint_229 : decode prog_15_method_71_code 229 = .ok (.aload_n 0, 1) := by decide +kernel
theorem d_Mo_paint_230 : decode prog_15_method_71_code 230 = .ok (.getfield 84, 3) := by decide +kernel
theorem d_Mo_paint_233 : decode prog_15_method_71_code 233 = .ok (.aload_n 0, 1) := by decide +kernel
theorem d_Mo_paint_234 : decode prog_15_method_71_code 234 = .ok (.getfield 547, 3) := by decide +kernel
theorem d_Mo_paint_237 : decode prog_15_method_71_code 237 = .ok (.iconst 1, 1) := by decide +kernel
theorem d_Mo_paint_238 : decode prog_15_method_71_code 238 = .ok (.isub, 1) := by decide +kernel
theorem d_Mo_paint_239 : decode prog_15_method_71_code 239 = .ok (.iaload, 1) := by decide +kernel
theorem d_Mo_paint_187 : decode prog_15_method_71_code 187 = .ok (.bipush 13, 2) := by decide +kernel
theorem d_Mo_paint_189 : decode prog_15_method_71_code 189 = .ok (.ireturn, 1) := by decide +kernel
set_option maxHeartbeats 4000000 in
set_option maxRecDepth 100000 in
theorem m_paint_66 (l : Launch) (D : va_G) (T : Nat → ClassId) (h0 : Nat) (ar : Nat → Nat) (S : MS)  (sz : Nat) (hI : MI S) (h1 : 2 ≤ (f_size S).toInt) : Met l ⟨"PageScribeModel", "paint", "(I)I"⟩ (wy ⟨"PageScribeModel", "paint", "(I)I"⟩ prog_15_method_71_code 8 (some .int)) ({ frames := 1, cells := 0, slots := 0, locals := 70 }) (va_Pc [.ref h0, .int 66] (Pw D T (mW T h0 ar S) sz E0)) (va_Qi (fun (r : Int32) (u : MS) => MI u ∧ kA S u ∧ kF S u ∧ (0 ≤ r.toInt ∧ r.toInt ≤ 15)) (fun u t => Bw D T (va_A (mW T h0 ar S) sz) (mW T h0 ar u) t) (va_A (mW T h0 ar S) sz)) 0 0 (va_A (mW T h0 ar S) sz) := by
  refine j_met (y := ⟨"PageScribeModel", "paint", "(I)I"⟩) (b := prog_15_method_71_code) (n := 8) (ret := (some .int)) (av := [.ref h0, .int 66]) (Qc := fun A => va_Qi (fun (r : Int32) (u : MS) => MI u ∧ kA S u ∧ kF S u ∧ (0 ≤ r.toInt ∧ r.toInt ≤ 15)) (fun u t => Bw D T A (mW T h0 ar u) t) A) (by decide +kernel) (Nat.le_of_ble_eq_true rfl) (fun p e s m args below meth c A ls F hr hlocks hnm hK hP hD hS hA hN hE hl => ?_)
  obtain ⟨hx, hb, hml, hown, hts⟩ := id F
  have hl : lv_has ls 8 [(0, .ref h0), (1, .int 66)] := hl
  obtain ⟨i_size, i_taken, i_vals, i_room, i_dicts, i_deep, i_open, i_cells, i_points, i_part, i_length, i_knows, i_page, i_text, i_pats, i_fuel, i_fr, i_ink⟩ := id hI
  refine lv_aload_n hx hb d_Mo_paint_0 rfl (lv_at hl 0 rfl) ?_
  refine va_get (D := D) (ci := 11) (v := .int (f_size S)) (C := "PageScribeModel") (T := F_Mo) (N := 45) hx hb hts i_Mo hown hK hP 0 mW_0 cl_11 4 (by decide) (hts _ k_6_164) (fun _ h9 => h9) (mg_size _ _) d_Mo_paint_1 ?_
  refine lv_iconst (v := 1) hx hb d_Mo_paint_4 (by decide) ?_
  refine lv_isub hx hb d_Mo_paint_5 ?_
  refine lv_topi (fun x1 ex1 => ?_)
  have fx1 : x1.toInt = ((f_size S).toInt - 1) := by rw [ex1]; exact (zt_sub (show (f_size S).toInt = _ from rfl) tI_1 (by omega) (by omega)).trans (by omega)
  refine lv_istore_n (lv' := [(2, .int x1), (0, .ref h0), (1, .int 66)]) hx hb d_Mo_paint_6 rfl hl (by decide) rfl (fun ls hl => ?_)
  refine lv_iload_n hx hb d_Mo_paint_7 rfl (lv_at hl 2 rfl) ?_
  refine lv_bipush (v := 65) hx hb d_Mo_paint_8 (by decide) ?_
  refine lv_icmp_eq (tgt := 19) hx hb d_Mo_paint_10 (by decide) (fun c9 => absurd c9 (by decide +kernel)) (fun _ => ?_)
  refine lv_iload_n hx hb d_Mo_paint_13 rfl (lv_at hl 2 rfl) ?_
  refine lv_bipush (v := 66) hx hb d_Mo_paint_14 (by decide) ?_
  refine lv_icmp_ne (tgt := 29) hx hb d_Mo_paint_16 (by decide) (fun c9 => absurd c9 (by decide +kernel)) (fun _ => ?_)
  refine lv_aload_n hx hb d_Mo_paint_19 rfl (lv_at hl 1 rfl) ?_
  refine lv_iload_n hx hb d_Mo_paint_20 rfl (lv_at hl 0 rfl) ?_
  refine lv_iconst (v := 1) hx hb d_Mo_paint_21 (by decide) ?_
  refine lv_isub hx hb d_Mo_paint_22 ?_
  refine lv_topi (fun x2 ex2 => ?_)
  have fx2 : x2.toInt = ((f_size S).toInt - 2) := by rw [ex2]; exact (zt_sub fx1 tI_1 (by omega) (by omega)).trans (by omega)
  have kv1 : vOk ((a_kinds S) (((f_size S).toInt - 2).toNat)) ((a_codes S) (((f_size S).toInt - 2).toNat)) ((a_reals S) (((f_size S).toInt - 2).toNat)) := i_vals (((f_size S).toInt - 2).toNat) (by omega)
  have rkv1 := vk_rng kv1
  refine jm_cd (w := (fun _ => S)) hK hP hD hS hA (va_runV (As := [.int x2]) (rest := []) F (m_numberAt l D T h0 ar S x2 s.heap.size ⟨i_size, i_taken, i_vals, i_room, i_dicts, i_deep, i_open, i_cells, i_points, i_part, i_length, i_knows, i_page, i_text, i_pats, i_fuel, i_fr, i_ink⟩ (show 0 ≤ x2.toInt ∧ x2.toInt < 1300 by first | omega | (simp only [fx2]; omega))) (j_cV (k := 1) (C := "PageScribeModel") hts k_7_207 k_1_12 k_7_204 k_7_206 k_0_110 (by decide +kernel) ⟨Nat.le_of_ble_eq_true rfl, Nat.le_of_ble_eq_true rfl⟩) (jm_pre hK hP hD) rfl rfl hl.1 rfl (lv_room (Nat.le_of_ble_eq_true rfl)) d_Mo_paint_23 ⟨Nat.le_of_ble_eq_true rfl, Nat.le_of_ble_eq_true rfl⟩) (fun rv1 u1 H locs hw1 hP hD hS => ?_)
  have hP : va_P D classes (mW T h0 ar S) H := hP
  have hD : va_D A (mW T h0 ar S) := hD
  have qhw1 : dB rv1 := by simpa only [fx2] using hw1
  refine lv_goto (tgt := 30) hx hb d_Mo_paint_26 (by decide) ?_
  refine lv_dstore_n (lv' := [(3, .double rv1), (2, .int x1), (0, .ref h0), (1, .int 66)]) hx hb d_Mo_paint_30 rfl hl (by decide) rfl (fun ls hl => ?_)
  refine lv_iload_n hx hb d_Mo_paint_31 rfl (lv_at hl 3 rfl) ?_
  refine lv_bipush (v := 62) hx hb d_Mo_paint_32 (by decide) ?_
  refine lv_icmp_le (tgt := 57) hx hb d_Mo_paint_34 (by decide) (fun c9 => absurd c9 (by decide +kernel)) (fun _ => ?_)
  refine lv_iload_n hx hb d_Mo_paint_37 rfl (lv_at hl 3 rfl) ?_
  refine lv_bipush (v := 67) hx hb d_Mo_paint_38 (by decide) ?_
  refine lv_icmp_ge (tgt := 57) hx hb d_Mo_paint_40 (by decide) (fun c9 => absurd c9 (by decide +kernel)) (fun _ => ?_)
  refine lv_iload_n hx hb d_Mo_paint_43 rfl (lv_at hl 3 rfl) ?_
  refine lv_bipush (v := 64) hx hb d_Mo_paint_44 (by decide) ?_
  refine lv_icmp_eq (tgt := 57) hx hb d_Mo_paint_46 (by decide) (fun c9 => absurd c9 (by decide +kernel)) (fun _ => ?_)
  refine lv_aload_n hx hb d_Mo_paint_49 rfl (lv_at hl 2 rfl) ?_
  refine lv_iload_n hx hb d_Mo_paint_50 rfl (lv_at hl 1 rfl) ?_
  have kv2 : vOk ((a_kinds S) (((f_size S).toInt - 1).toNat)) ((a_codes S) (((f_size S).toInt - 1).toNat)) ((a_reals S) (((f_size S).toInt - 1).toNat)) := i_vals (((f_size S).toInt - 1).toNat) (by omega)
  have rkv2 := vk_rng kv2
  refine jm_cd (w := (fun _ => S)) hK hP hD hS hA (va_runV (As := [.int x1]) (rest := []) F (m_numberAt l D T h0 ar S x1 H.size ⟨i_size, i_taken, i_vals, i_room, i_dicts, i_deep, i_open, i_cells, i_points, i_part, i_length, i_knows, i_page, i_text, i_pats, i_fuel, i_fr, i_ink⟩ (show 0 ≤ x1.toInt ∧ x1.toInt < 1300 by first | omega | (simp only [fx1]; omega))) (j_cV (k := 1) (C := "PageScribeModel") hts k_7_207 k_1_12 k_7_204 k_7_206 k_0_110 (by decide +kernel) ⟨Nat.le_of_ble_eq_true rfl, Nat.le_of_ble_eq_true rfl⟩) (jm_pre hK hP hD) rfl rfl hl.1 rfl (lv_room (Nat.le_of_ble_eq_true rfl)) d_Mo_paint_51 ⟨Nat.le_of_ble_eq_true rfl, Nat.le_of_ble_eq_true rfl⟩) (fun rv2 u2 H locs hw2 hP hD hS => ?_)
  have hP : va_P D classes (mW T h0 ar S) H := hP
  have hD : va_D A (mW T h0 ar S) := hD
  have qhw2 : dB rv2 := by simpa only [fx1] using hw2
  refine lv_goto (tgt := 58) hx hb d_Mo_paint_54 (by decide) ?_
  refine lv_dstore (lv' := [(5, .double rv2), (3, .double rv1), (2, .int x1), (0, .ref h0), (1, .int 66)]) hx hb d_Mo_paint_58 hl (by decide) rfl (fun ls hl => ?_)
  refine lv_iload_n hx hb d_Mo_paint_60 rfl (lv_at hl 4 rfl) ?_
  refine lv_tableIn (off := 77) (tgt := 138) hx hb d_Mo_paint_61 (by decide +kernel) (by decide +kernel) (by decide +kernel) (by decide) ?_
  refine lv_dload_n hx hb d_Mo_paint_138 rfl (lv_at hl 1 rfl) ?_
  refine lv_ldc2d (v := 4696837146684686336) hx hb hown (hts _ k_8_96) d_Mo_paint_139 ?_
  have := tD_4696837146684686336
  refine lv_dcmp hx hb d_Mo_paint_142 ?_
  refine lv_topi (fun x3 ex3 => ?_)
  refine lv_if_gt (tgt := 172) hx hb d_Mo_paint_143 (by decide) (fun c143_1 => ?_) (fun c143_1 => ?_)
  · have fc143_1 : 0 < x3.toInt := zt_lt tI_0 (show x3.toInt = _ from rfl) c143_1
    have vc143_1 : dk rv1 > dk 4696837146684686336 := by have := zr_dcmp (a := rv1) (b := 4696837146684686336) ex3 (show dN rv1 by omega) (show dN 4696837146684686336 by omega); have := zt_lt tI_0 (show x3.toInt = _ from rfl) c143_1; omega
    refine lv_iconst (v := 4) hx hb d_Mo_paint_172 (by decide) ?_
    exact j_iret F hr hlocks hK hS S ⟨⟨i_size, i_taken, i_vals, i_room, i_dicts, i_deep, i_open, i_cells, i_points, i_part, i_length, i_knows, i_page, i_text, i_pats, i_fuel, i_fr, i_ink⟩, (kA_r S), (kF_r S), (show 0 ≤ (4 : Int32).toInt ∧ (4 : Int32).toInt ≤ 15 by have := tI_4; omega)⟩ hP hD d_Mo_paint_173
  · have fc143_1 : x3.toInt ≤ 0 := Int.not_lt.mp (zt_nlt tI_0 (show x3.toInt = _ from rfl) c143_1)
    have vc143_1 : dk rv1 ≤ dk 4696837146684686336 := by have := zr_dcmp (a := rv1) (b := 4696837146684686336) ex3 (show dN rv1 by omega) (show dN 4696837146684686336 by omega); have := Int.not_lt.mp (zt_nlt tI_0 (show x3.toInt = _ from rfl) c143_1); omega
    refine lv_dload_n hx hb d_Mo_paint_146 rfl (lv_at hl 1 rfl) ?_
    refine lv_ldc2d (v := 13920209183539462144) hx hb hown (hts _ k_8_97) d_Mo_paint_147 ?_
    have := tD_13920209183539462144
    refine lv_dcmp hx hb d_Mo_paint_150 ?_
    refine lv_topi (fun x4 ex4 => ?_)
    refine lv_if_lt (tgt := 172) hx hb d_Mo_paint_151 (by decide) (fun c151_1 => ?_) (fun c151_1 => ?_)
    · have fc151_1 : x4.toInt < 0 := zt_lt (show x4.toInt = _ from rfl) tI_0 c151_1
      have vc151_1 : dk rv1 < dk 13920209183539462144 := by have := zr_dcmp (a := rv1) (b := 13920209183539462144) ex4 (show dN rv1 by omega) (show dN 13920209183539462144 by omega); have := zt_lt (show x4.toInt = _ from rfl) tI_0 c151_1; omega
      refine lv_iconst (v := 4) hx hb d_Mo_paint_172 (by decide) ?_
      exact j_iret F hr hlocks hK hS S ⟨⟨i_size, i_taken, i_vals, i_room, i_dicts, i_deep, i_open, i_cells, i_points, i_part, i_length, i_knows, i_page, i_text, i_pats, i_fuel, i_fr, i_ink⟩, (kA_r S), (kF_r S), (show 0 ≤ (4 : Int32).toInt ∧ (4 : Int32).toInt ≤ 15 by have := tI_4; omega)⟩ hP hD d_Mo_paint_173
    · have fc151_1 : 0 ≤ x4.toInt := Int.not_lt.mp (zt_nlt (show x4.toInt = _ from rfl) tI_0 c151_1)
      have vc151_1 : dk rv1 ≥ dk 13920209183539462144 := by have := zr_dcmp (a := rv1) (b := 13920209183539462144) ex4 (show dN rv1 by omega) (show dN 13920209183539462144 by omega); have := Int.not_lt.mp (zt_nlt (show x4.toInt = _ from rfl) tI_0 c151_1); omega
      refine lv_dload hx hb d_Mo_paint_154 (lv_at hl 0 rfl) ?_
      refine lv_ldc2d (v := 4696837146684686336) hx hb hown (hts _ k_8_96) d_Mo_paint_156 ?_
      have := tD_4696837146684686336
      refine lv_dcmp hx hb d_Mo_paint_159 ?_
      refine lv_topi (fun x5 ex5 => ?_)
      refine lv_if_gt (tgt := 172) hx hb d_Mo_paint_160 (by decide) (fun c160_1 => ?_) (fun c160_1 => ?_)
      · have fc160_1 : 0 < x5.toInt := zt_lt tI_0 (show x5.toInt = _ from rfl) c160_1
        have vc160_1 : dk rv2 > dk 4696837146684686336 := by have := zr_dcmp (a := rv2) (b := 4696837146684686336) ex5 (show dN rv2 by omega) (show dN 4696837146684686336 by omega); have := zt_lt tI_0 (show x5.toInt = _ from rfl) c160_1; omega
        refine lv_iconst (v := 4) hx hb d_Mo_paint_172 (by decide) ?_
        exact j_iret F hr hlocks hK hS S ⟨⟨i_size, i_taken, i_vals, i_room, i_dicts, i_deep, i_open, i_cells, i_points, i_part, i_length, i_knows, i_page, i_text, i_pats, i_fuel, i_fr, i_ink⟩, (kA_r S), (kF_r S), (show 0 ≤ (4 : Int32).toInt ∧ (4 : Int32).toInt ≤ 15 by have := tI_4; omega)⟩ hP hD d_Mo_paint_173
      · have fc160_1 : x5.toInt ≤ 0 := Int.not_lt.mp (zt_nlt tI_0 (show x5.toInt = _ from rfl) c160_1)
        have vc160_1 : dk rv2 ≤ dk 4696837146684686336 := by have := zr_dcmp (a := rv2) (b := 4696837146684686336) ex5 (show dN rv2 by omega) (show dN 4696837146684686336 by omega); have := Int.not_lt.mp (zt_nlt tI_0 (show x5.toInt = _ from rfl) c160_1); omega
        refine lv_dload hx hb d_Mo_paint_163 (lv_at hl 0 rfl) ?_
        refine lv_ldc2d (v := 13920209183539462144) hx hb hown (hts _ k_8_97) d_Mo_paint_165 ?_
        have := tD_13920209183539462144
        refine lv_dcmp hx hb d_Mo_paint_168 ?_
        refine lv_topi (fun x6 ex6 => ?_)
        refine lv_if_ge (tgt := 174) hx hb d_Mo_paint_169 (by decide) (fun c169_1 => ?_) (fun c169_1 => ?_)
        · have fc169_1 : 0 ≤ x6.toInt := zt_le tI_0 (show x6.toInt = _ from rfl) c169_1
          have vc169_1 : dk rv2 ≥ dk 13920209183539462144 := by have := zr_dcmp (a := rv2) (b := 13920209183539462144) ex6 (show dN rv2 by omega) (show dN 13920209183539462144 by omega); have := zt_le tI_0 (show x6.toInt = _ from rfl) c169_1; omega
          refine lv_iload_n hx hb d_Mo_paint_174 rfl (lv_at hl 4 rfl) ?_
          refine lv_bipush (v := 66) hx hb d_Mo_paint_175 (by decide) ?_
          refine lv_icmp_ne (tgt := 190) hx hb d_Mo_paint_177 (by decide) (fun c9 => absurd c9 (by decide +kernel)) (fun _ => ?_)
          refine lv_aload_n hx hb d_Mo_paint_180 rfl (lv_at hl 3 rfl) ?_
          refine va_get (D := D) (ci := 11) (v := .int (f_points S)) (C := "PageScribeModel") (T := F_Mo) (N := 45) hx hb hts i_Mo hown hK hP 0 mW_0 cl_11 41 (by decide) (hts _ k_6_201) (fun _ h9 => h9) (mg_points _ _) d_Mo_paint_181 ?_
          refine lv_if_ne (tgt := 190) hx hb d_Mo_paint_184 (by decide) (fun c184_1 => ?_) (fun c184_1 => ?_)
          · first | have fc184_1 : (f_points S).toInt < 0 := (by have := zt_ne (show (f_points S).toInt = _ from rfl) tI_0 c184_1; omega) | have fc184_1 : 0 < (f_points S).toInt := (by have := zt_ne (show (f_points S).toInt = _ from rfl) tI_0 c184_1; omega) | skip
            refine lv_aload_n hx hb d_Mo_paint_190 rfl (lv_at hl 3 rfl) ?_
            refine va_get (D := D) (ci := 11) (v := .int (f_points S)) (C := "PageScribeModel") (T := F_Mo) (N := 45) hx hb hts i_Mo hown hK hP 0 mW_0 cl_11 41 (by decide) (hts _ k_6_201) (fun _ h9 => h9) (mg_points _ _) d_Mo_paint_191 ?_
            refine lv_bipush (v := 30) hx hb d_Mo_paint_194 (by decide) ?_
            refine lv_icmp_ne (tgt := 202) hx hb d_Mo_paint_196 (by decide) (fun c196_1 => ?_) (fun c196_1 => ?_)
            · first | have fc196_1 : (f_points S).toInt < 30 := (by have := zt_ne (show (f_points S).toInt = _ from rfl) tI_30 c196_1; omega) | have fc196_1 : 30 < (f_points S).toInt := (by have := zt_ne (show (f_points S).toInt = _ from rfl) tI_30 c196_1; omega) | skip
              refine lv_aload_n hx hb d_Mo_paint_202 rfl (lv_at hl 3 rfl) ?_
              refine lv_dup hx hb d_Mo_paint_203 rfl ?_
              refine va_get (D := D) (ci := 11) (v := .int (f_size S)) (C := "PageScribeModel") (T := F_Mo) (N := 45) hx hb hts i_Mo hown hK hP 0 mW_0 cl_11 4 (by decide) (hts _ k_6_164) (fun _ h9 => h9) (mg_size _ _) d_Mo_paint_204 ?_
              refine lv_iconst (v := 2) hx hb d_Mo_paint_207 (by decide) ?_
              refine lv_isub hx hb d_Mo_paint_208 ?_
              refine lv_topi (fun x7 ex7 => ?_)
              have fx7 : x7.toInt = ((f_size S).toInt - 2) := by rw [ex7]; exact (zt_sub (show (f_size S).toInt = _ from rfl) tI_2 (by omega) (by omega)).trans (by omega)
              refine va_put (D := D) (ci := 11) (v := .int x7) (ty := .int) (C := "PageScribeModel") (T := F_Mo) (N := 45) hx hb hts i_Mo t_Mo t_Mo_ok n_Mo hown hK hP hD hS 0 mW_0 cl_11 4 (by decide) (hts _ k_6_164) (fun _ h9 => h9) rfl (by decide +kernel) rfl rfl (Nat.le_of_ble_eq_true rfl) d_Mo_paint_209 (fun H locs hP hD hS => ?_)
              rw [mp_size] at hP hD
              have hP : va_P D classes (mW T h0 ar ((((f_thrown S), (a_kinds S), (a_codes S), (a_reals S), x7, (f_taken S), (a_words S), (a_many S)), S.2.1, S.2.2.1, S.2.2.2.1, S.2.2.2.2.1, S.2.2.2.2.2) : MS)) H := hP
              have hD : va_D A (mW T h0 ar ((((f_thrown S), (a_kinds S), (a_codes S), (a_reals S), x7, (f_taken S), (a_words S), (a_many S)), S.2.1, S.2.2.1, S.2.2.2.1, S.2.2.2.2.1, S.2.2.2.2.2) : MS)) := hD
              refine lv_aload_n hx hb d_Mo_paint_212 rfl (lv_at hl 3 rfl) ?_
              refine lv_dload_n hx hb d_Mo_paint_213 rfl (lv_at hl 1 rfl) ?_
              refine lv_dload hx hb d_Mo_paint_214 (lv_at hl 0 rfl) ?_
              refine lv_iload_n hx hb d_Mo_paint_216 rfl (lv_at hl 4 rfl) ?_
              refine lv_bipush (v := 65) hx hb d_Mo_paint_217 (by decide) ?_
              refine lv_icmp_ne (tgt := 229) hx hb d_Mo_paint_219 (by decide) (fun _ => ?_) (fun c9 => absurd c9 (by decide +kernel))
              refine lv_aload_n hx hb d_Mo_paint_229 rfl (lv_at hl 3 rfl) ?_
              refine va_get (D := D) (ci := 11) (v := .ref (ar 21)) (C := "PageScribeModel") (T := F_Mo) (N := 45) hx hb hts i_Mo hown hK hP 0 mW_0 cl_11 40 (by decide) (hts _ k_6_200) (fun _ h9 => h9) (mg_part _ _) d_Mo_paint_230 ?_
              refine lv_aload_n hx hb d_Mo_paint_233 rfl (lv_at hl 3 rfl) ?_
              refine va_get (D := D) (ci := 11) (v := .int (f_points S)) (C := "PageScribeModel") (T := F_Mo) (N := 45) hx hb hts i_Mo hown hK hP 0 mW_0 cl_11 41 (by decide) (hts _ k_6_201) (fun _ h9 => h9) (mg_points _ _) d_Mo_paint_234 ?_
              refine lv_iconst (v := 1) hx hb d_Mo_paint_237 (by decide) ?_
              refine lv_isub hx hb d_Mo_paint_238 ?_
              refine lv_topi (fun x8 ex8 => ?_)
              have fx8 : x8.toInt = ((f_points S).toInt - 1) := by rw [ex8]; exact (zt_sub (show (f_points S).toInt = _ from rfl) tI_1 (by omega) (by omega)).trans (by omega)
              refine va_iald hx hb hK hP 22 0 (ma_part _ _ _ _) rfl (zt_in fx8 (by omega) (by omega)) d_Mo_paint_239 ?_
              refine lv_topi (fun x9 ex9 => ?_)
              have gx9 : x9 = (a_part S) ((f_points S).toInt - 1).toNat := ex9.trans (congrArg _ (zt_ix fx8))
              have fx9 : x9.toInt = ((a_part S) ((f_points S).toInt - 1).toNat).toInt := by rw [gx9]
              have kx9 := i_part (((f_points S).toInt - 1).toNat) (by omega)
              refine jm_ci (w := (fun u => u)) hK hP hD hS hA (va_runV (As := [.double rv1, .double rv2, .int x9]) (rest := []) F (m_point l D T h0 ar ((((f_thrown S), (a_kinds S), (a_codes S), (a_reals S), x7, (f_taken S), (a_words S), (a_many S)), S.2.1, S.2.2.1, S.2.2.2.1, S.2.2.2.2.1, S.2.2.2.2.2) : MS) rv1 rv2 x9 H.size ⟨(show 0 ≤ x7.toInt ∧ x7.toInt ≤ 40 by omega), i_taken, i_vals, i_room, i_dicts, i_deep, i_open, i_cells, i_points, i_part, i_length, i_knows, i_page, i_text, i_pats, i_fuel, i_fr, i_ink⟩ (show (f_points S).toInt < 30 by omega) (show dI rv1 by omega) (show dI rv2 by omega) (show 0 ≤ x9.toInt ∧ x9.toInt ≤ 29 by omega)) (j_cV (k := 3) (C := "PageScribeModel") hts k_8_101 k_1_12 k_8_98 k_8_100 k_0_139 (by decide +kernel) ⟨Nat.le_of_ble_eq_true rfl, Nat.le_of_ble_eq_true rfl⟩) (jm_pre hK hP hD) rfl rfl hl.1 rfl (lv_room (Nat.le_of_ble_eq_true rfl)) d_Mo_paint_240 ⟨Nat.le_of_ble_eq_true rfl, Nat.le_of_ble_eq_true rfl⟩) (fun rv3 S1 H locs hw3 hP hD hS => ?_)
              have hP : va_P D classes (mW T h0 ar S1) H := hP
              have hD : va_D A (mW T h0 ar S1) := hD
              obtain ⟨⟨i_size, i_taken, i_vals, i_room, i_dicts, i_deep, i_open, i_cells, i_points, i_part, i_length, i_knows, i_page, i_text, i_pats, i_fuel, i_fr, i_ink⟩, kpA_S1, kpF_S1, qqhw3⟩ := hw3
              have kSA_S1 : kA S S1 := kA_t (show kA S ((((f_thrown S), (a_kinds S), (a_codes S), (a_reals S), x7, (f_taken S), (a_words S), (a_many S)), S.2.1, S.2.2.1, S.2.2.2.1, S.2.2.2.2.1, S.2.2.2.2.2) : MS) from (kA_r S)) kpA_S1
              have kSF_S1 : kF S S1 := kF_t (show kF S ((((f_thrown S), (a_kinds S), (a_codes S), (a_reals S), x7, (f_taken S), (a_words S), (a_many S)), S.2.1, S.2.2.1, S.2.2.2.1, S.2.2.2.2.1, S.2.2.2.2.2) : MS) from (kF_r S)) kpF_S1
              have kST_S1 : kT S S1 := kT_t (show kT S ((((f_thrown S), (a_kinds S), (a_codes S), (a_reals S), x7, (f_taken S), (a_words S), (a_many S)), S.2.1, S.2.2.1, S.2.2.2.1, S.2.2.2.2.1, S.2.2.2.2.2) : MS) from (kT_r S)) (kT_A kpA_S1)
              have qhw3 : rv3.toInt = 0 := by simpa only [fx7] using qqhw3
              exact j_iret F hr hlocks hK hS S1 ⟨⟨i_size, i_taken, i_vals, i_room, i_dicts, i_deep, i_open, i_cells, i_points, i_part, i_length, i_knows, i_page, i_text, i_pats, i_fuel, i_fr, i_ink⟩, kSA_S1, kSF_S1, (show 0 ≤ rv3.toInt ∧ rv3.toInt ≤ 15 by omega)⟩ hP hD d_Mo_paint_243
            · have fc196_1 : (f_points S).toInt = 30 := zt_eq (show (f_points S).toInt = _ from rfl) tI_30 c196_1
              refine lv_bipush (v := 7) hx hb d_Mo_paint_199 (by decide) ?_
              exact j_iret F hr hlocks hK hS S ⟨⟨i_size, i_taken, i_vals, i_room, i_dicts, i_deep, i_open, i_cells, i_points, i_part, i_length, i_knows, i_page, i_text, i_pats, i_fuel, i_fr, i_ink⟩, (kA_r S), (kF_r S), (show 0 ≤ (7 : Int32).toInt ∧ (7 : Int32).toInt ≤ 15 by have := tI_7; omega)⟩ hP hD d_Mo_paint_201
          · have fc184_1 : (f_points S).toInt = 0 := zt_eq (show (f_points S).toInt = _ from rfl) tI_0 c184_1
            refine lv_bipush (v := 13) hx hb d_Mo_paint_187 (by decide) ?_
            exact j_iret F hr hlocks hK hS S ⟨⟨i_size, i_taken, i_vals, i_room, i_dicts, i_deep, i_open, i_cells, i_points, i_part, i_length, i_knows, i_page, i_text, i_pats, i_fuel, i_fr, i_ink⟩, (kA_r S), (kF_r S), (show 0 ≤ (13 : Int32).toInt ∧ (13 : Int32).toInt ≤ 15 by have := tI_13; omega)⟩ hP hD d_Mo_paint_189
        · have fc169_1 : x6.toInt < 0 := Int.not_le.mp (zt_nle tI_0 (show x6.toInt = _ from rfl) c169_1)
          have vc169_1 : dk rv2 < dk 13920209183539462144 := by have := zr_dcmp (a := rv2) (b := 13920209183539462144) ex6 (show dN rv2 by omega) (show dN 13920209183539462144 by omega); have := Int.not_le.mp (zt_nle tI_0 (show x6.toInt = _ from rfl) c169_1); omega
          refine lv_iconst (v := 4) hx hb d_Mo_paint_172 (by decide) ?_
          exact j_iret F hr hlocks hK hS S ⟨⟨i_size, i_taken, i_vals, i_room, i_dicts, i_deep, i_open, i_cells, i_points, i_part, i_length, i_knows, i_page, i_text, i_pats, i_fuel, i_fr, i_ink⟩, (kA_r S), (kF_r S), (show 0 ≤ (4 : Int32).toInt ∧ (4 : Int32).toInt ≤ 15 by have := tI_4; omega)⟩ hP hD d_Mo_paint_173
theorem d_Mo_paint_244 : decode prog_15_method_71_code 244 = .ok (.aload_n 0, 1) := by decide +kernel
theorem d_Mo_paint_245 : decode prog_15_method_71_code 245 = .ok (.getfield 547, 3) := by decide +kernel
theorem d_Mo_paint_248 : decode prog_15_method_71_code 248 = .ok (.ifCond .ne 6, 3) := by decide +kernel
theorem d_Mo_paint_254 : decode prog_15_method_71_code 254 = .ok (.aload_n 0, 1) := by decide +kernel
theorem d_Mo_paint_255 : decode prog_15_method_71_code 255 = .ok (.getfield 547, 3) := by decide +kernel
theorem d_Mo_paint_258 : decode prog_15_method_71_code 258 = .ok (.bipush 30, 2) := by decide +kernel
theorem d_Mo_paint_260 : decode prog_15_method_71_code 260 = .ok (.if_icmp .ne 6, 3) := by decide +kernel
theorem d_Mo_paint_266 : decode prog_15_method_71_code 266 = .ok (.aload_n 0, 1) := by decide +kernel
theorem d_Mo_paint_267 : decode prog_15_method_71_code 267 = .ok (.aload_n 0, 1) := by decide +kernel
theorem d_Mo_paint_268 : decode prog_15_method_71_code 268 = .ok (.getfield 78, 3) := by decide +kernel
theorem d_Mo_paint_271 : decode prog_15_method_71_code 271 = .ok (.aload_n 0, 1) := by decide +kernel
theorem d_Mo_paint_272 : decode prog_15_method_71_code 272 = .ok (.getfield 84, 3) := by decide +kernel
theorem d_Mo_paint_275 : decode prog_15_method_71_code 275 = .ok (.aload_n 0, 1) := by decide +kernel
theorem d_Mo_paint_276 : decode prog_15_method_71_code 276 = .ok (.getfield 547, 3) := by decide +kernel
theorem d_Mo_paint_279 : decode prog_15_method_71_code 279 = .ok (.iconst 1, 1) := by decide +kernel
theorem d_Mo_paint_280 : decode prog_15_method_71_code 280 = .ok (.isub, 1) := by decide +kernel
theorem d_Mo_paint_281 : decode prog_15_method_71_code 281 = .ok (.iaload, 1) := by decide +kernel
theorem d_Mo_paint_282 : decode prog_15_method_71_code 282 = .ok (.daload, 1) := by decide +kernel
theorem d_Mo_paint_283 : decode prog_15_method_71_code 283 = .ok (.aload_n 0, 1) := by decide +kernel
theorem d_Mo_paint_284 : decode prog_15_method_71_code 284 = .ok (.getfield 81, 3) := by decide +kernel
theorem d_Mo_paint_287 : decode prog_15_method_71_code 287 = .ok (.aload_n 0, 1) := by decide +kernel
theorem d_Mo_paint_288 : decode prog_15_method_71_code 288 = .ok (.getfield 84, 3) := by decide +kernel
theorem d_Mo_paint_291 : decode prog_15_method_71_code 291 = .ok (.aload_n 0, 1) := by decide +kernel
theorem d_Mo_paint_292 : decode prog_15_method_71_code 292 = .ok (.getfield 547, 3) := by decide +kernel
theorem d_Mo_paint_295 : decode prog_15_method_71_code 295 = .ok (.iconst 1, 1) := by decide +kernel
theorem d_Mo_paint_296 : decode prog_15_method_71_code 296 = .ok (.isub, 1) := by decide +kernel
theorem d_Mo_paint_297 : decode prog_15_method_71_code 297 = .ok (.iaload, 1) := by decide +kernel
theorem d_Mo_paint_298 : decode prog_15_method_71_code 298 = .ok (.daload, 1) := by decide +kernel
theorem d_Mo_paint_299 : decode prog_15_method_71_code 299 = .ok (.aload_n 0, 1) := by decide +kernel
theorem d_Mo_paint_300 : decode prog_15_method_71_code 300 = .ok (.getfield 84, 3) := by decide +kernel
theorem d_Mo_paint_303 : decode prog_15_method_71_code 303 = .ok (.aload_n 0, 1) := by decide +kernel
theorem d_Mo_paint_304 : decode prog_15_method_71_code 304 = .ok (.getfield 547, 3) := by decide +kernel
theorem d_Mo_paint_307 : decode prog_15_method_71_code 307 = .ok (.iconst 1, 1) := by decide +kernel
theorem d_Mo_paint_308 : decode prog_15_method_71_code 308 = .ok (.isub, 1) := by decide +kernel
theorem d_Mo_paint_309 : decode prog_15_method_71_code 309 = .ok (.iaload, 1) := by decide +kernel
theorem d_Mo_paint_310 : decode prog_15_method_71_code 310 = .ok (.invokevirtual 554, 3) := by decide +kernel
theorem d_Mo_paint_313 : decode prog_15_method_71_code 313 = .ok (.ireturn, 1) := by decide +kernel
theorem d_Mo_paint_263 : decode prog_15_method_71_code 263 = .ok (.bipush 7, 2) := by decide +kernel
theorem d_Mo_paint_265 : decode prog_15_method_71_code 265 = .ok (.ireturn, 1) := by decide +kernel
theorem d_Mo_paint_251 : decode prog_15_method_71_code 251 = .ok (.bipush 13, 2) := by decide +kernel
theorem d_Mo_paint_253 : decode prog_15_method_71_code 253 = .ok (.ireturn, 1) := by decide +kernel
set_option maxHeartbeats 4000000 in
set_option maxRecDepth 100000 in
theorem m_paint_67 (l : Launch) (D : va_G) (T : Nat → ClassId) (h0 : Nat) (ar : Nat → Nat) (S : MS)  (sz : Nat) (hI : MI S) (h1 : 0 ≤ (f_size S).toInt) : Met l ⟨"PageScribeModel", "paint", "(I)I"⟩ (wy ⟨"PageScribeModel", "paint", "(I)I"⟩ prog_15_method_71_code 8 (some .int)) ({ frames := 1, cells := 0, slots := 0, locals := 70 }) (va_Pc [.ref h0, .int 67] (Pw D T (mW T h0 ar S) sz E0)) (va_Qi (fun (r : Int32) (u : MS) => MI u ∧ kA S u ∧ kF S u ∧ (0 ≤ r.toInt ∧ r.toInt ≤ 15)) (fun u t => Bw D T (va_A (mW T h0 ar S) sz) (mW T h0 ar u) t) (va_A (mW T h0 ar S) sz)) 0 0 (va_A (mW T h0 ar S) sz) := by
  refine j_met (y := ⟨"PageScribeModel", "paint", "(I)I"⟩) (b := prog_15_method_71_code) (n := 8) (ret := (some .int)) (av := [.ref h0, .int 67]) (Qc := fun A => va_Qi (fun (r : Int32) (u : MS) => MI u ∧ kA S u ∧ kF S u ∧ (0 ≤ r.toInt ∧ r.toInt ≤ 15)) (fun u t => Bw D T A (mW T h0 ar u) t) A) (by decide +kernel) (Nat.le_of_ble_eq_true rfl) (fun p e s m args below meth c A ls F hr hlocks hnm hK hP hD hS hA hN hE hl => ?_)
  obtain ⟨hx, hb, hml, hown, hts⟩ := id F
  have hl : lv_has ls 8 [(0, .ref h0), (1, .int 67)] := hl
  obtain ⟨i_size, i_taken, i_vals, i_room, i_dicts, i_deep, i_open, i_cells, i_points, i_part, i_length, i_knows, i_page, i_text, i_pats, i_fuel, i_fr, i_ink⟩ := id hI
  refine lv_aload_n hx hb d_Mo_paint_0 rfl (lv_at hl 0 rfl) ?_
  refine va_get (D := D) (ci := 11) (v := .int (f_size S)) (C := "PageScribeModel") (T := F_Mo) (N := 45) hx hb hts i_Mo hown hK hP 0 mW_0 cl_11 4 (by decide) (hts _ k_6_164) (fun _ h9 => h9) (mg_size _ _) d_Mo_paint_1 ?_
  refine lv_iconst (v := 1) hx hb d_Mo_paint_4 (by decide) ?_
  refine lv_isub hx hb d_Mo_paint_5 ?_
  refine lv_topi (fun x1 ex1 => ?_)
  have fx1 : x1.toInt = ((f_size S).toInt - 1) := by rw [ex1]; exact (zt_sub (show (f_size S).toInt = _ from rfl) tI_1 (by omega) (by omega)).trans (by omega)
  refine lv_istore_n (lv' := [(2, .int x1), (0, .ref h0), (1, .int 67)]) hx hb d_Mo_paint_6 rfl hl (by decide) rfl (fun ls hl => ?_)
  refine lv_iload_n hx hb d_Mo_paint_7 rfl (lv_at hl 2 rfl) ?_
  refine lv_bipush (v := 65) hx hb d_Mo_paint_8 (by decide) ?_
  refine lv_icmp_eq (tgt := 19) hx hb d_Mo_paint_10 (by decide) (fun c9 => absurd c9 (by decide +kernel)) (fun _ => ?_)
  refine lv_iload_n hx hb d_Mo_paint_13 rfl (lv_at hl 2 rfl) ?_
  refine lv_bipush (v := 66) hx hb d_Mo_paint_14 (by decide) ?_
  refine lv_icmp_ne (tgt := 29) hx hb d_Mo_paint_16 (by decide) (fun _ => ?_) (fun c9 => absurd c9 (by decide +kernel))
  refine lv_dconst0 hx hb d_Mo_paint_29 ?_
  have := tD_0
  refine lv_dstore_n (lv' := [(3, .double 0), (2, .int x1), (0, .ref h0), (1, .int 67)]) hx hb d_Mo_paint_30 rfl hl (by decide) rfl (fun ls hl => ?_)
  refine lv_iload_n hx hb d_Mo_paint_31 rfl (lv_at hl 3 rfl) ?_
  refine lv_bipush (v := 62) hx hb d_Mo_paint_32 (by decide) ?_
  refine lv_icmp_le (tgt := 57) hx hb d_Mo_paint_34 (by decide) (fun c9 => absurd c9 (by decide +kernel)) (fun _ => ?_)
  refine lv_iload_n hx hb d_Mo_paint_37 rfl (lv_at hl 3 rfl) ?_
  refine lv_bipush (v := 67) hx hb d_Mo_paint_38 (by decide) ?_
  refine lv_icmp_ge (tgt := 57) hx hb d_Mo_paint_40 (by decide) (fun _ => ?_) (fun c9 => absurd c9 (by decide +kernel))
  refine lv_dconst0 hx hb d_Mo_paint_57 ?_
  have := tD_0
  refine lv_dstore (lv' := [(5, .double 0), (3, .double 0), (2, .int x1), (0, .ref h0), (1, .int 67)]) hx hb d_Mo_paint_58 hl (by decide) rfl (fun ls hl => ?_)
  refine lv_iload_n hx hb d_Mo_paint_60 rfl (lv_at hl 4 rfl) ?_
  refine lv_tableIn (off := 183) (tgt := 244) hx hb d_Mo_paint_61 (by decide +kernel) (by decide +kernel) (by decide +kernel) (by decide) ?_
  refine lv_aload_n hx hb d_Mo_paint_244 rfl (lv_at hl 3 rfl) ?_
  refine va_get (D := D) (ci := 11) (v := .int (f_points S)) (C := "PageScribeModel") (T := F_Mo) (N := 45) hx hb hts i_Mo hown hK hP 0 mW_0 cl_11 41 (by decide) (hts _ k_6_201) (fun _ h9 => h9) (mg_points _ _) d_Mo_paint_245 ?_
  refine lv_if_ne (tgt := 254) hx hb d_Mo_paint_248 (by decide) (fun c248_1 => ?_) (fun c248_1 => ?_)
  · first | have fc248_1 : (f_points S).toInt < 0 := (by have := zt_ne (show (f_points S).toInt = _ from rfl) tI_0 c248_1; omega) | have fc248_1 : 0 < (f_points S).toInt := (by have := zt_ne (show (f_points S).toInt = _ from rfl) tI_0 c248_1; omega) | skip
    refine lv_aload_n hx hb d_Mo_paint_254 rfl (lv_at hl 3 rfl) ?_
    refine va_get (D := D) (ci := 11) (v := .int (f_points S)) (C := "PageScribeModel") (T := F_Mo) (N := 45) hx hb hts i_Mo hown hK hP 0 mW_0 cl_11 41 (by decide) (hts _ k_6_201) (fun _ h9 => h9) (mg_points _ _) d_Mo_paint_255 ?_
    refine lv_bipush (v := 30) hx hb d_Mo_paint_258 (by decide) ?_
    refine lv_icmp_ne (tgt := 266) hx hb d_Mo_paint_260 (by decide) (fun c260_1 => ?_) (fun c260_1 => ?_)
    · first | have fc260_1 : (f_points S).toInt < 30 := (by have := zt_ne (show (f_points S).toInt = _ from rfl) tI_30 c260_1; omega) | have fc260_1 : 30 < (f_points S).toInt := (by have := zt_ne (show (f_points S).toInt = _ from rfl) tI_30 c260_1; omega) | skip
      refine lv_aload_n hx hb d_Mo_paint_266 rfl (lv_at hl 3 rfl) ?_
      refine lv_aload_n hx hb d_Mo_paint_267 rfl (lv_at hl 3 rfl) ?_
      refine va_get (D := D) (ci := 11) (v := .ref (ar 19)) (C := "PageScribeModel") (T := F_Mo) (N := 45) hx hb hts i_Mo hown hK hP 0 mW_0 cl_11 38 (by decide) (hts _ k_6_198) (fun _ h9 => h9) (mg_across _ _) d_Mo_paint_268 ?_
      refine lv_aload_n hx hb d_Mo_paint_271 rfl (lv_at hl 3 rfl) ?_
      refine va_get (D := D) (ci := 11) (v := .ref (ar 21)) (C := "PageScribeModel") (T := F_Mo) (N := 45) hx hb hts i_Mo hown hK hP 0 mW_0 cl_11 40 (by decide) (hts _ k_6_200) (fun _ h9 => h9) (mg_part _ _) d_Mo_paint_272 ?_
      refine lv_aload_n hx hb d_Mo_paint_275 rfl (lv_at hl 3 rfl) ?_
      refine va_get (D := D) (ci := 11) (v := .int (f_points S)) (C := "PageScribeModel") (T := F_Mo) (N := 45) hx hb hts i_Mo hown hK hP 0 mW_0 cl_11 41 (by decide) (hts _ k_6_201) (fun _ h9 => h9) (mg_points _ _) d_Mo_paint_276 ?_
      refine lv_iconst (v := 1) hx hb d_Mo_paint_279 (by decide) ?_
      refine lv_isub hx hb d_Mo_paint_280 ?_
      refine lv_topi (fun x2 ex2 => ?_)
      have fx2 : x2.toInt = ((f_points S).toInt - 1) := by rw [ex2]; exact (zt_sub (show (f_points S).toInt = _ from rfl) tI_1 (by omega) (by omega)).trans (by omega)
      refine va_iald hx hb hK hP 22 0 (ma_part _ _ _ _) rfl (zt_in fx2 (by omega) (by omega)) d_Mo_paint_281 ?_
      refine lv_topi (fun x3 ex3 => ?_)
      have gx3 : x3 = (a_part S) ((f_points S).toInt - 1).toNat := ex3.trans (congrArg _ (zt_ix fx2))
      have fx3 : x3.toInt = ((a_part S) ((f_points S).toInt - 1).toNat).toInt := by rw [gx3]
      have kx3 := i_part (((f_points S).toInt - 1).toNat) (by omega)
      refine va_dald hx hb hK hP 20 3 (ma_across _ _ _ _) rfl (zt_in (show x3.toInt = _ from rfl) (by omega) (by omega)) d_Mo_paint_282 ?_
      refine lv_topd (fun x4 ex4 => ?_)
      have gx4 : x4 = (a_across S) x3.toInt.toNat := ex4.trans (congrArg _ (zt_ix (show x3.toInt = _ from rfl)))
      have mx4 : dM 1043 x4 := by rw [gx4]; exact dM_pt (i_ink.2 (x3.toInt.toNat) (by omega)).1
      have dx4 : dF x4 := dM_F mx4 (by decide)
      refine lv_aload_n hx hb d_Mo_paint_283 rfl (lv_at hl 3 rfl) ?_
      refine va_get (D := D) (ci := 11) (v := .ref (ar 20)) (C := "PageScribeModel") (T := F_Mo) (N := 45) hx hb hts i_Mo hown hK hP 0 mW_0 cl_11 39 (by decide) (hts _ k_6_199) (fun _ h9 => h9) (mg_along _ _) d_Mo_paint_284 ?_
      refine lv_aload_n hx hb d_Mo_paint_287 rfl (lv_at hl 3 rfl) ?_
      refine va_get (D := D) (ci := 11) (v := .ref (ar 21)) (C := "PageScribeModel") (T := F_Mo) (N := 45) hx hb hts i_Mo hown hK hP 0 mW_0 cl_11 40 (by decide) (hts _ k_6_200) (fun _ h9 => h9) (mg_part _ _) d_Mo_paint_288 ?_
      refine lv_aload_n hx hb d_Mo_paint_291 rfl (lv_at hl 3 rfl) ?_
      refine va_get (D := D) (ci := 11) (v := .int (f_points S)) (C := "PageScribeModel") (T := F_Mo) (N := 45) hx hb hts i_Mo hown hK hP 0 mW_0 cl_11 41 (by decide) (hts _ k_6_201) (fun _ h9 => h9) (mg_points _ _) d_Mo_paint_292 ?_
      refine lv_iconst (v := 1) hx hb d_Mo_paint_295 (by decide) ?_
      refine lv_isub hx hb d_Mo_paint_296 ?_
      refine j_eqi (y := x2) ex2.symm ?_
      refine va_iald hx hb hK hP 22 0 (ma_part _ _ _ _) rfl (zt_in fx2 (by omega) (by omega)) d_Mo_paint_297 ?_
      refine j_eqi (y := x3) ex3.symm ?_
      refine va_dald hx hb hK hP 21 3 (ma_along _ _ _ _) rfl (zt_in (show x3.toInt = _ from rfl) (by omega) (by omega)) d_Mo_paint_298 ?_
      refine lv_topd (fun x5 ex5 => ?_)
      have gx5 : x5 = (a_along S) x3.toInt.toNat := ex5.trans (congrArg _ (zt_ix (show x3.toInt = _ from rfl)))
      have mx5 : dM 1043 x5 := by rw [gx5]; exact dM_pt (i_ink.2 (x3.toInt.toNat) (by omega)).2
      have dx5 : dF x5 := dM_F mx5 (by decide)
      refine lv_aload_n hx hb d_Mo_paint_299 rfl (lv_at hl 3 rfl) ?_
      refine va_get (D := D) (ci := 11) (v := .ref (ar 21)) (C := "PageScribeModel") (T := F_Mo) (N := 45) hx hb hts i_Mo hown hK hP 0 mW_0 cl_11 40 (by decide) (hts _ k_6_200) (fun _ h9 => h9) (mg_part _ _) d_Mo_paint_300 ?_
      refine lv_aload_n hx hb d_Mo_paint_303 rfl (lv_at hl 3 rfl) ?_
      refine va_get (D := D) (ci := 11) (v := .int (f_points S)) (C := "PageScribeModel") (T := F_Mo) (N := 45) hx hb hts i_Mo hown hK hP 0 mW_0 cl_11 41 (by decide) (hts _ k_6_201) (fun _ h9 => h9) (mg_points _ _) d_Mo_paint_304 ?_
      refine lv_iconst (v := 1) hx hb d_Mo_paint_307 (by decide) ?_
      refine lv_isub hx hb d_Mo_paint_308 ?_
      refine j_eqi (y := x2) ex2.symm ?_
      refine va_iald hx hb hK hP 22 0 (ma_part _ _ _ _) rfl (zt_in fx2 (by omega) (by omega)) d_Mo_paint_309 ?_
      refine j_eqi (y := x3) ex3.symm ?_
      refine jm_ci (w := (fun u => u)) hK hP hD hS hA (va_runV (As := [.double x4, .double x5, .int x3]) (rest := []) F (m_point l D T h0 ar S x4 x5 x3 s.heap.size ⟨i_size, i_taken, i_vals, i_room, i_dicts, i_deep, i_open, i_cells, i_points, i_part, i_length, i_knows, i_page, i_text, i_pats, i_fuel, i_fr, i_ink⟩ (show (f_points S).toInt < 30 by omega) (by rw [gx4]; exact (i_ink.2 _ (by omega)).1) (by rw [gx5]; exact (i_ink.2 _ (by omega)).2) (show 0 ≤ x3.toInt ∧ x3.toInt ≤ 29 by omega)) (j_cV (k := 3) (C := "PageScribeModel") hts k_8_101 k_1_12 k_8_98 k_8_100 k_0_139 (by decide +kernel) ⟨Nat.le_of_ble_eq_true rfl, Nat.le_of_ble_eq_true rfl⟩) (jm_pre hK hP hD) rfl rfl hl.1 rfl (lv_room (Nat.le_of_ble_eq_true rfl)) d_Mo_paint_310 ⟨Nat.le_of_ble_eq_true rfl, Nat.le_of_ble_eq_true rfl⟩) (fun rv1 S1 H locs hw1 hP hD hS => ?_)
      have hP : va_P D classes (mW T h0 ar S1) H := hP
      have hD : va_D A (mW T h0 ar S1) := hD
      obtain ⟨⟨i_size, i_taken, i_vals, i_room, i_dicts, i_deep, i_open, i_cells, i_points, i_part, i_length, i_knows, i_page, i_text, i_pats, i_fuel, i_fr, i_ink⟩, kpA_S1, kpF_S1, qqhw1⟩ := hw1
      have kSA_S1 : kA S S1 := kA_t (show kA S S from (kA_r S)) kpA_S1
      have kSF_S1 : kF S S1 := kF_t (show kF S S from (kF_r S)) kpF_S1
      have kST_S1 : kT S S1 := kT_t (show kT S S from (kT_r S)) (kT_A kpA_S1)
      have qhw1 : rv1.toInt = 0 := qqhw1
      exact j_iret F hr hlocks hK hS S1 ⟨⟨i_size, i_taken, i_vals, i_room, i_dicts, i_deep, i_open, i_cells, i_points, i_part, i_length, i_knows, i_page, i_text, i_pats, i_fuel, i_fr, i_ink⟩, kSA_S1, kSF_S1, (show 0 ≤ rv1.toInt ∧ rv1.toInt ≤ 15 by omega)⟩ hP hD d_Mo_paint_313
    · have fc260_1 : (f_points S).toInt = 30 := zt_eq (show (f_points S).toInt = _ from rfl) tI_30 c260_1
      refine lv_bipush (v := 7) hx hb d_Mo_paint_263 (by decide) ?_
      exact j_iret F hr hlocks hK hS S ⟨⟨i_size, i_taken, i_vals, i_room, i_dicts, i_deep, i_open, i_cells, i_points, i_part, i_length, i_knows, i_page, i_text, i_pats, i_fuel, i_fr, i_ink⟩, (kA_r S), (kF_r S), (show 0 ≤ (7 : Int32).toInt ∧ (7 : Int32).toInt ≤ 15 by have := tI_7; omega)⟩ hP hD d_Mo_paint_265
  · have fc248_1 : (f_points S).toInt = 0 := zt_eq (show (f_points S).toInt = _ from rfl) tI_0 c248_1
    refine lv_bipush (v := 13) hx hb d_Mo_paint_251 (by decide) ?_
    exact j_iret F hr hlocks hK hS S ⟨⟨i_size, i_taken, i_vals, i_room, i_dicts, i_deep, i_open, i_cells, i_points, i_part, i_length, i_knows, i_page, i_text, i_pats, i_fuel, i_fr, i_ink⟩, (kA_r S), (kF_r S), (show 0 ≤ (13 : Int32).toInt ∧ (13 : Int32).toInt ≤ 15 by have := tI_13; omega)⟩ hP hD d_Mo_paint_253
theorem d_Mo_paint_314 : decode prog_15_method_71_code 314 = .ok (.iconst 0, 1) := by decide +kernel
theorem d_Mo_paint_315 : decode prog_15_method_71_code 315 = .ok (.istore 7, 2) := by decide +kernel
theorem d_Mo_paint_317 : decode prog_15_method_71_code 317 = .ok (.iload 7, 2) := by decide +kernel
theorem d_Mo_paint_319 : decode prog_15_method_71_code 319 = .ok (.aload_n 0, 1) := by decide +kernel
theorem d_Mo_paint_320 : decode prog_15_method_71_code 320 = .ok (.getfield 236, 3) := by decide +kernel
theorem d_Mo_paint_323 : decode prog_15_method_71_code 323 = .ok (.aload_n 0, 1) := by decide +kernel
theorem k_6_195 : Cond.fieldLink "PageScribeModel" 239 "PageScribeModel" "rows" "I" ∈ gw := gw_of (tb_6 (List.mem_of_getElem? (i := 195) (by decide +kernel))) (by decide +kernel)
theorem d_Mo_paint_324 : decode prog_15_method_71_code 324 = .ok (.getfield 239, 3) := by decide +kernel
theorem d_Mo_paint_327 : decode prog_15_method_71_code 327 = .ok (.imul, 1) := by decide +kernel
theorem d_Mo_paint_328 : decode prog_15_method_71_code 328 = .ok (.if_icmp .ge 26, 3) := by decide +kernel
theorem d_Mo_paint_354 : decode prog_15_method_71_code 354 = .ok (.aload_n 0, 1) := by decide +kernel
theorem d_Mo_paint_355 : decode prog_15_method_71_code 355 = .ok (.iconst 0, 1) := by decide +kernel
theorem d_Mo_paint_356 : decode prog_15_method_71_code 356 = .ok (.putfield 547, 3) := by decide +kernel
theorem d_Mo_paint_359 : decode prog_15_method_71_code 359 = .ok (.iconst 0, 1) := by decide +kernel
theorem d_Mo_paint_360 : decode prog_15_method_71_code 360 = .ok (.ireturn, 1) := by decide +kernel
theorem d_Mo_paint_331 : decode prog_15_method_71_code 331 = .ok (.aload_n 0, 1) := by decide +kernel
theorem d_Mo_paint_332 : decode prog_15_method_71_code 332 = .ok (.iload 7, 2) := by decide +kernel
theorem d_Mo_paint_334 : decode prog_15_method_71_code 334 = .ok (.iload_n 1, 1) := by decide +kernel
theorem d_Mo_paint_335 : decode prog_15_method_71_code 335 = .ok (.bipush 69, 2) := by decide +kernel
theorem d_Mo_paint_337 : decode prog_15_method_71_code 337 = .ok (.if_icmp .ne 7, 3) := by decide +kernel
theorem d_Mo_paint_344 : decode prog_15_method_71_code 344 = .ok (.iconst 0, 1) := by decide +kernel
theorem d_Mo_paint_345 : decode prog_15_method_71_code 345 = .ok (.invokevirtual 558, 3) := by decide +kernel
theorem k_8_105 : Cond.code ⟨"PageScribeModel", "cover", "(IZ)V"⟩ prog_15_method_73_code 13 none ∈ gw := gw_of (tb_8 (List.mem_of_getElem? (i := 105) (by decide +kernel))) (by decide +kernel)
theorem k_8_102 : Cond.methodLink "PageScribeModel" 558 ⟨"PageScribeModel", "cover", "(IZ)V"⟩ ∈ gw := gw_of (tb_8 (List.mem_of_getElem? (i := 102) (by decide +kernel))) (by decide +kernel)
theorem k_8_104 : Cond.instanceMethod ⟨"PageScribeModel", "cover", "(IZ)V"⟩ ∈ gw := gw_of (tb_8 (List.mem_of_getElem? (i := 104) (by decide +kernel))) (by decide +kernel)
theorem k_0_140 : Cond.selects "PageScribeModel" ⟨"PageScribeModel", "cover", "(IZ)V"⟩ ⟨"PageScribeModel", "cover", "(IZ)V"⟩ ∈ gw := gw_of (tb_0 (List.mem_of_getElem? (i := 140) (by decide +kernel))) (by decide +kernel)
theorem d_Mo_paint_348 : decode prog_15_method_71_code 348 = .ok (.iinc 7 1, 3) := by decide +kernel
theorem d_Mo_paint_351 : decode prog_15_method_71_code 351 = .ok (.goto (-34), 3) := by decide +kernel
set_option maxHeartbeats 4000000 in
set_option maxRecDepth 100000 in
theorem m_paint_68 (l : Launch) (D : va_G) (T : Nat → ClassId) (h0 : Nat) (ar : Nat → Nat) (S : MS)  (sz : Nat) (hI : MI S) (h1 : 0 ≤ (f_size S).toInt) : Met l ⟨"PageScribeModel", "paint", "(I)I"⟩ (wy ⟨"PageScribeModel", "paint", "(I)I"⟩ prog_15_method_71_code 8 (some .int)) ({ frames := 1, cells := 0, slots := 0, locals := 70 }) (va_Pc [.ref h0, .int 68] (Pw D T (mW T h0 ar S) sz E0)) (va_Qi (fun (r : Int32) (u : MS) => MI u ∧ kA S u ∧ kF S u ∧ (0 ≤ r.toInt ∧ r.toInt ≤ 15)) (fun u t => Bw D T (va_A (mW T h0 ar S) sz) (mW T h0 ar u) t) (va_A (mW T h0 ar S) sz)) 0 0 (va_A (mW T h0 ar S) sz) := by
  refine j_met (y := ⟨"PageScribeModel", "paint", "(I)I"⟩) (b := prog_15_method_71_code) (n := 8) (ret := (some .int)) (av := [.ref h0, .int 68]) (Qc := fun A => va_Qi (fun (r : Int32) (u : MS) => MI u ∧ kA S u ∧ kF S u ∧ (0 ≤ r.toInt ∧ r.toInt ≤ 15)) (fun u t => Bw D T A (mW T h0 ar u) t) A) (by decide +kernel) (Nat.le_of_ble_eq_true rfl) (fun p e s m args below meth c A ls F hr hlocks hnm hK hP hD hS hA hN hE hl => ?_)
  obtain ⟨hx, hb, hml, hown, hts⟩ := id F
  have hl : lv_has ls 8 [(0, .ref h0), (1, .int 68)] := hl
  obtain ⟨i_size, i_taken, i_vals, i_room, i_dicts, i_deep, i_open, i_cells, i_points, i_part, i_length, i_knows, i_page, i_text, i_pats, i_fuel, i_fr, i_ink⟩ := id hI
  refine lv_aload_n hx hb d_Mo_paint_0 rfl (lv_at hl 0 rfl) ?_
  refine va_get (D := D) (ci := 11) (v := .int (f_size S)) (C := "PageScribeModel") (T := F_Mo) (N := 45) hx hb hts i_Mo hown hK hP 0 mW_0 cl_11 4 (by decide) (hts _ k_6_164) (fun _ h9 => h9) (mg_size _ _) d_Mo_paint_1 ?_
  refine lv_iconst (v := 1) hx hb d_Mo_paint_4 (by decide) ?_
  refine lv_isub hx hb d_Mo_paint_5 ?_
  refine lv_topi (fun x1 ex1 => ?_)
  have fx1 : x1.toInt = ((f_size S).toInt - 1) := by rw [ex1]; exact (zt_sub (show (f_size S).toInt = _ from rfl) tI_1 (by omega) (by omega)).trans (by omega)
  refine lv_istore_n (lv' := [(2, .int x1), (0, .ref h0), (1, .int 68)]) hx hb d_Mo_paint_6 rfl hl (by decide) rfl (fun ls hl => ?_)
  refine lv_iload_n hx hb d_Mo_paint_7 rfl (lv_at hl 2 rfl) ?_
  refine lv_bipush (v := 65) hx hb d_Mo_paint_8 (by decide) ?_
  refine lv_icmp_eq (tgt := 19) hx hb d_Mo_paint_10 (by decide) (fun c9 => absurd c9 (by decide +kernel)) (fun _ => ?_)
  refine lv_iload_n hx hb d_Mo_paint_13 rfl (lv_at hl 2 rfl) ?_
  refine lv_bipush (v := 66) hx hb d_Mo_paint_14 (by decide) ?_
  refine lv_icmp_ne (tgt := 29) hx hb d_Mo_paint_16 (by decide) (fun _ => ?_) (fun c9 => absurd c9 (by decide +kernel))
  refine lv_dconst0 hx hb d_Mo_paint_29 ?_
  have := tD_0
  refine lv_dstore_n (lv' := [(3, .double 0), (2, .int x1), (0, .ref h0), (1, .int 68)]) hx hb d_Mo_paint_30 rfl hl (by decide) rfl (fun ls hl => ?_)
  refine lv_iload_n hx hb d_Mo_paint_31 rfl (lv_at hl 3 rfl) ?_
  refine lv_bipush (v := 62) hx hb d_Mo_paint_32 (by decide) ?_
  refine lv_icmp_le (tgt := 57) hx hb d_Mo_paint_34 (by decide) (fun c9 => absurd c9 (by decide +kernel)) (fun _ => ?_)
  refine lv_iload_n hx hb d_Mo_paint_37 rfl (lv_at hl 3 rfl) ?_
  refine lv_bipush (v := 67) hx hb d_Mo_paint_38 (by decide) ?_
  refine lv_icmp_ge (tgt := 57) hx hb d_Mo_paint_40 (by decide) (fun _ => ?_) (fun c9 => absurd c9 (by decide +kernel))
  refine lv_dconst0 hx hb d_Mo_paint_57 ?_
  have := tD_0
  refine lv_dstore (lv' := [(5, .double 0), (3, .double 0), (2, .int x1), (0, .ref h0), (1, .int 68)]) hx hb d_Mo_paint_58 hl (by decide) rfl (fun ls hl => ?_)
  refine lv_iload_n hx hb d_Mo_paint_60 rfl (lv_at hl 4 rfl) ?_
  refine lv_tableOut (tgt := 314) hx hb d_Mo_paint_61 (by decide +kernel) (by decide) ?_
  refine lv_iconst (v := 0) hx hb d_Mo_paint_314 (by decide) ?_
  refine lv_istore (lv' := [(7, .int 0), (5, .double 0), (3, .double 0), (2, .int x1), (0, .ref h0), (1, .int 68)]) hx hb d_Mo_paint_315 hl (by decide) rfl (fun ls hl => ?_)
  refine j_loop (α := MS × Int32) (fun k x H locs ls => (0 ≤ x.2.toInt ∧ x.2.toInt ≤ 384 ∧ 384 ≤ x.2.toInt + ((k : Nat) : Int)) ∧ MI x.1 ∧ kA S x.1 ∧ kF S x.1 ∧ va_P D classes (mW T h0 ar x.1) H ∧ va_D A (mW T h0 ar x.1) ∧ va_S A s.heap H locs ∧ lv_has ls 8 [(7, .int x.2), (5, .double 0), (3, .double 0), (2, .int x1), (0, .ref h0), (1, .int 68)]) (fun _ _ ls => F0 m 317 ls []) (fun k x H locs ls hI9 ih => ?_) 384 (S, (0 : Int32)) _ _ _ ⟨(show 0 ≤ (0 : Int32).toInt ∧ (0 : Int32).toInt ≤ 384 ∧ 384 ≤ (0 : Int32).toInt + ((384 : Nat) : Int) by have := tI_0; omega), ⟨i_size, i_taken, i_vals, i_room, i_dicts, i_deep, i_open, i_cells, i_points, i_part, i_length, i_knows, i_page, i_text, i_pats, i_fuel, i_fr, i_ink⟩, (show kA S S from (kA_r S)), (show kF S S from (kF_r S)), hP, hD, hS, lv_sub hl [0, 1, 2, 3, 4, 5] rfl⟩
  obtain ⟨S1, i⟩ := x
  obtain ⟨hf1, hIx, klA_S1, klF_S1, hP, hD, hS, hl⟩ := hI9
  obtain ⟨i_size, i_taken, i_vals, i_room, i_dicts, i_deep, i_open, i_cells, i_points, i_part, i_length, i_knows, i_page, i_text, i_pats, i_fuel, i_fr, i_ink⟩ := (show MI S1 from hIx)
  have klA_S1 : kA S S1 := klA_S1
  have klF_S1 : kF S S1 := klF_S1
  have hf1 : 0 ≤ i.toInt ∧ i.toInt ≤ 384 ∧ 384 ≤ i.toInt + ((k : Nat) : Int) := hf1
  have hP : va_P D classes (mW T h0 ar S1) H := hP
  have hD : va_D A (mW T h0 ar S1) := hD
  have hl : lv_has ls 8 [(7, .int i), (5, .double 0), (3, .double 0), (2, .int x1), (0, .ref h0), (1, .int 68)] := hl
  refine lv_iload hx hb d_Mo_paint_317 (lv_at hl 0 rfl) ?_
  refine lv_aload_n hx hb d_Mo_paint_319 rfl (lv_at hl 4 rfl) ?_
  refine va_get (D := D) (ci := 11) (v := .int (f_columns S1)) (C := "PageScribeModel") (T := F_Mo) (N := 45) hx hb hts i_Mo hown hK hP 0 mW_0 cl_11 34 (by decide) (hts _ k_6_194) (fun _ h9 => h9) (mg_columns _ _) d_Mo_paint_320 ?_
  refine lv_aload_n hx hb d_Mo_paint_323 rfl (lv_at hl 4 rfl) ?_
  refine va_get (D := D) (ci := 11) (v := .int (f_rows S1)) (C := "PageScribeModel") (T := F_Mo) (N := 45) hx hb hts i_Mo hown hK hP 0 mW_0 cl_11 35 (by decide) (hts _ k_6_195) (fun _ h9 => h9) (mg_rows _ _) d_Mo_paint_324 ?_
  refine lv_imul hx hb d_Mo_paint_327 ?_
  refine lv_topi (fun x2 ex2 => ?_)
  have fx2 : x2.toInt = (f_columns S1).toInt * (f_rows S1).toInt ∧ 1 ≤ (f_columns S1).toInt * (f_rows S1).toInt ∧ (f_columns S1).toInt * (f_rows S1).toInt ≤ 384 := by rw [ex2]; exact zt_mulS (show (f_columns S1).toInt = _ from rfl) (show (f_rows S1).toInt = _ from rfl) (by omega) (by omega)
  refine lv_icmp_ge (tgt := 354) hx hb d_Mo_paint_328 (by decide) (fun c328_1 => ?_) (fun c328_1 => ?_)
  · have fc328_1 : x2.toInt ≤ i.toInt := zt_le (show x2.toInt = _ from rfl) (show i.toInt = _ from rfl) c328_1
    refine lv_aload_n hx hb d_Mo_paint_354 rfl (lv_at hl 4 rfl) ?_
    refine lv_iconst (v := 0) hx hb d_Mo_paint_355 (by decide) ?_
    refine va_put (D := D) (ci := 11) (v := .int 0) (ty := .int) (C := "PageScribeModel") (T := F_Mo) (N := 45) hx hb hts i_Mo t_Mo t_Mo_ok n_Mo hown hK hP hD hS 0 mW_0 cl_11 41 (by decide) (hts _ k_6_201) (fun _ h9 => h9) rfl (by decide +kernel) rfl rfl (Nat.le_of_ble_eq_true rfl) d_Mo_paint_356 (fun H locs hP hD hS => ?_)
    rw [mp_points] at hP hD
    have hP : va_P D classes (mW T h0 ar ((S1.1, S1.2.1, S1.2.2.1, S1.2.2.2.1, S1.2.2.2.2.1, ((a_part S1), 0, (a_patterns S1), (a_early S1), (a_late S1))) : MS)) H := hP
    have hD : va_D A (mW T h0 ar ((S1.1, S1.2.1, S1.2.2.1, S1.2.2.2.1, S1.2.2.2.2.1, ((a_part S1), 0, (a_patterns S1), (a_early S1), (a_late S1))) : MS)) := hD
    refine lv_iconst (v := 0) hx hb d_Mo_paint_359 (by decide) ?_
    exact j_iret F hr hlocks hK hS ((S1.1, S1.2.1, S1.2.2.1, S1.2.2.2.1, S1.2.2.2.2.1, ((a_part S1), 0, (a_patterns S1), (a_early S1), (a_late S1))) : MS) ⟨⟨i_size, i_taken, i_vals, i_room, i_dicts, i_deep, i_open, i_cells, (show 0 ≤ (0 : Int32).toInt ∧ (0 : Int32).toInt ≤ 30 by have := tI_0; omega), i_part, i_length, i_knows, i_page, i_text, i_pats, i_fuel, i_fr, i_ink⟩, klA_S1, klF_S1, (show 0 ≤ (0 : Int32).toInt ∧ (0 : Int32).toInt ≤ 15 by have := tI_0; omega)⟩ hP hD d_Mo_paint_360
  · have fc328_1 : i.toInt < x2.toInt := Int.not_le.mp (zt_nle (show x2.toInt = _ from rfl) (show i.toInt = _ from rfl) c328_1)
    refine lv_aload_n hx hb d_Mo_paint_331 rfl (lv_at hl 4 rfl) ?_
    refine lv_iload hx hb d_Mo_paint_332 (lv_at hl 0 rfl) ?_
    refine lv_iload_n hx hb d_Mo_paint_334 rfl (lv_at hl 5 rfl) ?_
    refine lv_bipush (v := 69) hx hb d_Mo_paint_335 (by decide) ?_
    refine lv_icmp_ne (tgt := 344) hx hb d_Mo_paint_337 (by decide) (fun _ => ?_) (fun c9 => absurd c9 (by decide +kernel))
    refine lv_iconst (v := 0) hx hb d_Mo_paint_344 (by decide) ?_
    refine jm_cv (w := (fun u => u)) hK hP hD hS hA (va_runV (As := [.int i, .int 0]) (rest := []) F (m_cover l D T h0 ar S1 i (0 : Int32) H.size ⟨i_size, i_taken, i_vals, i_room, i_dicts, i_deep, i_open, i_cells, i_points, i_part, i_length, i_knows, i_page, i_text, i_pats, i_fuel, i_fr, i_ink⟩ ⟨by omega, by omega⟩) (j_cV (k := 2) (C := "PageScribeModel") hts k_8_105 k_1_12 k_8_102 k_8_104 k_0_140 (by decide +kernel) ⟨Nat.le_of_ble_eq_true rfl, Nat.le_of_ble_eq_true rfl⟩) (jm_pre hK hP hD) rfl rfl hl.1 rfl (lv_room (Nat.le_of_ble_eq_true rfl)) d_Mo_paint_345 ⟨Nat.le_of_ble_eq_true rfl, Nat.le_of_ble_eq_true rfl⟩) (fun S2 H locs hw1 hP hD hS => ?_)
    have hP : va_P D classes (mW T h0 ar S2) H := hP
    have hD : va_D A (mW T h0 ar S2) := hD
    obtain ⟨⟨i_size, i_taken, i_vals, i_room, i_dicts, i_deep, i_open, i_cells, i_points, i_part, i_length, i_knows, i_page, i_text, i_pats, i_fuel, i_fr, i_ink⟩, kpA_S2, kpF_S2⟩ := hw1
    have kSA_S2 : kA S S2 := kA_t (show kA S S1 from klA_S1) kpA_S2
    have kSF_S2 : kF S S2 := kF_t (show kF S S1 from klF_S1) kpF_S2
    have kST_S2 : kT S S2 := kT_t (show kT S S1 from (kT_A klA_S1)) (kT_A kpA_S2)
    refine lv_iinc (v := (i + 1)) (lv' := [(7, .int (i + 1)), (5, .double 0), (3, .double 0), (2, .int x1), (0, .ref h0), (1, .int 68)]) hx hb d_Mo_paint_348 hl (k := 0) rfl (by first | rfl | decide) (by decide) rfl (fun ls hl => ?_)
    obtain ⟨x3, ex3⟩ : ∃ z, z = (i + 1) := ⟨_, rfl⟩
    rw [← ex3] at hl
    have fx3 : x3.toInt = (i.toInt + 1) := by rw [ex3]; exact (zt_add (show i.toInt = _ from rfl) tI_1 (by omega) (by omega)).trans (by omega)
    have hl : lv_has ls 8 [(7, .int x3), (5, .double 0), (3, .double 0), (2, .int x1), (0, .ref h0), (1, .int 68)] := hl
    refine lv_goto (tgt := 317) hx hb d_Mo_paint_351 (by decide) ?_
    exact ih (k - 1) (S2, x3) _ _ _ (by omega) ⟨(show 0 ≤ x3.toInt ∧ x3.toInt ≤ 384 ∧ 384 ≤ x3.toInt + (((k - 1) : Nat) : Int) by omega), ⟨i_size, i_taken, i_vals, i_room, i_dicts, i_deep, i_open, i_cells, i_points, i_part, i_length, i_knows, i_page, i_text, i_pats, i_fuel, i_fr, i_ink⟩, (show kA S S2 from kSA_S2), (show kF S S2 from kSF_S2), hP, hD, hS, lv_sub hl [0, 1, 2, 3, 4, 5] rfl⟩
theorem d_Mo_paint_340 : decode prog_15_method_71_code 340 = .ok (.iconst 1, 1) := by decide +kernel
theorem d_Mo_paint_341 : decode prog_15_method_71_code 341 = .ok (.goto 4, 3) := by decide +kernel
set_option maxHeartbeats 4000000 in
set_option maxRecDepth 100000 in
theorem m_paint_69 (l : Launch) (D : va_G) (T : Nat → ClassId) (h0 : Nat) (ar : Nat → Nat) (S : MS)  (sz : Nat) (hI : MI S) (h1 : 0 ≤ (f_size S).toInt) : Met l ⟨"PageScribeModel", "paint", "(I)I"⟩ (wy ⟨"PageScribeModel", "paint", "(I)I"⟩ prog_15_method_71_code 8 (some .int)) ({ frames := 1, cells := 0, slots := 0, locals := 70 }) (va_Pc [.ref h0, .int 69] (Pw D T (mW T h0 ar S) sz E0)) (va_Qi (fun (r : Int32) (u : MS) => MI u ∧ kA S u ∧ kF S u ∧ (0 ≤ r.toInt ∧ r.toInt ≤ 15)) (fun u t => Bw D T (va_A (mW T h0 ar S) sz) (mW T h0 ar u) t) (va_A (mW T h0 ar S) sz)) 0 0 (va_A (mW T h0 ar S) sz) := by
  refine j_met (y := ⟨"PageScribeModel", "paint", "(I)I"⟩) (b := prog_15_method_71_code) (n := 8) (ret := (some .int)) (av := [.ref h0, .int 69]) (Qc := fun A => va_Qi (fun (r : Int32) (u : MS) => MI u ∧ kA S u ∧ kF S u ∧ (0 ≤ r.toInt ∧ r.toInt ≤ 15)) (fun u t => Bw D T A (mW T h0 ar u) t) A) (by decide +kernel) (Nat.le_of_ble_eq_true rfl) (fun p e s m args below meth c A ls F hr hlocks hnm hK hP hD hS hA hN hE hl => ?_)
  obtain ⟨hx, hb, hml, hown, hts⟩ := id F
  have hl : lv_has ls 8 [(0, .ref h0), (1, .int 69)] := hl
  obtain ⟨i_size, i_taken, i_vals, i_room, i_dicts, i_deep, i_open, i_cells, i_points, i_part, i_length, i_knows, i_page, i_text, i_pats, i_fuel, i_fr, i_ink⟩ := id hI
  refine lv_aload_n hx hb d_Mo_paint_0 rfl (lv_at hl 0 rfl) ?_
  refine va_get (D := D) (ci := 11) (v := .int (f_size S)) (C := "PageScribeModel") (T := F_Mo) (N := 45) hx hb hts i_Mo hown hK hP 0 mW_0 cl_11 4 (by decide) (hts _ k_6_164) (fun _ h9 => h9) (mg_size _ _) d_Mo_paint_1 ?_
  refine lv_iconst (v := 1) hx hb d_Mo_paint_4 (by decide) ?_
  refine lv_isub hx hb d_Mo_paint_5 ?_
  refine lv_topi (fun x1 ex1 => ?_)
  have fx1 : x1.toInt = ((f_size S).toInt - 1) := by rw [ex1]; exact (zt_sub (show (f_size S).toInt = _ from rfl) tI_1 (by omega) (by omega)).trans (by omega)
  refine lv_istore_n (lv' := [(2, .int x1), (0, .ref h0), (1, .int 69)]) hx hb d_Mo_paint_6 rfl hl (by decide) rfl (fun ls hl => ?_)
  refine lv_iload_n hx hb d_Mo_paint_7 rfl (lv_at hl 2 rfl) ?_
  refine lv_bipush (v := 65) hx hb d_Mo_paint_8 (by decide) ?_
  refine lv_icmp_eq (tgt := 19) hx hb d_Mo_paint_10 (by decide) (fun c9 => absurd c9 (by decide +kernel)) (fun _ => ?_)
  refine lv_iload_n hx hb d_Mo_paint_13 rfl (lv_at hl 2 rfl) ?_
  refine lv_bipush (v := 66) hx hb d_Mo_paint_14 (by decide) ?_
  refine lv_icmp_ne (tgt := 29) hx hb d_Mo_paint_16 (by decide) (fun _ => ?_) (fun c9 => absurd c9 (by decide +kernel))
  refine lv_dconst0 hx hb d_Mo_paint_29 ?_
  have := tD_0
  refine lv_dstore_n (lv' := [(3, .double 0), (2, .int x1), (0, .ref h0), (1, .int 69)]) hx hb d_Mo_paint_30 rfl hl (by decide) rfl (fun ls hl => ?_)
  refine lv_iload_n hx hb d_Mo_paint_31 rfl (lv_at hl 3 rfl) ?_
  refine lv_bipush (v := 62) hx hb d_Mo_paint_32 (by decide) ?_
  refine lv_icmp_le (tgt := 57) hx hb d_Mo_paint_34 (by decide) (fun c9 => absurd c9 (by decide +kernel)) (fun _ => ?_)
  refine lv_iload_n hx hb d_Mo_paint_37 rfl (lv_at hl 3 rfl) ?_
  refine lv_bipush (v := 67) hx hb d_Mo_paint_38 (by decide) ?_
  refine lv_icmp_ge (tgt := 57) hx hb d_Mo_paint_40 (by decide) (fun _ => ?_) (fun c9 => absurd c9 (by decide +kernel))
  refine lv_dconst0 hx hb d_Mo_paint_57 ?_
  have := tD_0
  refine lv_dstore (lv' := [(5, .double 0), (3, .double 0), (2, .int x1), (0, .ref h0), (1, .int 69)]) hx hb d_Mo_paint_58 hl (by decide) rfl (fun ls hl => ?_)
  refine lv_iload_n hx hb d_Mo_paint_60 rfl (lv_at hl 4 rfl) ?_
  refine lv_tableOut (tgt := 314) hx hb d_Mo_paint_61 (by decide +kernel) (by decide) ?_
  refine lv_iconst (v := 0) hx hb d_Mo_paint_314 (by decide) ?_
  refine lv_istore (lv' := [(7, .int 0), (5, .double 0), (3, .double 0), (2, .int x1), (0, .ref h0), (1, .int 69)]) hx hb d_Mo_paint_315 hl (by decide) rfl (fun ls hl => ?_)
  refine j_loop (α := MS × Int32) (fun k x H locs ls => (0 ≤ x.2.toInt ∧ x.2.toInt ≤ 384 ∧ 384 ≤ x.2.toInt + ((k : Nat) : Int)) ∧ MI x.1 ∧ kA S x.1 ∧ kF S x.1 ∧ va_P D classes (mW T h0 ar x.1) H ∧ va_D A (mW T h0 ar x.1) ∧ va_S A s.heap H locs ∧ lv_has ls 8 [(7, .int x.2), (5, .double 0), (3, .double 0), (2, .int x1), (0, .ref h0), (1, .int 69)]) (fun _ _ ls => F0 m 317 ls []) (fun k x H locs ls hI9 ih => ?_) 384 (S, (0 : Int32)) _ _ _ ⟨(show 0 ≤ (0 : Int32).toInt ∧ (0 : Int32).toInt ≤ 384 ∧ 384 ≤ (0 : Int32).toInt + ((384 : Nat) : Int) by have := tI_0; omega), ⟨i_size, i_taken, i_vals, i_room, i_dicts, i_deep, i_open, i_cells, i_points, i_part, i_length, i_knows, i_page, i_text, i_pats, i_fuel, i_fr, i_ink⟩, (show kA S S from (kA_r S)), (show kF S S from (kF_r S)), hP, hD, hS, lv_sub hl [0, 1, 2, 3, 4, 5] rfl⟩
  obtain ⟨S1, i⟩ := x
  obtain ⟨hf1, hIx, klA_S1, klF_S1, hP, hD, hS, hl⟩ := hI9
  obtain ⟨i_size, i_taken, i_vals, i_room, i_dicts, i_deep, i_open, i_cells, i_points, i_part, i_length, i_knows, i_page, i_text, i_pats, i_fuel, i_fr, i_ink⟩ := (show MI S1 from hIx)
  have klA_S1 : kA S S1 := klA_S1
  have klF_S1 : kF S S1 := klF_S1
  have hf1 : 0 ≤ i.toInt ∧ i.toInt ≤ 384 ∧ 384 ≤ i.toInt + ((k : Nat) : Int) := hf1
  have hP : va_P D classes (mW T h0 ar S1) H := hP
  have hD : va_D A (mW T h0 ar S1) := hD
  have hl : lv_has ls 8 [(7, .int i), (5, .double 0), (3, .double 0), (2, .int x1), (0, .ref h0), (1, .int 69)] := hl
  refine lv_iload hx hb d_Mo_paint_317 (lv_at hl 0 rfl) ?_
  refine lv_aload_n hx hb d_Mo_paint_319 rfl (lv_at hl 4 rfl) ?_
  refine va_get (D := D) (ci := 11) (v := .int (f_columns S1)) (C := "PageScribeModel") (T := F_Mo) (N := 45) hx hb hts i_Mo hown hK hP 0 mW_0 cl_11 34 (by decide) (hts _ k_6_194) (fun _ h9 => h9) (mg_columns _ _) d_Mo_paint_320 ?_
  refine lv_aload_n hx hb d_Mo_paint_323 rfl (lv_at hl 4 rfl) ?_
  refine va_get (D := D) (ci := 11) (v := .int (f_rows S1)) (C := "PageScribeModel") (T := F_Mo) (N := 45) hx hb hts i_Mo hown hK hP 0 mW_0 cl_11 35 (by decide) (hts _ k_6_195) (fun _ h9 => h9) (mg_rows _ _) d_Mo_paint_324 ?_
  refine lv_imul hx hb d_Mo_paint_327 ?_
  refine lv_topi (fun x2 ex2 => ?_)
  have fx2 : x2.toInt = (f_columns S1).toInt * (f_rows S1).toInt ∧ 1 ≤ (f_columns S1).toInt * (f_rows S1).toInt ∧ (f_columns S1).toInt * (f_rows S1).toInt ≤ 384 := by rw [ex2]; exact zt_mulS (show (f_columns S1).toInt = _ from rfl) (show (f_rows S1).toInt = _ from rfl) (by omega) (by omega)
  refine lv_icmp_ge (tgt := 354) hx hb d_Mo_paint_328 (by decide) (fun c328_1 => ?_) (fun c328_1 => ?_)
  · have fc328_1 : x2.toInt ≤ i.toInt := zt_le (show x2.toInt = _ from rfl) (show i.toInt = _ from rfl) c328_1
    refine lv_aload_n hx hb d_Mo_paint_354 rfl (lv_at hl 4 rfl) ?_
    refine lv_iconst (v := 0) hx hb d_Mo_paint_355 (by decide) ?_
    refine va_put (D := D) (ci := 11) (v := .int 0) (ty := .int) (C := "PageScribeModel") (T := F_Mo) (N := 45) hx hb hts i_Mo t_Mo t_Mo_ok n_Mo hown hK hP hD hS 0 mW_0 cl_11 41 (by decide) (hts _ k_6_201) (fun _ h9 => h9) rfl (by decide +kernel) rfl rfl (Nat.le_of_ble_eq_true rfl) d_Mo_paint_356 (fun H locs hP hD hS => ?_)
    rw [mp_points] at hP hD
    have hP : va_P D classes (mW T h0 ar ((S1.1, S1.2.1, S1.2.2.1, S1.2.2.2.1, S1.2.2.2.2.1, ((a_part S1), 0, (a_patterns S1), (a_early S1), (a_late S1))) : MS)) H := hP
    have hD : va_D A (mW T h0 ar ((S1.1, S1.2.1, S1.2.2.1, S1.2.2.2.1, S1.2.2.2.2.1, ((a_part S1), 0, (a_patterns S1), (a_early S1), (a_late S1))) : MS)) := hD
    refine lv_iconst (v := 0) hx hb d_Mo_paint_359 (by decide) ?_
    exact j_iret F hr hlocks hK hS ((S1.1, S1.2.1, S1.2.2.1, S1.2.2.2.1, S1.2.2.2.2.1, ((a_part S1), 0, (a_patterns S1), (a_early S1), (a_late S1))) : MS) ⟨⟨i_size, i_taken, i_vals, i_room, i_dicts, i_deep, i_open, i_cells, (show 0 ≤ (0 : Int32).toInt ∧ (0 : Int32).toInt ≤ 30 by have := tI_0; omega), i_part, i_length, i_knows, i_page, i_text, i_pats, i_fuel, i_fr, i_ink⟩, klA_S1, klF_S1, (show 0 ≤ (0 : Int32).toInt ∧ (0 : Int32).toInt ≤ 15 by have := tI_0; omega)⟩ hP hD d_Mo_paint_360
  · have fc328_1 : i.toInt < x2.toInt := Int.not_le.mp (zt_nle (show x2.toInt = _ from rfl) (show i.toInt = _ from rfl) c328_1)
    refine lv_aload_n hx hb d_Mo_paint_331 rfl (lv_at hl 4 rfl) ?_
    refine lv_iload hx hb d_Mo_paint_332 (lv_at hl 0 rfl) ?_
    refine lv_iload_n hx hb d_Mo_paint_334 rfl (lv_at hl 5 rfl) ?_
    refine lv_bipush (v := 69) hx hb d_Mo_paint_335 (by decide) ?_
    refine lv_icmp_ne (tgt := 344) hx hb d_Mo_paint_337 (by decide) (fun c9 => absurd c9 (by decide +kernel)) (fun _ => ?_)
    refine lv_iconst (v := 1) hx hb d_Mo_paint_340 (by decide) ?_
    refine lv_goto (tgt := 345) hx hb d_Mo_paint_341 (by decide) ?_
    refine jm_cv (w := (fun u => u)) hK hP hD hS hA (va_runV (As := [.int i, .int 1]) (rest := []) F (m_cover l D T h0 ar S1 i (1 : Int32) H.size ⟨i_size, i_taken, i_vals, i_room, i_dicts, i_deep, i_open, i_cells, i_points, i_part, i_length, i_knows, i_page, i_text, i_pats, i_fuel, i_fr, i_ink⟩ ⟨by omega, by omega⟩) (j_cV (k := 2) (C := "PageScribeModel") hts k_8_105 k_1_12 k_8_102 k_8_104 k_0_140 (by decide +kernel) ⟨Nat.le_of_ble_eq_true rfl, Nat.le_of_ble_eq_true rfl⟩) (jm_pre hK hP hD) rfl rfl hl.1 rfl (lv_room (Nat.le_of_ble_eq_true rfl)) d_Mo_paint_345 ⟨Nat.le_of_ble_eq_true rfl, Nat.le_of_ble_eq_true rfl⟩) (fun S2 H locs hw1 hP hD hS => ?_)
    have hP : va_P D classes (mW T h0 ar S2) H := hP
    have hD : va_D A (mW T h0 ar S2) := hD
    obtain ⟨⟨i_size, i_taken, i_vals, i_room, i_dicts, i_deep, i_open, i_cells, i_points, i_part, i_length, i_knows, i_page, i_text, i_pats, i_fuel, i_fr, i_ink⟩, kpA_S2, kpF_S2⟩ := hw1
    have kSA_S2 : kA S S2 := kA_t (show kA S S1 from klA_S1) kpA_S2
    have kSF_S2 : kF S S2 := kF_t (show kF S S1 from klF_S1) kpF_S2
    have kST_S2 : kT S S2 := kT_t (show kT S S1 from (kT_A klA_S1)) (kT_A kpA_S2)
    refine lv_iinc (v := (i + 1)) (lv' := [(7, .int (i + 1)), (5, .double 0), (3, .double 0), (2, .int x1), (0, .ref h0), (1, .int 69)]) hx hb d_Mo_paint_348 hl (k := 0) rfl (by first | rfl | decide) (by decide) rfl (fun ls hl => ?_)
    obtain ⟨x3, ex3⟩ : ∃ z, z = (i + 1) := ⟨_, rfl⟩
    rw [← ex3] at hl
    have fx3 : x3.toInt = (i.toInt + 1) := by rw [ex3]; exact (zt_add (show i.toInt = _ from rfl) tI_1 (by omega) (by omega)).trans (by omega)
    have hl : lv_has ls 8 [(7, .int x3), (5, .double 0), (3, .double 0), (2, .int x1), (0, .ref h0), (1, .int 69)] := hl
    refine lv_goto (tgt := 317) hx hb d_Mo_paint_351 (by decide) ?_
    exact ih (k - 1) (S2, x3) _ _ _ (by omega) ⟨(show 0 ≤ x3.toInt ∧ x3.toInt ≤ 384 ∧ 384 ≤ x3.toInt + (((k - 1) : Nat) : Int) by omega), ⟨i_size, i_taken, i_vals, i_room, i_dicts, i_deep, i_open, i_cells, i_points, i_part, i_length, i_knows, i_page, i_text, i_pats, i_fuel, i_fr, i_ink⟩, (show kA S S2 from kSA_S2), (show kF S S2 from kSF_S2), hP, hD, hS, lv_sub hl [0, 1, 2, 3, 4, 5] rfl⟩
theorem m_paint (l : Launch) (D : va_G) (T : Nat → ClassId) (h0 : Nat) (ar : Nat → Nat) (S : MS) (p0 : Int32) (sz : Nat) (hI : MI S) (h1 : 63 ≤ p0.toInt ∧ p0.toInt ≤ 69) (h2 : (p0.toInt = 63 → 1 ≤ (f_size S).toInt) ∧ ((p0.toInt = 65 ∨ p0.toInt = 66) → 2 ≤ (f_size S).toInt)) (h3 : 0 ≤ (f_size S).toInt) : Met l ⟨"PageScribeModel", "paint", "(I)I"⟩ (wy ⟨"PageScribeModel", "paint", "(I)I"⟩ prog_15_method_71_code 8 (some .int)) ({ frames := 1, cells := 0, slots := 0, locals := 70 }) (va_Pc [.ref h0, .int p0] (Pw D T (mW T h0 ar S) sz E0)) (va_Qi (fun (r : Int32) (u : MS) => MI u ∧ kA S u ∧ kF S u ∧ (0 ≤ r.toInt ∧ r.toInt ≤ 15)) (fun u t => Bw D T (va_A (mW T h0 ar S) sz) (mW T h0 ar u) t) (va_A (mW T h0 ar S) sz)) 0 0 (va_A (mW T h0 ar S) sz) := by
  have hc : p0.toInt = 63 ∨ p0.toInt = 64 ∨ p0.toInt = 65 ∨ p0.toInt = 66 ∨ p0.toInt = 67 ∨ p0.toInt = 68 ∨ p0.toInt = 69 := by omega
  rcases hc with c | c | c | c | c | c | c
  · have e : p0 = 63 := Int32.toInt_inj.mp (by rw [c]; decide +kernel)
    subst e
    exact m_paint_63 l D T h0 ar S  sz hI (by omega)
  · have e : p0 = 64 := Int32.toInt_inj.mp (by rw [c]; decide +kernel)
    subst e
    exact m_paint_64 l D T h0 ar S  sz hI (by omega)
  · have e : p0 = 65 := Int32.toInt_inj.mp (by rw [c]; decide +kernel)
    subst e
    exact m_paint_65 l D T h0 ar S  sz hI (by omega)
  · have e : p0 = 66 := Int32.toInt_inj.mp (by rw [c]; decide +kernel)
    subst e
    exact m_paint_66 l D T h0 ar S  sz hI (by omega)
  · have e : p0 = 67 := Int32.toInt_inj.mp (by rw [c]; decide +kernel)
    subst e
    exact m_paint_67 l D T h0 ar S  sz hI (by omega)
  · have e : p0 = 68 := Int32.toInt_inj.mp (by rw [c]; decide +kernel)
    subst e
    exact m_paint_68 l D T h0 ar S  sz hI (by omega)
  · have e : p0 = 69 := Int32.toInt_inj.mp (by rw [c]; decide +kernel)
    subst e
    exact m_paint_69 l D T h0 ar S  sz hI (by omega)
