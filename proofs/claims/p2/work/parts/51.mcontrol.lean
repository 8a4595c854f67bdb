theorem d_Mo_control_0 : decode prog_15_method_65_code 0 = .ok (.iload_n 1, 1) := by decide +kernel
theorem d_Mo_control_1 : decode prog_15_method_65_code 1 = .ok (.tableswitch 114 57 61 #[35, 40, 43, 98, 109], 35) := by decide +kernel
theorem d_Mo_control_36 : decode prog_15_method_65_code 36 = .ok (.aload_n 0, 1) := by decide +kernel
theorem d_Mo_control_37 : decode prog_15_method_65_code 37 = .ok (.invokevirtual 525, 3) := by decide +kernel
theorem k_8_71 : Cond.code ⟨"PageScribeModel", "exit", "()I"⟩ prog_15_method_66_code 2 (some .int) ∈ gw := gw_of (tb_8 (List.mem_of_getElem? (i := 71) (by decide +kernel))) (by decide +kernel)
theorem k_8_68 : Cond.methodLink "PageScribeModel" 525 ⟨"PageScribeModel", "exit", "()I"⟩ ∈ gw := gw_of (tb_8 (List.mem_of_getElem? (i := 68) (by decide +kernel))) (by decide +kernel)
theorem k_8_70 : Cond.instanceMethod ⟨"PageScribeModel", "exit", "()I"⟩ ∈ gw := gw_of (tb_8 (List.mem_of_getElem? (i := 70) (by decide +kernel))) (by decide +kernel)
theorem k_0_132 : Cond.selects "PageScribeModel" ⟨"PageScribeModel", "exit", "()I"⟩ ⟨"PageScribeModel", "exit", "()I"⟩ ∈ gw := gw_of (tb_0 (List.mem_of_getElem? (i := 132) (by decide +kernel))) (by decide +kernel)
theorem d_Mo_control_40 : decode prog_15_method_65_code 40 = .ok (.ireturn, 1) := by decide +kernel
theorem d_Mo_control_41 : decode prog_15_method_65_code 41 = .ok (.bipush 14, 2) := by decide +kernel
theorem d_Mo_control_43 : decode prog_15_method_65_code 43 = .ok (.ireturn, 1) := by decide +kernel
theorem d_Mo_control_44 : decode prog_15_method_65_code 44 = .ok (.aload_n 0, 1) := by decide +kernel
theorem d_Mo_control_45 : decode prog_15_method_65_code 45 = .ok (.dup, 1) := by decide +kernel
theorem d_Mo_control_46 : decode prog_15_method_65_code 46 = .ok (.getfield 247, 3) := by decide +kernel
theorem d_Mo_control_49 : decode prog_15_method_65_code 49 = .ok (.iconst 1, 1) := by decide +kernel
theorem d_Mo_control_50 : decode prog_15_method_65_code 50 = .ok (.isub, 1) := by decide +kernel
theorem d_Mo_control_51 : decode prog_15_method_65_code 51 = .ok (.putfield 247, 3) := by decide +kernel
theorem d_Mo_control_54 : decode prog_15_method_65_code 54 = .ok (.aload_n 0, 1) := by decide +kernel
theorem d_Mo_control_55 : decode prog_15_method_65_code 55 = .ok (.bipush 40, 2) := by decide +kernel
theorem d_Mo_control_57 : decode prog_15_method_65_code 57 = .ok (.aload_n 0, 1) := by decide +kernel
theorem d_Mo_control_58 : decode prog_15_method_65_code 58 = .ok (.getfield 247, 3) := by decide +kernel
theorem d_Mo_control_61 : decode prog_15_method_65_code 61 = .ok (.invokevirtual 254, 3) := by decide +kernel
theorem d_Mo_control_64 : decode prog_15_method_65_code 64 = .ok (.aload_n 0, 1) := by decide +kernel
theorem d_Mo_control_65 : decode prog_15_method_65_code 65 = .ok (.bipush 7, 2) := by decide +kernel
theorem d_Mo_control_67 : decode prog_15_method_65_code 67 = .ok (.lconst 0, 1) := by decide +kernel
theorem d_Mo_control_68 : decode prog_15_method_65_code 68 = .ok (.invokevirtual 352, 3) := by decide +kernel
theorem d_Mo_control_71 : decode prog_15_method_65_code 71 = .ok (.aload_n 0, 1) := by decide +kernel
theorem d_Mo_control_72 : decode prog_15_method_65_code 72 = .ok (.bipush 40, 2) := by decide +kernel
theorem d_Mo_control_74 : decode prog_15_method_65_code 74 = .ok (.invokevirtual 378, 3) := by decide +kernel
theorem d_Mo_control_77 : decode prog_15_method_65_code 77 = .ok (.ifCond .eq 17, 3) := by decide +kernel
theorem d_Mo_control_94 : decode prog_15_method_65_code 94 = .ok (.aload_n 0, 1) := by decide +kernel
theorem d_Mo_control_95 : decode prog_15_method_65_code 95 = .ok (.invokevirtual 522, 3) := by decide +kernel
theorem d_Mo_control_98 : decode prog_15_method_65_code 98 = .ok (.ireturn, 1) := by decide +kernel
theorem d_Mo_control_80 : decode prog_15_method_65_code 80 = .ok (.aload_n 0, 1) := by decide +kernel
theorem d_Mo_control_81 : decode prog_15_method_65_code 81 = .ok (.aload_n 0, 1) := by decide +kernel
theorem d_Mo_control_82 : decode prog_15_method_65_code 82 = .ok (.getfield 13, 3) := by decide +kernel
theorem d_Mo_control_85 : decode prog_15_method_65_code 85 = .ok (.bipush 40, 2) := by decide +kernel
theorem d_Mo_control_87 : decode prog_15_method_65_code 87 = .ok (.laload, 1) := by decide +kernel
theorem d_Mo_control_88 : decode prog_15_method_65_code 88 = .ok (.invokevirtual 382, 3) := by decide +kernel
theorem d_Mo_control_91 : decode prog_15_method_65_code 91 = .ok (.goto 7, 3) := by decide +kernel
theorem d_Mo_control_99 : decode prog_15_method_65_code 99 = .ok (.aload_n 0, 1) := by decide +kernel
theorem d_Mo_control_100 : decode prog_15_method_65_code 100 = .ok (.iconst 0, 1) := by decide +kernel
theorem d_Mo_control_101 : decode prog_15_method_65_code 101 = .ok (.aload_n 0, 1) := by decide +kernel
theorem k_6_193 : Cond.fieldLink "PageScribeModel" 402 "PageScribeModel" "failure" "I" ∈ gw := gw_of (tb_6 (List.mem_of_getElem? (i := 193) (by decide +kernel))) (by decide +kernel)
theorem d_Mo_control_102 : decode prog_15_method_65_code 102 = .ok (.getfield 402, 3) := by decide +kernel
theorem d_Mo_control_105 : decode prog_15_method_65_code 105 = .ok (.i2l, 1) := by decide +kernel
theorem d_Mo_control_106 : decode prog_15_method_65_code 106 = .ok (.invokevirtual 388, 3) := by decide +kernel
theorem d_Mo_control_109 : decode prog_15_method_65_code 109 = .ok (.ireturn, 1) := by decide +kernel
theorem d_Mo_control_110 : decode prog_15_method_65_code 110 = .ok (.aload_n 0, 1) := by decide +kernel
theorem d_Mo_control_111 : decode prog_15_method_65_code 111 = .ok (.invokevirtual 528, 3) := by decide +kernel
theorem k_8_79 : Cond.code ⟨"PageScribeModel", "save", "()I"⟩ prog_15_method_68_code 1 (some .int) ∈ gw := gw_of (tb_8 (List.mem_of_getElem? (i := 79) (by decide +kernel))) (by decide +kernel)
theorem k_8_76 : Cond.methodLink "PageScribeModel" 528 ⟨"PageScribeModel", "save", "()I"⟩ ∈ gw := gw_of (tb_8 (List.mem_of_getElem? (i := 76) (by decide +kernel))) (by decide +kernel)
theorem k_8_78 : Cond.instanceMethod ⟨"PageScribeModel", "save", "()I"⟩ ∈ gw := gw_of (tb_8 (List.mem_of_getElem? (i := 78) (by decide +kernel))) (by decide +kernel)
theorem k_0_134 : Cond.selects "PageScribeModel" ⟨"PageScribeModel", "save", "()I"⟩ ⟨"PageScribeModel", "save", "()I"⟩ ∈ gw := gw_of (tb_0 (List.mem_of_getElem? (i := 134) (by decide +kernel))) (by decide +kernel)
theorem d_Mo_control_114 : decode prog_15_method_65_code 114 = .ok (.ireturn, 1) := by decide +kernel
theorem d_Mo_control_115 : decode prog_15_method_65_code 115 = .ok (.aload_n 0, 1) := by decide +kernel
theorem d_Mo_control_116 : decode prog_15_method_65_code 116 = .ok (.invokevirtual 531, 3) := by decide +kernel
theorem k_8_87 : Cond.code ⟨"PageScribeModel", "restore", "()I"⟩ prog_15_method_70_code 4 (some .int) ∈ gw := gw_of (tb_8 (List.mem_of_getElem? (i := 87) (by decide +kernel))) (by decide +kernel)
theorem k_8_84 : Cond.methodLink "PageScribeModel" 531 ⟨"PageScribeModel", "restore", "()I"⟩ ∈ gw := gw_of (tb_8 (List.mem_of_getElem? (i := 84) (by decide +kernel))) (by decide +kernel)
theorem k_8_86 : Cond.instanceMethod ⟨"PageScribeModel", "restore", "()I"⟩ ∈ gw := gw_of (tb_8 (List.mem_of_getElem? (i := 86) (by decide +kernel))) (by decide +kernel)
theorem k_0_136 : Cond.selects "PageScribeModel" ⟨"PageScribeModel", "restore", "()I"⟩ ⟨"PageScribeModel", "restore", "()I"⟩ ∈ gw := gw_of (tb_0 (List.mem_of_getElem? (i := 136) (by decide +kernel))) (by decide +kernel)
theorem d_Mo_control_119 : decode prog_15_method_65_code 119 = .ok (.ireturn, 1) := by decide +kernel
set_option maxHeartbeats 4000000 in
set_option maxRecDepth 100000 in
theorem m_control (l : Launch) (D : va_G) (T : Nat → ClassId) (h0 : Nat) (ar : Nat → Nat) (S : MS) (p0 : Int32) (sz : Nat) (hI : MI S) (h1 : 57 ≤ p0.toInt ∧ p0.toInt ≤ 62) (h2 : freeT S) (h3 : (p0.toInt = 59 ∨ p0.toInt = 62) → 1 ≤ (f_size S).toInt) : Met l ⟨"PageScribeModel", "control", "(I)I"⟩ (wy ⟨"PageScribeModel", "control", "(I)I"⟩ prog_15_method_65_code 2 (some .int)) ({ frames := 3, cells := 0, slots := 0, locals := 210 }) (va_Pc [.ref h0, .int p0] (Pw D T (mW T h0 ar S) sz E0)) (va_Qi (fun (r : Int32) (u : MS) => MI u ∧ kA S u ∧ (-1 ≤ r.toInt ∧ r.toInt ≤ 16 ∧ (f_frames u).toInt ≤ (f_frames S).toInt + 2 ∧ (r.toInt = -1 → ((a_kinds u) 40).toInt = 11 → 1 ≤ (f_frames u).toInt ∧ ((a_what u) ((f_frames u).toInt - 1).toNat).toInt ≤ 2))) (fun u t => Bw D T (va_A (mW T h0 ar S) sz) (mW T h0 ar u) t) (va_A (mW T h0 ar S) sz)) 0 0 (va_A (mW T h0 ar S) sz) := by
  refine j_met (y := ⟨"PageScribeModel", "control", "(I)I"⟩) (b := prog_15_method_65_code) (n := 2) (ret := (some .int)) (av := [.ref h0, .int p0]) (Qc := fun A => va_Qi (fun (r : Int32) (u : MS) => MI u ∧ kA S u ∧ (-1 ≤ r.toInt ∧ r.toInt ≤ 16 ∧ (f_frames u).toInt ≤ (f_frames S).toInt + 2 ∧ (r.toInt = -1 → ((a_kinds u) 40).toInt = 11 → 1 ≤ (f_frames u).toInt ∧ ((a_what u) ((f_frames u).toInt - 1).toNat).toInt ≤ 2))) (fun u t => Bw D T A (mW T h0 ar u) t) A) (by decide +kernel) (Nat.le_of_ble_eq_true rfl) (fun p e s m args below meth c A ls F hr hlocks hnm hK hP hD hS hA hN hE hl => ?_)
  obtain ⟨hx, hb, hml, hown, hts⟩ := id F
  have hl : lv_has ls 2 [(0, .ref h0), (1, .int p0)] := hl
  obtain ⟨i_size, i_taken, i_vals, i_room, i_dicts, i_deep, i_open, i_cells, i_points, i_part, i_length, i_knows, i_page, i_text, i_pats, i_fuel, i_fr, i_ink⟩ := id hI
  refine lv_iload_n hx hb d_Mo_control_0 rfl (lv_at hl 1 rfl) ?_
  by_cases h_57_1 : p0.toInt = 57
  · refine lv_tableIn (off := 35) (tgt := 36) hx hb d_Mo_control_1 (by omega) (by omega) (by rw [show p0.toInt = 57 from h_57_1]; decide +kernel) (by decide) ?_
    refine lv_aload_n hx hb d_Mo_control_36 rfl (lv_at hl 0 rfl) ?_
    refine jm_ci (w := (fun u => u)) hK hP hD hS hA (va_runV (As := []) (rest := []) F (m_exit l D T h0 ar S  s.heap.size ⟨i_size, i_taken, i_vals, i_room, i_dicts, i_deep, i_open, i_cells, i_points, i_part, i_length, i_knows, i_page, i_text, i_pats, i_fuel, i_fr, i_ink⟩) (j_cV (k := 0) (C := "PageScribeModel") hts k_8_71 k_1_12 k_8_68 k_8_70 k_0_132 (by decide +kernel) ⟨Nat.le_of_ble_eq_true rfl, Nat.le_of_ble_eq_true rfl⟩) (jm_pre hK hP hD) rfl rfl hl.1 rfl (lv_room (Nat.le_of_ble_eq_true rfl)) d_Mo_control_37 ⟨Nat.le_of_ble_eq_true rfl, Nat.le_of_ble_eq_true rfl⟩) (fun rv1 S1 H locs hw1 hP hD hS => ?_)
    have hP : va_P D classes (mW T h0 ar S1) H := hP
    have hD : va_D A (mW T h0 ar S1) := hD
    obtain ⟨⟨i_size, i_taken, i_vals, i_room, i_dicts, i_deep, i_open, i_cells, i_points, i_part, i_length, i_knows, i_page, i_text, i_pats, i_fuel, i_fr, i_ink⟩, kpA_S1, qqhw1⟩ := hw1
    have kSA_S1 : kA S S1 := kA_t (show kA S S from (kA_r S)) kpA_S1
    have kST_S1 : kT S S1 := kT_t (show kT S S from (kT_r S)) (kT_A kpA_S1)
    have pS1 : (f_steps S1).toInt = (f_steps S).toInt := congrArg Int32.toInt kSA_S1.2.2.2.2.1
    have wS1 : (f_fuel S1).toInt = (f_fuel S).toInt := congrArg Int32.toInt kSA_S1.2.2.2.1
    have qhw1 : (rv1.toInt = 0 ∨ rv1.toInt = 11) ∧ (f_frames S1).toInt ≤ (f_frames S).toInt := qqhw1
    exact j_iret F hr hlocks hK hS S1 ⟨⟨i_size, i_taken, i_vals, i_room, i_dicts, i_deep, i_open, i_cells, i_points, i_part, i_length, i_knows, i_page, i_text, i_pats, i_fuel, i_fr, i_ink⟩, kSA_S1, (show -1 ≤ rv1.toInt ∧ rv1.toInt ≤ 16 ∧ (f_frames S1).toInt ≤ (f_frames S).toInt + 2 ∧ (rv1.toInt = -1 → ((a_kinds S1) 40).toInt = 11 → 1 ≤ (f_frames S1).toInt ∧ ((a_what S1) ((f_frames S1).toInt - 1).toNat).toInt ≤ 2) by refine ⟨by omega, by omega, by omega, ?_⟩; first | exact (fun q1 q2 => by omega) | assumption)⟩ hP hD d_Mo_control_40
  by_cases h_58_1 : p0.toInt = 58
  · refine lv_tableIn (off := 40) (tgt := 41) hx hb d_Mo_control_1 (by omega) (by omega) (by rw [show p0.toInt = 58 from h_58_1]; decide +kernel) (by decide) ?_
    refine lv_bipush (v := 14) hx hb d_Mo_control_41 (by decide) ?_
    exact j_iret F hr hlocks hK hS S ⟨⟨i_size, i_taken, i_vals, i_room, i_dicts, i_deep, i_open, i_cells, i_points, i_part, i_length, i_knows, i_page, i_text, i_pats, i_fuel, i_fr, i_ink⟩, (kA_r S), (show -1 ≤ (14 : Int32).toInt ∧ (14 : Int32).toInt ≤ 16 ∧ (f_frames S).toInt ≤ (f_frames S).toInt + 2 ∧ ((14 : Int32).toInt = -1 → ((a_kinds S) 40).toInt = 11 → 1 ≤ (f_frames S).toInt ∧ ((a_what S) ((f_frames S).toInt - 1).toNat).toInt ≤ 2) by have := tI_14; refine ⟨by omega, by omega, by omega, ?_⟩; first | exact (fun q1 q2 => by omega) | assumption)⟩ hP hD d_Mo_control_43
  by_cases h_59_1 : p0.toInt = 59
  · refine lv_tableIn (off := 43) (tgt := 44) hx hb d_Mo_control_1 (by omega) (by omega) (by rw [show p0.toInt = 59 from h_59_1]; decide +kernel) (by decide) ?_
    have hs := h3 (Or.inl h_59_1)
    refine lv_aload_n hx hb d_Mo_control_44 rfl (lv_at hl 0 rfl) ?_
    refine lv_dup hx hb d_Mo_control_45 rfl ?_
    refine va_get (D := D) (ci := 11) (v := .int (f_size S)) (C := "PageScribeModel") (T := F_Mo) (N := 45) hx hb hts i_Mo hown hK hP 0 mW_0 cl_11 4 (by decide) (hts _ k_6_164) (fun _ h9 => h9) (mg_size _ _) d_Mo_control_46 ?_
    refine lv_iconst (v := 1) hx hb d_Mo_control_49 (by decide) ?_
    refine lv_isub hx hb d_Mo_control_50 ?_
    refine lv_topi (fun x1 ex1 => ?_)
    have fx1 : x1.toInt = ((f_size S).toInt - 1) := by rw [ex1]; exact (zt_sub (show (f_size S).toInt = _ from rfl) tI_1 (by omega) (by omega)).trans (by omega)
    refine va_put (D := D) (ci := 11) (v := .int x1) (ty := .int) (C := "PageScribeModel") (T := F_Mo) (N := 45) hx hb hts i_Mo t_Mo t_Mo_ok n_Mo hown hK hP hD hS 0 mW_0 cl_11 4 (by decide) (hts _ k_6_164) (fun _ h9 => h9) rfl (by decide +kernel) rfl rfl (Nat.le_of_ble_eq_true rfl) d_Mo_control_51 (fun H locs hP hD hS => ?_)
    rw [mp_size] at hP hD
    have hP : va_P D classes (mW T h0 ar ((((f_thrown S), (a_kinds S), (a_codes S), (a_reals S), x1, (f_taken S), (a_words S), (a_many S)), S.2.1, S.2.2.1, S.2.2.2.1, S.2.2.2.2.1, S.2.2.2.2.2) : MS)) H := hP
    have hD : va_D A (mW T h0 ar ((((f_thrown S), (a_kinds S), (a_codes S), (a_reals S), x1, (f_taken S), (a_words S), (a_many S)), S.2.1, S.2.2.1, S.2.2.2.1, S.2.2.2.2.1, S.2.2.2.2.2) : MS)) := hD
    refine lv_aload_n hx hb d_Mo_control_54 rfl (lv_at hl 0 rfl) ?_
    refine lv_bipush (v := 40) hx hb d_Mo_control_55 (by decide) ?_
    refine lv_aload_n hx hb d_Mo_control_57 rfl (lv_at hl 0 rfl) ?_
    refine va_get (D := D) (ci := 11) (v := .int x1) (C := "PageScribeModel") (T := F_Mo) (N := 45) hx hb hts i_Mo hown hK hP 0 mW_0 cl_11 4 (by decide) (hts _ k_6_164) (fun _ h9 => h9) (mg_size _ _) d_Mo_control_58 ?_
    refine jm_cv (w := (fun u => u)) hK hP hD hS hA (va_runV (As := [.int 40, .int x1]) (rest := []) F (m_move l D T h0 ar ((((f_thrown S), (a_kinds S), (a_codes S), (a_reals S), x1, (f_taken S), (a_words S), (a_many S)), S.2.1, S.2.2.1, S.2.2.2.1, S.2.2.2.2.1, S.2.2.2.2.2) : MS) (40 : Int32) x1 H.size (show 0 ≤ (40 : Int32).toInt ∧ (40 : Int32).toInt < 1300 by have := tI_40; first | omega | (simp only [fx1]; omega)) (show 0 ≤ x1.toInt ∧ x1.toInt < 1300 by have := tI_40; first | omega | (simp only [fx1]; omega))) (j_cV (k := 2) (C := "PageScribeModel") hts k_7_76 k_1_12 k_7_73 k_7_75 k_0_82 (by decide +kernel) ⟨Nat.le_of_ble_eq_true rfl, Nat.le_of_ble_eq_true rfl⟩) (jm_pre hK hP hD) rfl rfl hl.1 rfl (lv_room (Nat.le_of_ble_eq_true rfl)) d_Mo_control_61 ⟨Nat.le_of_ble_eq_true rfl, Nat.le_of_ble_eq_true rfl⟩) (fun S2 H locs hw2 hP hD hS => ?_)
    try simp only [tI_40, fx1] at hw2
    obtain rfl := hw2
    have hP : va_P D classes (mW T h0 ar ((((f_thrown S), (upd (a_kinds S) (40) ((a_kinds S) (((f_size S).toInt - 1).toNat))), (vp_updL (a_codes S) (40) ((a_codes S) (((f_size S).toInt - 1).toNat))), (vf_upd (a_reals S) (40) ((a_reals S) (((f_size S).toInt - 1).toNat))), x1, (f_taken S), (a_words S), (a_many S)), S.2.1, S.2.2.1, S.2.2.2.1, S.2.2.2.2.1, S.2.2.2.2.2) : MS)) H := hP
    have hD : va_D A (mW T h0 ar ((((f_thrown S), (upd (a_kinds S) (40) ((a_kinds S) (((f_size S).toInt - 1).toNat))), (vp_updL (a_codes S) (40) ((a_codes S) (((f_size S).toInt - 1).toNat))), (vf_upd (a_reals S) (40) ((a_reals S) (((f_size S).toInt - 1).toNat))), x1, (f_taken S), (a_words S), (a_many S)), S.2.1, S.2.2.1, S.2.2.2.1, S.2.2.2.2.1, S.2.2.2.2.2) : MS)) := hD
    have i_vals : ∀ k, k < 1300 → vOk ((upd (a_kinds S) (40) ((a_kinds S) (((f_size S).toInt - 1).toNat))) k) ((vp_updL (a_codes S) (40) ((a_codes S) (((f_size S).toInt - 1).toNat))) k) ((vf_upd (a_reals S) (40) ((a_reals S) (((f_size S).toInt - 1).toNat))) k) := vOk_upd i_vals (i_vals (((f_size S).toInt - 1).toNat) (by omega))
    have fa1 : ((upd (a_kinds S) (40) ((a_kinds S) (((f_size S).toInt - 1).toNat))) 40).toInt = ((a_kinds S) (((f_size S).toInt - 1).toNat)).toInt := congrArg Int32.toInt upd_s
    have fa2 : ((vp_updL (a_codes S) (40) ((a_codes S) (((f_size S).toInt - 1).toNat))) 40).toInt = ((a_codes S) (((f_size S).toInt - 1).toNat)).toInt := congrArg Int64.toInt updL_s
    refine lv_aload_n hx hb d_Mo_control_64 rfl (lv_at hl 0 rfl) ?_
    refine lv_bipush (v := 7) hx hb d_Mo_control_65 (by decide) ?_
    refine lv_lconst (v := 0) hx hb d_Mo_control_67 (by decide) ?_
    refine jm_cv (w := (fun u => u)) hK hP hD hS hA (va_runV (As := [.int 7, .long 0]) (rest := []) F (m_frame l D T h0 ar ((((f_thrown S), (upd (a_kinds S) (40) ((a_kinds S) (((f_size S).toInt - 1).toNat))), (vp_updL (a_codes S) (40) ((a_codes S) (((f_size S).toInt - 1).toNat))), (vf_upd (a_reals S) (40) ((a_reals S) (((f_size S).toInt - 1).toNat))), x1, (f_taken S), (a_words S), (a_many S)), S.2.1, S.2.2.1, S.2.2.2.1, S.2.2.2.2.1, S.2.2.2.2.2) : MS) (7 : Int32) (0 : Int64) H.size ⟨(show 0 ≤ x1.toInt ∧ x1.toInt ≤ 40 by omega), i_taken, i_vals, i_room, i_dicts, i_deep, i_open, i_cells, i_points, i_part, i_length, i_knows, i_page, i_text, i_pats, i_fuel, i_fr, i_ink⟩ (Or.inr ⟨by have := tI_7; omega, (show freeT S from h2)⟩) (by have := tI_7; have := tI_0; have := tJ_0; exact ⟨by omega, by omega, (by decide +kernel), fun q => by omega, fun q => by omega, fun q => by omega⟩)) (j_cV (k := 2) (C := "PageScribeModel") hts k_8_59 k_1_12 k_8_56 k_8_58 k_0_129 (by decide +kernel) ⟨Nat.le_of_ble_eq_true rfl, Nat.le_of_ble_eq_true rfl⟩) (jm_pre hK hP hD) rfl rfl hl.1 rfl (lv_room (Nat.le_of_ble_eq_true rfl)) d_Mo_control_68 ⟨Nat.le_of_ble_eq_true rfl, Nat.le_of_ble_eq_true rfl⟩) (fun S3 H locs hw3 hP hD hS => ?_)
    have hP : va_P D classes (mW T h0 ar S3) H := hP
    have hD : va_D A (mW T h0 ar S3) := hD
    obtain ⟨⟨i_size, i_taken, i_vals, i_room, i_dicts, i_deep, i_open, i_cells, i_points, i_part, i_length, i_knows, i_page, i_text, i_pats, i_fuel, i_fr, i_ink⟩, kpA_S3, qqhw3⟩ := hw3
    have kSA_S3 : kA S S3 := kA_t (show kA S ((((f_thrown S), (upd (a_kinds S) (40) ((a_kinds S) (((f_size S).toInt - 1).toNat))), (vp_updL (a_codes S) (40) ((a_codes S) (((f_size S).toInt - 1).toNat))), (vf_upd (a_reals S) (40) ((a_reals S) (((f_size S).toInt - 1).toNat))), x1, (f_taken S), (a_words S), (a_many S)), S.2.1, S.2.2.1, S.2.2.2.1, S.2.2.2.2.1, S.2.2.2.2.2) : MS) from (kA_r S)) kpA_S3
    have kST_S3 : kT S S3 := kT_t (show kT S ((((f_thrown S), (upd (a_kinds S) (40) ((a_kinds S) (((f_size S).toInt - 1).toNat))), (vp_updL (a_codes S) (40) ((a_codes S) (((f_size S).toInt - 1).toNat))), (vf_upd (a_reals S) (40) ((a_reals S) (((f_size S).toInt - 1).toNat))), x1, (f_taken S), (a_words S), (a_many S)), S.2.1, S.2.2.1, S.2.2.2.1, S.2.2.2.2.1, S.2.2.2.2.2) : MS) from (kT_r S)) (kT_A kpA_S3)
    have pS3 : (f_steps S3).toInt = (f_steps S).toInt := congrArg Int32.toInt kSA_S3.2.2.2.2.1
    have wS3 : (f_fuel S3).toInt = (f_fuel S).toInt := congrArg Int32.toInt kSA_S3.2.2.2.1
    have qhw3 : (f_frames S3).toInt = (f_frames S).toInt + 1 ∧ ((a_what S3) ((f_frames S3).toInt - 1).toNat).toInt = 7 ∧ (f_size S3) = x1 ∧ (a_kinds S3) = (upd (a_kinds S) (40) ((a_kinds S) (((f_size S).toInt - 1).toNat))) ∧ (a_codes S3) = (vp_updL (a_codes S) (40) ((a_codes S) (((f_size S).toInt - 1).toNat))) := by simpa only [fx1, tI_7, tJ_0] using qqhw3
    refine lv_aload_n hx hb d_Mo_control_71 rfl (lv_at hl 0 rfl) ?_
    refine lv_bipush (v := 40) hx hb d_Mo_control_72 (by decide) ?_
    have kv1 : vOk ((a_kinds S3) 40) ((a_codes S3) 40) ((a_reals S3) 40) := i_vals 40 (by omega)
    have rkv1 := vk_rng kv1
    refine jm_ci (w := (fun _ => S3)) hK hP hD hS hA (va_runV (As := [.int 40]) (rest := []) F (m_isProcedure l D T h0 ar S3 (40 : Int32) H.size (show 0 ≤ (40 : Int32).toInt ∧ (40 : Int32).toInt < 1300 by have := tI_40; omega)) (j_cV (k := 1) (C := "PageScribeModel") hts k_7_170 k_1_12 k_7_167 k_7_169 k_0_101 (by decide +kernel) ⟨Nat.le_of_ble_eq_true rfl, Nat.le_of_ble_eq_true rfl⟩) (jm_pre hK hP hD) rfl rfl hl.1 rfl (lv_room (Nat.le_of_ble_eq_true rfl)) d_Mo_control_74 ⟨Nat.le_of_ble_eq_true rfl, Nat.le_of_ble_eq_true rfl⟩) (fun rv4 u1 H locs hw4 hP hD hS => ?_)
    have hP : va_P D classes (mW T h0 ar S3) H := hP
    have hD : va_D A (mW T h0 ar S3) := hD
    have qhw4 : (rv4.toInt = 1 ∧ ((a_kinds S3) 40).toInt = 13) ∨ (rv4.toInt = 0 ∧ ¬ ((a_kinds S3) 40).toInt = 13) := by simpa only [tI_40, (show (40 : Int).toNat = 40 from rfl)] using hw4
    refine lv_if_eq (tgt := 94) hx hb d_Mo_control_77 (by decide) (fun c77_1 => ?_) (fun c77_1 => ?_)
    · have fc77_1 : rv4.toInt = 0 := zt_eq (show rv4.toInt = _ from rfl) tI_0 c77_1
      refine lv_aload_n hx hb d_Mo_control_94 rfl (lv_at hl 0 rfl) ?_
      refine jm_ci (w := (fun u => u)) hK hP hD hS hA (va_runV (As := []) (rest := []) F (m_again l D T h0 ar S3  H.size ⟨i_size, i_taken, i_vals, i_room, i_dicts, i_deep, i_open, i_cells, i_points, i_part, i_length, i_knows, i_page, i_text, i_pats, i_fuel, i_fr, i_ink⟩) (j_cV (k := 0) (C := "PageScribeModel") hts k_8_63 k_1_12 k_8_60 k_8_62 k_0_130 (by decide +kernel) ⟨Nat.le_of_ble_eq_true rfl, Nat.le_of_ble_eq_true rfl⟩) (jm_pre hK hP hD) rfl rfl hl.1 rfl (lv_room (Nat.le_of_ble_eq_true rfl)) d_Mo_control_95 ⟨Nat.le_of_ble_eq_true rfl, Nat.le_of_ble_eq_true rfl⟩) (fun rv5 S4 H locs hw5 hP hD hS => ?_)
      have hP : va_P D classes (mW T h0 ar S4) H := hP
      have hD : va_D A (mW T h0 ar S4) := hD
      obtain ⟨⟨i_size, i_taken, i_vals, i_room, i_dicts, i_deep, i_open, i_cells, i_points, i_part, i_length, i_knows, i_page, i_text, i_pats, i_fuel, i_fr, i_ink⟩, kpA_S4, qqhw5⟩ := hw5
      have kSA_S4 : kA S S4 := kA_t (show kA S S3 from kSA_S3) kpA_S4
      have kST_S4 : kT S S4 := kT_t (show kT S S3 from kST_S3) (kT_A kpA_S4)
      have pS4 : (f_steps S4).toInt = (f_steps S).toInt := congrArg Int32.toInt kSA_S4.2.2.2.2.1
      have wS4 : (f_fuel S4).toInt = (f_fuel S).toInt := congrArg Int32.toInt kSA_S4.2.2.2.1
      have qhw5 : (rv5.toInt = -1 ∨ rv5.toInt = 12) ∧ (f_frames S3).toInt ≤ (f_frames S4).toInt ∧ (f_frames S4).toInt ≤ (f_frames S3).toInt + 1 ∧ (rv5.toInt = -1 → ((a_kinds S4) 40).toInt = 11 → 1 ≤ (f_frames S4).toInt ∧ ((a_what S4) ((f_frames S4).toInt - 1).toNat).toInt ≤ 2) := qqhw5
      exact j_iret F hr hlocks hK hS S4 ⟨⟨i_size, i_taken, i_vals, i_room, i_dicts, i_deep, i_open, i_cells, i_points, i_part, i_length, i_knows, i_page, i_text, i_pats, i_fuel, i_fr, i_ink⟩, kSA_S4, (show -1 ≤ rv5.toInt ∧ rv5.toInt ≤ 16 ∧ (f_frames S4).toInt ≤ (f_frames S).toInt + 2 ∧ (rv5.toInt = -1 → ((a_kinds S4) 40).toInt = 11 → 1 ≤ (f_frames S4).toInt ∧ ((a_what S4) ((f_frames S4).toInt - 1).toNat).toInt ≤ 2) by refine ⟨by omega, by omega, by omega, ?_⟩; first | exact (fun q1 q2 => by omega) | assumption)⟩ hP hD d_Mo_control_98
    · first | have fc77_1 : rv4.toInt < 0 := (by have := zt_ne (show rv4.toInt = _ from rfl) tI_0 c77_1; omega) | have fc77_1 : 0 < rv4.toInt := (by have := zt_ne (show rv4.toInt = _ from rfl) tI_0 c77_1; omega) | skip
      refine lv_aload_n hx hb d_Mo_control_80 rfl (lv_at hl 0 rfl) ?_
      refine lv_aload_n hx hb d_Mo_control_81 rfl (lv_at hl 0 rfl) ?_
      refine va_get (D := D) (ci := 11) (v := .ref (ar 1)) (C := "PageScribeModel") (T := F_Mo) (N := 45) hx hb hts i_Mo hown hK hP 0 mW_0 cl_11 2 (by decide) (hts _ k_6_162) (fun _ h9 => h9) (mg_codes _ _) d_Mo_control_82 ?_
      refine lv_bipush (v := 40) hx hb d_Mo_control_85 (by decide) ?_
      refine va_lald hx hb hK hP 2 1 (ma_codes _ _ _ _) rfl (zt_in tI_40 (by omega) (by omega)) d_Mo_control_87 ?_
      refine lv_topl (fun x2 ex2 => ?_)
      have gx2 : x2 = (a_codes S3) 40 := ex2.trans (congrArg _ (zt_ix tI_40))
      have fx2 : x2.toInt = ((a_codes S3) 40).toInt := by rw [gx2]
      have kx2 : vOk ((a_kinds S3) 40) ((a_codes S3) 40) ((a_reals S3) 40) := i_vals (40) (by omega)
      refine jm_ci (w := (fun u => u)) hK hP hD hS hA (va_runV (As := [.long x2]) (rest := []) F (m_runArray l D T h0 ar S3 x2 H.size ⟨i_size, i_taken, i_vals, i_room, i_dicts, i_deep, i_open, i_cells, i_points, i_part, i_length, i_knows, i_page, i_text, i_pats, i_fuel, i_fr, i_ink⟩ (by rw [gx2]; exact vk_ar8 kx2 (by omega))) (j_cV (k := 1) (C := "PageScribeModel") hts k_8_55 k_1_12 k_8_52 k_8_54 k_0_128 (by decide +kernel) ⟨Nat.le_of_ble_eq_true rfl, Nat.le_of_ble_eq_true rfl⟩) (jm_pre hK hP hD) rfl rfl hl.1 rfl (lv_room (Nat.le_of_ble_eq_true rfl)) d_Mo_control_88 ⟨Nat.le_of_ble_eq_true rfl, Nat.le_of_ble_eq_true rfl⟩) (fun rv6 S5 H locs hw6 hP hD hS => ?_)
      have hP : va_P D classes (mW T h0 ar S5) H := hP
      have hD : va_D A (mW T h0 ar S5) := hD
      obtain ⟨⟨i_size, i_taken, i_vals, i_room, i_dicts, i_deep, i_open, i_cells, i_points, i_part, i_length, i_knows, i_page, i_text, i_pats, i_fuel, i_fr, i_ink⟩, kpA_S5, qqhw6⟩ := hw6
      have kSA_S5 : kA S S5 := kA_t (show kA S S3 from kSA_S3) kpA_S5
      have kST_S5 : kT S S5 := kT_t (show kT S S3 from kST_S3) (kT_A kpA_S5)
      have pS5 : (f_steps S5).toInt = (f_steps S).toInt := congrArg Int32.toInt kSA_S5.2.2.2.2.1
      have wS5 : (f_fuel S5).toInt = (f_fuel S).toInt := congrArg Int32.toInt kSA_S5.2.2.2.1
      have qhw6 : (rv6.toInt = 0 ∧ (f_frames S5).toInt = (f_frames S3).toInt + 1) ∨ (rv6.toInt = 12 ∧ (f_frames S5).toInt = (f_frames S3).toInt) := qqhw6
      refine lv_goto (tgt := 98) hx hb d_Mo_control_91 (by decide) ?_
      exact j_iret F hr hlocks hK hS S5 ⟨⟨i_size, i_taken, i_vals, i_room, i_dicts, i_deep, i_open, i_cells, i_points, i_part, i_length, i_knows, i_page, i_text, i_pats, i_fuel, i_fr, i_ink⟩, kSA_S5, (show -1 ≤ rv6.toInt ∧ rv6.toInt ≤ 16 ∧ (f_frames S5).toInt ≤ (f_frames S).toInt + 2 ∧ (rv6.toInt = -1 → ((a_kinds S5) 40).toInt = 11 → 1 ≤ (f_frames S5).toInt ∧ ((a_what S5) ((f_frames S5).toInt - 1).toNat).toInt ≤ 2) by refine ⟨by omega, by omega, by omega, ?_⟩; first | exact (fun q1 q2 => by omega) | assumption)⟩ hP hD d_Mo_control_98
  by_cases h_60_1 : p0.toInt = 60
  · refine lv_tableIn (off := 98) (tgt := 99) hx hb d_Mo_control_1 (by omega) (by omega) (by rw [show p0.toInt = 60 from h_60_1]; decide +kernel) (by decide) ?_
    refine lv_aload_n hx hb d_Mo_control_99 rfl (lv_at hl 0 rfl) ?_
    refine lv_iconst (v := 0) hx hb d_Mo_control_100 (by decide) ?_
    refine lv_aload_n hx hb d_Mo_control_101 rfl (lv_at hl 0 rfl) ?_
    refine va_get (D := D) (ci := 11) (v := .int (f_failure S)) (C := "PageScribeModel") (T := F_Mo) (N := 45) hx hb hts i_Mo hown hK hP 0 mW_0 cl_11 33 (by decide) (hts _ k_6_193) (fun _ h9 => h9) (mg_failure _ _) d_Mo_control_102 ?_
    refine lv_i2l (v := ((f_failure S)).toInt64) hx hb d_Mo_control_105 rfl ?_
    refine lv_topl (fun x3 ex3 => ?_)
    have fx3 : x3.toInt = (f_failure S).toInt := by rw [ex3]; exact zu_i2l (show (f_failure S).toInt = _ from rfl)
    refine jm_ci (w := (fun u => u)) hK hP hD hS hA (va_runV (As := [.int 0, .long x3]) (rest := []) F (m_push l D T h0 ar S (0 : Int32) x3 s.heap.size ⟨i_size, i_taken, i_vals, i_room, i_dicts, i_deep, i_open, i_cells, i_points, i_part, i_length, i_knows, i_page, i_text, i_pats, i_fuel, i_fr, i_ink⟩ (vO_int (by have := zt_rng (f_failure S); omega))) (j_cV (k := 2) (C := "PageScribeModel") hts k_7_191 k_1_12 k_7_188 k_7_190 k_0_106 (by decide +kernel) ⟨Nat.le_of_ble_eq_true rfl, Nat.le_of_ble_eq_true rfl⟩) (jm_pre hK hP hD) rfl rfl hl.1 rfl (lv_room (Nat.le_of_ble_eq_true rfl)) d_Mo_control_106 ⟨Nat.le_of_ble_eq_true rfl, Nat.le_of_ble_eq_true rfl⟩) (fun rv7 S6 H locs hw7 hP hD hS => ?_)
    have hP : va_P D classes (mW T h0 ar S6) H := hP
    have hD : va_D A (mW T h0 ar S6) := hD
    obtain ⟨⟨i_size, i_taken, i_vals, i_room, i_dicts, i_deep, i_open, i_cells, i_points, i_part, i_length, i_knows, i_page, i_text, i_pats, i_fuel, i_fr, i_ink⟩, kpA_S6, kpF_S6, qqhw7⟩ := hw7
    have kSA_S6 : kA S S6 := kA_t (show kA S S from (kA_r S)) kpA_S6
    have kSF_S6 : kF S S6 := kF_t (show kF S S from (kF_r S)) kpF_S6
    have kST_S6 : kT S S6 := kT_t (show kT S S from (kT_r S)) (kT_A kpA_S6)
    have nS6 : (f_frames S6).toInt = (f_frames S).toInt := congrArg Int32.toInt kSF_S6.1
    have pS6 : (f_steps S6).toInt = (f_steps S).toInt := congrArg Int32.toInt kSA_S6.2.2.2.2.1
    have wS6 : (f_fuel S6).toInt = (f_fuel S).toInt := congrArg Int32.toInt kSA_S6.2.2.2.1
    have qhw7 : rv7.toInt = 0 ∨ rv7.toInt = 2 := by simpa only [fx3, tI_0] using qqhw7
    exact j_iret F hr hlocks hK hS S6 ⟨⟨i_size, i_taken, i_vals, i_room, i_dicts, i_deep, i_open, i_cells, i_points, i_part, i_length, i_knows, i_page, i_text, i_pats, i_fuel, i_fr, i_ink⟩, kSA_S6, (show -1 ≤ rv7.toInt ∧ rv7.toInt ≤ 16 ∧ (f_frames S6).toInt ≤ (f_frames S).toInt + 2 ∧ (rv7.toInt = -1 → ((a_kinds S6) 40).toInt = 11 → 1 ≤ (f_frames S6).toInt ∧ ((a_what S6) ((f_frames S6).toInt - 1).toNat).toInt ≤ 2) by refine ⟨by omega, by omega, by omega, ?_⟩; first | exact (fun q1 q2 => by omega) | assumption)⟩ hP hD d_Mo_control_109
  by_cases h_61_1 : p0.toInt = 61
  · refine lv_tableIn (off := 109) (tgt := 110) hx hb d_Mo_control_1 (by omega) (by omega) (by rw [show p0.toInt = 61 from h_61_1]; decide +kernel) (by decide) ?_
    refine lv_aload_n hx hb d_Mo_control_110 rfl (lv_at hl 0 rfl) ?_
    refine jm_ci (w := (fun u => u)) hK hP hD hS hA (va_runV (As := []) (rest := []) F (m_save l D T h0 ar S  s.heap.size ⟨i_size, i_taken, i_vals, i_room, i_dicts, i_deep, i_open, i_cells, i_points, i_part, i_length, i_knows, i_page, i_text, i_pats, i_fuel, i_fr, i_ink⟩) (j_cV (k := 0) (C := "PageScribeModel") hts k_8_79 k_1_12 k_8_76 k_8_78 k_0_134 (by decide +kernel) ⟨Nat.le_of_ble_eq_true rfl, Nat.le_of_ble_eq_true rfl⟩) (jm_pre hK hP hD) rfl rfl hl.1 rfl (lv_room (Nat.le_of_ble_eq_true rfl)) d_Mo_control_111 ⟨Nat.le_of_ble_eq_true rfl, Nat.le_of_ble_eq_true rfl⟩) (fun rv8 S7 H locs hw8 hP hD hS => ?_)
    have hP : va_P D classes (mW T h0 ar S7) H := hP
    have hD : va_D A (mW T h0 ar S7) := hD
    obtain ⟨⟨i_size, i_taken, i_vals, i_room, i_dicts, i_deep, i_open, i_cells, i_points, i_part, i_length, i_knows, i_page, i_text, i_pats, i_fuel, i_fr, i_ink⟩, kpA_S7, kpF_S7, qqhw8⟩ := hw8
    have kSA_S7 : kA S S7 := kA_t (show kA S S from (kA_r S)) kpA_S7
    have kSF_S7 : kF S S7 := kF_t (show kF S S from (kF_r S)) kpF_S7
    have kST_S7 : kT S S7 := kT_t (show kT S S from (kT_r S)) (kT_A kpA_S7)
    have nS7 : (f_frames S7).toInt = (f_frames S).toInt := congrArg Int32.toInt kSF_S7.1
    have pS7 : (f_steps S7).toInt = (f_steps S).toInt := congrArg Int32.toInt kSA_S7.2.2.2.2.1
    have wS7 : (f_fuel S7).toInt = (f_fuel S).toInt := congrArg Int32.toInt kSA_S7.2.2.2.1
    have qhw8 : rv8.toInt = 0 ∨ rv8.toInt = 2 ∨ rv8.toInt = 7 := qqhw8
    exact j_iret F hr hlocks hK hS S7 ⟨⟨i_size, i_taken, i_vals, i_room, i_dicts, i_deep, i_open, i_cells, i_points, i_part, i_length, i_knows, i_page, i_text, i_pats, i_fuel, i_fr, i_ink⟩, kSA_S7, (show -1 ≤ rv8.toInt ∧ rv8.toInt ≤ 16 ∧ (f_frames S7).toInt ≤ (f_frames S).toInt + 2 ∧ (rv8.toInt = -1 → ((a_kinds S7) 40).toInt = 11 → 1 ≤ (f_frames S7).toInt ∧ ((a_what S7) ((f_frames S7).toInt - 1).toNat).toInt ≤ 2) by refine ⟨by omega, by omega, by omega, ?_⟩; first | exact (fun q1 q2 => by omega) | assumption)⟩ hP hD d_Mo_control_114
  refine lv_tableOut (tgt := 115) hx hb d_Mo_control_1 (by omega) (by decide) ?_
  have hs := h3 (Or.inr (by omega))
  refine lv_aload_n hx hb d_Mo_control_115 rfl (lv_at hl 0 rfl) ?_
  refine jm_ci (w := (fun u => u)) hK hP hD hS hA (va_runV (As := []) (rest := []) F (m_restore l D T h0 ar S  s.heap.size ⟨i_size, i_taken, i_vals, i_room, i_dicts, i_deep, i_open, i_cells, i_points, i_part, i_length, i_knows, i_page, i_text, i_pats, i_fuel, i_fr, i_ink⟩ (show 1 ≤ (f_size S).toInt by omega)) (j_cV (k := 0) (C := "PageScribeModel") hts k_8_87 k_1_12 k_8_84 k_8_86 k_0_136 (by decide +kernel) ⟨Nat.le_of_ble_eq_true rfl, Nat.le_of_ble_eq_true rfl⟩) (jm_pre hK hP hD) rfl rfl hl.1 rfl (lv_room (Nat.le_of_ble_eq_true rfl)) d_Mo_control_116 ⟨Nat.le_of_ble_eq_true rfl, Nat.le_of_ble_eq_true rfl⟩) (fun rv9 S8 H locs hw9 hP hD hS => ?_)
  have hP : va_P D classes (mW T h0 ar S8) H := hP
  have hD : va_D A (mW T h0 ar S8) := hD
  obtain ⟨⟨i_size, i_taken, i_vals, i_room, i_dicts, i_deep, i_open, i_cells, i_points, i_part, i_length, i_knows, i_page, i_text, i_pats, i_fuel, i_fr, i_ink⟩, kpA_S8, kpF_S8, qqhw9⟩ := hw9
  have kSA_S8 : kA S S8 := kA_t (show kA S S from (kA_r S)) kpA_S8
  have kSF_S8 : kF S S8 := kF_t (show kF S S from (kF_r S)) kpF_S8
  have kST_S8 : kT S S8 := kT_t (show kT S S from (kT_r S)) (kT_A kpA_S8)
  have nS8 : (f_frames S8).toInt = (f_frames S).toInt := congrArg Int32.toInt kSF_S8.1
  have pS8 : (f_steps S8).toInt = (f_steps S).toInt := congrArg Int32.toInt kSA_S8.2.2.2.2.1
  have wS8 : (f_fuel S8).toInt = (f_fuel S).toInt := congrArg Int32.toInt kSA_S8.2.2.2.1
  have qhw9 : rv9.toInt = 0 ∨ rv9.toInt = 10 := qqhw9
  exact j_iret F hr hlocks hK hS S8 ⟨⟨i_size, i_taken, i_vals, i_room, i_dicts, i_deep, i_open, i_cells, i_points, i_part, i_length, i_knows, i_page, i_text, i_pats, i_fuel, i_fr, i_ink⟩, kSA_S8, (show -1 ≤ rv9.toInt ∧ rv9.toInt ≤ 16 ∧ (f_frames S8).toInt ≤ (f_frames S).toInt + 2 ∧ (rv9.toInt = -1 → ((a_kinds S8) 40).toInt = 11 → 1 ≤ (f_frames S8).toInt ∧ ((a_what S8) ((f_frames S8).toInt - 1).toNat).toInt ≤ 2) by refine ⟨by omega, by omega, by omega, ?_⟩; first | exact (fun q1 q2 => by omega) | assumption)⟩ hP hD d_Mo_control_119
