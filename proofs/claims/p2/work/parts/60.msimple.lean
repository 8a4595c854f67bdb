theorem d_Mo_readSimple_0 : decode prog_15_method_24_code 0 = .ok (.aload_n 0, 1) := by decide +kernel
theorem d_Mo_readSimple_1 : decode prog_15_method_24_code 1 = .ok (.getfield 61, 3) := by decide +kernel
theorem d_Mo_readSimple_4 : decode prog_15_method_24_code 4 = .ok (.aload_n 0, 1) := by decide +kernel
theorem d_Mo_readSimple_5 : decode prog_15_method_24_code 5 = .ok (.getfield 281, 3) := by decide +kernel
theorem d_Mo_readSimple_8 : decode prog_15_method_24_code 8 = .ok (.caload, 1) := by decide +kernel
theorem d_Mo_readSimple_9 : decode prog_15_method_24_code 9 = .ok (.istore_n 1, 1) := by decide +kernel
theorem d_Mo_readSimple_10 : decode prog_15_method_24_code 10 = .ok (.iload_n 1, 1) := by decide +kernel
theorem d_Mo_readSimple_11 : decode prog_15_method_24_code 11 = .ok (.invokestatic 273, 3) := by decide +kernel
theorem d_Mo_readSimple_14 : decode prog_15_method_24_code 14 = .ok (.ifCond .ne 9, 3) := by decide +kernel
theorem d_Mo_readSimple_23 : decode prog_15_method_24_code 23 = .ok (.aload_n 0, 1) := by decide +kernel
theorem d_Mo_readSimple_24 : decode prog_15_method_24_code 24 = .ok (.invokevirtual 318, 3) := by decide +kernel
theorem k_7_92 : Cond.code ⟨"PageScribeModel", "readNumber", "()I"⟩ prog_15_method_21_code 11 (some .int) ∈ gw := gw_of (tb_7 (List.mem_of_getElem? (i := 92) (by decide +kernel))) (by decide +kernel)
theorem k_7_89 : Cond.methodLink "PageScribeModel" 318 ⟨"PageScribeModel", "readNumber", "()I"⟩ ∈ gw := gw_of (tb_7 (List.mem_of_getElem? (i := 89) (by decide +kernel))) (by decide +kernel)
theorem k_7_91 : Cond.instanceMethod ⟨"PageScribeModel", "readNumber", "()I"⟩ ∈ gw := gw_of (tb_7 (List.mem_of_getElem? (i := 91) (by decide +kernel))) (by decide +kernel)
theorem k_0_85 : Cond.selects "PageScribeModel" ⟨"PageScribeModel", "readNumber", "()I"⟩ ⟨"PageScribeModel", "readNumber", "()I"⟩ ∈ gw := gw_of (tb_0 (List.mem_of_getElem? (i := 85) (by decide +kernel))) (by decide +kernel)
theorem d_Mo_readSimple_27 : decode prog_15_method_24_code 27 = .ok (.ireturn, 1) := by decide +kernel
theorem d_Mo_readSimple_17 : decode prog_15_method_24_code 17 = .ok (.iload_n 1, 1) := by decide +kernel
theorem d_Mo_readSimple_18 : decode prog_15_method_24_code 18 = .ok (.bipush 45, 2) := by decide +kernel
theorem d_Mo_readSimple_20 : decode prog_15_method_24_code 20 = .ok (.if_icmp .ne 8, 3) := by decide +kernel
theorem d_Mo_readSimple_28 : decode prog_15_method_24_code 28 = .ok (.iload_n 1, 1) := by decide +kernel
theorem d_Mo_readSimple_29 : decode prog_15_method_24_code 29 = .ok (.invokestatic 304, 3) := by decide +kernel
theorem d_Mo_readSimple_32 : decode prog_15_method_24_code 32 = .ok (.ifCond .eq 10, 3) := by decide +kernel
theorem d_Mo_readSimple_42 : decode prog_15_method_24_code 42 = .ok (.iload_n 1, 1) := by decide +kernel
theorem d_Mo_readSimple_43 : decode prog_15_method_24_code 43 = .ok (.bipush 47, 2) := by decide +kernel
theorem d_Mo_readSimple_45 : decode prog_15_method_24_code 45 = .ok (.if_icmp .ne 35, 3) := by decide +kernel
theorem d_Mo_readSimple_80 : decode prog_15_method_24_code 80 = .ok (.iload_n 1, 1) := by decide +kernel
theorem d_Mo_readSimple_81 : decode prog_15_method_24_code 81 = .ok (.bipush 91, 2) := by decide +kernel
theorem d_Mo_readSimple_83 : decode prog_15_method_24_code 83 = .ok (.if_icmp .eq 12, 3) := by decide +kernel
theorem tI_91 : (91 : Int32).toInt = 91 := by decide +kernel
theorem d_Mo_readSimple_95 : decode prog_15_method_24_code 95 = .ok (.aload_n 0, 1) := by decide +kernel
theorem d_Mo_readSimple_96 : decode prog_15_method_24_code 96 = .ok (.bipush 40, 2) := by decide +kernel
theorem d_Mo_readSimple_98 : decode prog_15_method_24_code 98 = .ok (.bipush 11, 2) := by decide +kernel
theorem d_Mo_readSimple_115 : decode prog_15_method_24_code 115 = .ok (.invokevirtual 250, 3) := by decide +kernel
theorem d_Mo_readSimple_118 : decode prog_15_method_24_code 118 = .ok (.aload_n 0, 1) := by decide +kernel
theorem d_Mo_readSimple_119 : decode prog_15_method_24_code 119 = .ok (.dup, 1) := by decide +kernel
theorem d_Mo_readSimple_120 : decode prog_15_method_24_code 120 = .ok (.getfield 281, 3) := by decide +kernel
theorem d_Mo_readSimple_123 : decode prog_15_method_24_code 123 = .ok (.iconst 1, 1) := by decide +kernel
theorem d_Mo_readSimple_124 : decode prog_15_method_24_code 124 = .ok (.iadd, 1) := by decide +kernel
theorem d_Mo_readSimple_125 : decode prog_15_method_24_code 125 = .ok (.putfield 281, 3) := by decide +kernel
theorem d_Mo_readSimple_128 : decode prog_15_method_24_code 128 = .ok (.iconst 0, 1) := by decide +kernel
theorem d_Mo_readSimple_129 : decode prog_15_method_24_code 129 = .ok (.ireturn, 1) := by decide +kernel
theorem d_Mo_readSimple_100 : decode prog_15_method_24_code 100 = .ok (.iload_n 1, 1) := by decide +kernel
theorem d_Mo_readSimple_101 : decode prog_15_method_24_code 101 = .ok (.bipush 91, 2) := by decide +kernel
theorem d_Mo_readSimple_103 : decode prog_15_method_24_code 103 = .ok (.if_icmp .ne 9, 3) := by decide +kernel
theorem d_Mo_readSimple_112 : decode prog_15_method_24_code 112 = .ok (.ldc2_w 316, 3) := by decide +kernel
theorem d_Mo_readSimple_106 : decode prog_15_method_24_code 106 = .ok (.ldc2_w 314, 3) := by decide +kernel
theorem d_Mo_readSimple_109 : decode prog_15_method_24_code 109 = .ok (.goto 6, 3) := by decide +kernel
theorem d_Mo_readSimple_86 : decode prog_15_method_24_code 86 = .ok (.iload_n 1, 1) := by decide +kernel
theorem d_Mo_readSimple_87 : decode prog_15_method_24_code 87 = .ok (.bipush 93, 2) := by decide +kernel
theorem d_Mo_readSimple_89 : decode prog_15_method_24_code 89 = .ok (.if_icmp .eq 6, 3) := by decide +kernel
theorem tI_93 : (93 : Int32).toInt = 93 := by decide +kernel
theorem d_Mo_readSimple_92 : decode prog_15_method_24_code 92 = .ok (.bipush 15, 2) := by decide +kernel
theorem d_Mo_readSimple_94 : decode prog_15_method_24_code 94 = .ok (.ireturn, 1) := by decide +kernel
theorem d_Mo_readSimple_48 : decode prog_15_method_24_code 48 = .ok (.aload_n 0, 1) := by decide +kernel
theorem d_Mo_readSimple_49 : decode prog_15_method_24_code 49 = .ok (.aload_n 0, 1) := by decide +kernel
theorem d_Mo_readSimple_50 : decode prog_15_method_24_code 50 = .ok (.getfield 281, 3) := by decide +kernel
theorem d_Mo_readSimple_53 : decode prog_15_method_24_code 53 = .ok (.iconst 1, 1) := by decide +kernel
theorem d_Mo_readSimple_54 : decode prog_15_method_24_code 54 = .ok (.iadd, 1) := by decide +kernel
theorem d_Mo_readSimple_55 : decode prog_15_method_24_code 55 = .ok (.invokevirtual 292, 3) := by decide +kernel
theorem d_Mo_readSimple_58 : decode prog_15_method_24_code 58 = .ok (.invokestatic 304, 3) := by decide +kernel
theorem d_Mo_readSimple_61 : decode prog_15_method_24_code 61 = .ok (.ifCond .eq 19, 3) := by decide +kernel
theorem d_Mo_readSimple_64 : decode prog_15_method_24_code 64 = .ok (.aload_n 0, 1) := by decide +kernel
theorem d_Mo_readSimple_65 : decode prog_15_method_24_code 65 = .ok (.dup, 1) := by decide +kernel
theorem d_Mo_readSimple_66 : decode prog_15_method_24_code 66 = .ok (.getfield 281, 3) := by decide +kernel
theorem d_Mo_readSimple_69 : decode prog_15_method_24_code 69 = .ok (.iconst 1, 1) := by decide +kernel
theorem d_Mo_readSimple_70 : decode prog_15_method_24_code 70 = .ok (.iadd, 1) := by decide +kernel
theorem d_Mo_readSimple_71 : decode prog_15_method_24_code 71 = .ok (.putfield 281, 3) := by decide +kernel
theorem d_Mo_readSimple_74 : decode prog_15_method_24_code 74 = .ok (.aload_n 0, 1) := by decide +kernel
theorem d_Mo_readSimple_75 : decode prog_15_method_24_code 75 = .ok (.iconst 3, 1) := by decide +kernel
theorem d_Mo_readSimple_76 : decode prog_15_method_24_code 76 = .ok (.invokevirtual 322, 3) := by decide +kernel
theorem k_7_117 : Cond.code ⟨"PageScribeModel", "readWord", "(I)I"⟩ prog_15_method_22_code 6 (some .int) ∈ gw := gw_of (tb_7 (List.mem_of_getElem? (i := 117) (by decide +kernel))) (by decide +kernel)
theorem k_7_114 : Cond.methodLink "PageScribeModel" 322 ⟨"PageScribeModel", "readWord", "(I)I"⟩ ∈ gw := gw_of (tb_7 (List.mem_of_getElem? (i := 114) (by decide +kernel))) (by decide +kernel)
theorem k_7_116 : Cond.instanceMethod ⟨"PageScribeModel", "readWord", "(I)I"⟩ ∈ gw := gw_of (tb_7 (List.mem_of_getElem? (i := 116) (by decide +kernel))) (by decide +kernel)
theorem k_0_89 : Cond.selects "PageScribeModel" ⟨"PageScribeModel", "readWord", "(I)I"⟩ ⟨"PageScribeModel", "readWord", "(I)I"⟩ ∈ gw := gw_of (tb_0 (List.mem_of_getElem? (i := 89) (by decide +kernel))) (by decide +kernel)
theorem d_Mo_readSimple_79 : decode prog_15_method_24_code 79 = .ok (.ireturn, 1) := by decide +kernel
theorem d_Mo_readSimple_35 : decode prog_15_method_24_code 35 = .ok (.aload_n 0, 1) := by decide +kernel
theorem d_Mo_readSimple_36 : decode prog_15_method_24_code 36 = .ok (.bipush 11, 2) := by decide +kernel
theorem d_Mo_readSimple_38 : decode prog_15_method_24_code 38 = .ok (.invokevirtual 322, 3) := by decide +kernel
theorem d_Mo_readSimple_41 : decode prog_15_method_24_code 41 = .ok (.ireturn, 1) := by decide +kernel
set_option maxHeartbeats 4000000 in
set_option maxRecDepth 100000 in
theorem m_readSimple (l : Launch) (D : va_G) (T : Nat → ClassId) (h0 : Nat) (ar : Nat → Nat) (S : MS)  (sz : Nat) (hI : MI S) (h1 : 0 ≤ (f_at S).toInt ∧ (f_at S).toInt < (f_length S).toInt) : Met l ⟨"PageScribeModel", "readSimple", "()I"⟩ (wy ⟨"PageScribeModel", "readSimple", "()I"⟩ prog_15_method_24_code 2 (some .int)) ({ frames := 3, cells := 0, slots := 0, locals := 210 }) (va_Pc [.ref h0] (Pw D T (mW T h0 ar S) sz E0)) (va_Qi (fun (r : Int32) (u : MS) => MI u ∧ kR S u ∧ kF S u ∧ (0 ≤ r.toInt ∧ r.toInt ≤ 15 ∧ 0 ≤ (f_at u).toInt ∧ (f_at u).toInt ≤ (f_length S).toInt ∧ (r.toInt = 0 → (f_at S).toInt < (f_at u).toInt))) (fun u t => Bw D T (va_A (mW T h0 ar S) sz) (mW T h0 ar u) t) (va_A (mW T h0 ar S) sz)) 0 0 (va_A (mW T h0 ar S) sz) := by
  refine j_met (y := ⟨"PageScribeModel", "readSimple", "()I"⟩) (b := prog_15_method_24_code) (n := 2) (ret := (some .int)) (av := [.ref h0]) (Qc := fun A => va_Qi (fun (r : Int32) (u : MS) => MI u ∧ kR S u ∧ kF S u ∧ (0 ≤ r.toInt ∧ r.toInt ≤ 15 ∧ 0 ≤ (f_at u).toInt ∧ (f_at u).toInt ≤ (f_length S).toInt ∧ (r.toInt = 0 → (f_at S).toInt < (f_at u).toInt))) (fun u t => Bw D T A (mW T h0 ar u) t) A) (by decide +kernel) (Nat.le_of_ble_eq_true rfl) (fun p e s m args below meth c A ls F hr hlocks hnm hK hP hD hS hA hN hE hl => ?_)
  obtain ⟨hx, hb, hml, hown, hts⟩ := id F
  have hl : lv_has ls 2 [(0, .ref h0)] := hl
  obtain ⟨i_size, i_taken, i_vals, i_room, i_dicts, i_deep, i_open, i_cells, i_points, i_part, i_length, i_knows, i_page, i_text, i_pats, i_fuel, i_fr, i_ink⟩ := id hI
  refine lv_aload_n hx hb d_Mo_readSimple_0 rfl (lv_at hl 0 rfl) ?_
  refine va_get (D := D) (ci := 11) (v := .ref (ar 15)) (C := "PageScribeModel") (T := F_Mo) (N := 45) hx hb hts i_Mo hown hK hP 0 mW_0 cl_11 23 (by decide) (hts _ k_6_183) (fun _ h9 => h9) (mg_text _ _) d_Mo_readSimple_1 ?_
  refine lv_aload_n hx hb d_Mo_readSimple_4 rfl (lv_at hl 0 rfl) ?_
  refine va_get (D := D) (ci := 11) (v := .int (f_at S)) (C := "PageScribeModel") (T := F_Mo) (N := 45) hx hb hts i_Mo hown hK hP 0 mW_0 cl_11 25 (by decide) (hts _ k_6_185) (fun _ h9 => h9) (mg_at _ _) d_Mo_readSimple_5 ?_
  refine va_cald hx hb hK hP 16 2 (ma_text _ _ _ _) rfl (zt_in (show (f_at S).toInt = _ from rfl) (by omega) (by omega)) d_Mo_readSimple_8 ?_
  refine lv_topi (fun x1 ex1 => ?_)
  have gx1 : x1 = (a_text S) (f_at S).toInt.toNat := ex1.trans (congrArg _ (zt_ix (show (f_at S).toInt = _ from rfl)))
  have fx1 : x1.toInt = ((a_text S) (f_at S).toInt.toNat).toInt := by rw [gx1]
  have kx1 := i_text ((f_at S).toInt.toNat) (by omega)
  refine lv_istore_n (lv' := [(1, .int x1), (0, .ref h0)]) hx hb d_Mo_readSimple_9 rfl hl (by decide) rfl (fun ls hl => ?_)
  refine lv_iload_n hx hb d_Mo_readSimple_10 rfl (lv_at hl 0 rfl) ?_
  refine j_ci (wc := []) (wr := (mW T h0 ar S)) hK hP hD hS hA [] isc rfl isc_all isc_nd (fun _ _ => List.not_mem_nil) (va_runS (As := [.int x1]) (rest := []) F (m_isDigit l D T x1 s.heap.size) (j_cS (k := 1) hts k_7_88 k_1_12 k_7_86 k_7_87 (by decide +kernel) ⟨Nat.le_of_ble_eq_true rfl, Nat.le_of_ble_eq_true rfl⟩) (j_preS hK hP hD [] rfl (by decide) (fun _ _ _ _ h => h) (fun _ _ _ => trivial)) rfl rfl hl.1 rfl (lv_room (Nat.le_of_ble_eq_true rfl)) d_Mo_readSimple_11 ⟨Nat.le_of_ble_eq_true rfl, Nat.le_of_ble_eq_true rfl⟩) (fun rv1 u1 H locs hw1 hP hD hS => ?_)
  have hP : va_P D classes (mW T h0 ar S) H := hP
  have hD : va_D A (mW T h0 ar S) := hD
  have qhw1 : (rv1.toInt = 1 ∧ 48 ≤ x1.toInt ∧ x1.toInt ≤ 57) ∨ (rv1.toInt = 0 ∧ ¬ (48 ≤ x1.toInt ∧ x1.toInt ≤ 57)) := hw1
  refine lv_if_ne (tgt := 23) hx hb d_Mo_readSimple_14 (by decide) (fun c14_1 => ?_) (fun c14_1 => ?_)
  · first | have fc14_1 : rv1.toInt < 0 := (by have := zt_ne (show rv1.toInt = _ from rfl) tI_0 c14_1; omega) | have fc14_1 : 0 < rv1.toInt := (by have := zt_ne (show rv1.toInt = _ from rfl) tI_0 c14_1; omega) | skip
    refine lv_aload_n hx hb d_Mo_readSimple_23 rfl (lv_at hl 1 rfl) ?_
    refine jm_ci (w := (fun u => u)) hK hP hD hS hA (va_runV (As := []) (rest := []) F (m_readNumber l D T h0 ar S  H.size ⟨i_size, i_taken, i_vals, i_room, i_dicts, i_deep, i_open, i_cells, i_points, i_part, i_length, i_knows, i_page, i_text, i_pats, i_fuel, i_fr, i_ink⟩ (show 0 ≤ (f_at S).toInt ∧ (f_at S).toInt < (f_length S).toInt by omega)) (j_cV (k := 0) (C := "PageScribeModel") hts k_7_92 k_1_12 k_7_89 k_7_91 k_0_85 (by decide +kernel) ⟨Nat.le_of_ble_eq_true rfl, Nat.le_of_ble_eq_true rfl⟩) (jm_pre hK hP hD) rfl rfl hl.1 rfl (lv_room (Nat.le_of_ble_eq_true rfl)) d_Mo_readSimple_24 ⟨Nat.le_of_ble_eq_true rfl, Nat.le_of_ble_eq_true rfl⟩) (fun rv2 S1 H locs hw2 hP hD hS => ?_)
    have hP : va_P D classes (mW T h0 ar S1) H := hP
    have hD : va_D A (mW T h0 ar S1) := hD
    obtain ⟨⟨i_size, i_taken, i_vals, i_room, i_dicts, i_deep, i_open, i_cells, i_points, i_part, i_length, i_knows, i_page, i_text, i_pats, i_fuel, i_fr, i_ink⟩, kpR_S1, kpF_S1, qqhw2⟩ := hw2
    have kSF_S1 : kF S S1 := kF_t (show kF S S from (kF_r S)) kpF_S1
    have kSR_S1 : kR S S1 := kR_t (show kR S S from (kR_r S)) kpR_S1
    have kSC_S1 : kC S S1 := kC_t (show kC S S from (kC_r S)) (kC_R kpR_S1)
    have nframes_S1 : (f_frames S1).toInt = (f_frames S).toInt := congrArg Int32.toInt kpF_S1.1
    have nunder_S1 : (f_under S1).toInt = (f_under S).toInt := congrArg Int32.toInt kpF_S1.2.1
    have nsteps_S1 : (f_steps S1).toInt = (f_steps S).toInt := congrArg Int32.toInt kpR_S1.2.2.2.2.2.2
    have nfuel_S1 : (f_fuel S1).toInt = (f_fuel S).toInt := congrArg Int32.toInt kpR_S1.2.2.2.2.2.1
    have nlevel_S1 : (f_level S1).toInt = (f_level S).toInt := congrArg Int32.toInt kpR_S1.2.2.1
    have npending_S1 : (f_pending S1).toInt = (f_pending S).toInt := congrArg Int32.toInt kpR_S1.2.2.2.1
    have nlength_S1 : (f_length S1).toInt = (f_length S).toInt := congrArg Int32.toInt kpR_S1.1
    have qhw2 : 0 ≤ rv2.toInt ∧ rv2.toInt ≤ 15 ∧ 0 ≤ (f_at S1).toInt ∧ (f_at S1).toInt ≤ (f_length S).toInt ∧ (rv2.toInt = 0 → (f_at S).toInt < (f_at S1).toInt) := qqhw2
    exact j_iret F hr hlocks hK hS S1 ⟨⟨i_size, i_taken, i_vals, i_room, i_dicts, i_deep, i_open, i_cells, i_points, i_part, i_length, i_knows, i_page, i_text, i_pats, i_fuel, i_fr, i_ink⟩, kSR_S1, kSF_S1, (show 0 ≤ rv2.toInt ∧ rv2.toInt ≤ 15 ∧ 0 ≤ (f_at S1).toInt ∧ (f_at S1).toInt ≤ (f_length S).toInt ∧ (rv2.toInt = 0 → (f_at S).toInt < (f_at S1).toInt) by omega)⟩ hP hD d_Mo_readSimple_27
  · have fc14_1 : rv1.toInt = 0 := zt_eq (show rv1.toInt = _ from rfl) tI_0 c14_1
    refine lv_iload_n hx hb d_Mo_readSimple_17 rfl (lv_at hl 0 rfl) ?_
    refine lv_bipush (v := 45) hx hb d_Mo_readSimple_18 (by decide) ?_
    refine lv_icmp_ne (tgt := 28) hx hb d_Mo_readSimple_20 (by decide) (fun c20_1 => ?_) (fun c20_1 => ?_)
    · first | have fc20_1 : x1.toInt < 45 := (by have := zt_ne (show x1.toInt = _ from rfl) tI_45 c20_1; omega) | have fc20_1 : 45 < x1.toInt := (by have := zt_ne (show x1.toInt = _ from rfl) tI_45 c20_1; omega) | skip
      refine lv_iload_n hx hb d_Mo_readSimple_28 rfl (lv_at hl 0 rfl) ?_
      refine j_ci (wc := []) (wr := (mW T h0 ar S)) hK hP hD hS hA [] isc rfl isc_all isc_nd (fun _ _ => List.not_mem_nil) (va_runS (As := [.int x1]) (rest := []) F (m_isLetter l D T x1 H.size) (j_cS (k := 1) hts k_7_113 k_1_12 k_7_111 k_7_112 (by decide +kernel) ⟨Nat.le_of_ble_eq_true rfl, Nat.le_of_ble_eq_true rfl⟩) (j_preS hK hP hD [] rfl (by decide) (fun _ _ _ _ h => h) (fun _ _ _ => trivial)) rfl rfl hl.1 rfl (lv_room (Nat.le_of_ble_eq_true rfl)) d_Mo_readSimple_29 ⟨Nat.le_of_ble_eq_true rfl, Nat.le_of_ble_eq_true rfl⟩) (fun rv3 u2 H locs hw3 hP hD hS => ?_)
      have hP : va_P D classes (mW T h0 ar S) H := hP
      have hD : va_D A (mW T h0 ar S) := hD
      have qhw3 : (rv3.toInt = 1 ∧ 97 ≤ x1.toInt ∧ x1.toInt ≤ 122) ∨ (rv3.toInt = 0 ∧ ¬ (97 ≤ x1.toInt ∧ x1.toInt ≤ 122)) := hw3
      refine lv_if_eq (tgt := 42) hx hb d_Mo_readSimple_32 (by decide) (fun c32_1 => ?_) (fun c32_1 => ?_)
      · have fc32_1 : rv3.toInt = 0 := zt_eq (show rv3.toInt = _ from rfl) tI_0 c32_1
        refine lv_iload_n hx hb d_Mo_readSimple_42 rfl (lv_at hl 0 rfl) ?_
        refine lv_bipush (v := 47) hx hb d_Mo_readSimple_43 (by decide) ?_
        refine lv_icmp_ne (tgt := 80) hx hb d_Mo_readSimple_45 (by decide) (fun c45_1 => ?_) (fun c45_1 => ?_)
        · first | have fc45_1 : x1.toInt < 47 := (by have := zt_ne (show x1.toInt = _ from rfl) tI_47 c45_1; omega) | have fc45_1 : 47 < x1.toInt := (by have := zt_ne (show x1.toInt = _ from rfl) tI_47 c45_1; omega) | skip
          refine lv_iload_n hx hb d_Mo_readSimple_80 rfl (lv_at hl 0 rfl) ?_
          refine lv_bipush (v := 91) hx hb d_Mo_readSimple_81 (by decide) ?_
          refine lv_icmp_eq (tgt := 95) hx hb d_Mo_readSimple_83 (by decide) (fun c83_1 => ?_) (fun c83_1 => ?_)
          · have fc83_1 : x1.toInt = 91 := zt_eq (show x1.toInt = _ from rfl) tI_91 c83_1
            refine lv_aload_n hx hb d_Mo_readSimple_95 rfl (lv_at hl 1 rfl) ?_
            refine lv_bipush (v := 40) hx hb d_Mo_readSimple_96 (by decide) ?_
            refine lv_bipush (v := 11) hx hb d_Mo_readSimple_98 (by decide) ?_
            refine j_joinH (α := Int64) (fun x H locs ls => (True) ∧ va_P D classes (mW T h0 ar S) H ∧ va_D A (mW T h0 ar S) ∧ va_S A s.heap H locs ∧ lv_has ls 2 [(1, .int x1), (0, .ref h0)]) (fun x ls => F0 m 115 ls (.long x :: [.int 11, .int 40, .ref h0])) (fun x H locs ls hI9 => ?_) (fun key1 => ?_)
            · obtain ⟨j1, rfl⟩ : ∃ z, z = x := ⟨_, rfl⟩
              obtain ⟨hj1, hP, hD, hS, hl⟩ := hI9
              have hP : va_P D classes (mW T h0 ar S) H := hP
              have hD : va_D A (mW T h0 ar S) := hD
              have hl : lv_has ls 2 [(1, .int x1), (0, .ref h0)] := hl
              refine jm_cv (w := (fun u => u)) hK hP hD hS hA (va_runV (As := [.int 40, .int 11, .long j1]) (rest := []) F (m_set l D T h0 ar S (40 : Int32) (11 : Int32) j1 H.size (show 0 ≤ (40 : Int32).toInt ∧ (40 : Int32).toInt < 1300 by have := tI_40; have := tI_11; omega)) (j_cV (k := 3) (C := "PageScribeModel") hts k_7_81 k_1_12 k_7_78 k_7_80 k_0_83 (by decide +kernel) ⟨Nat.le_of_ble_eq_true rfl, Nat.le_of_ble_eq_true rfl⟩) (jm_pre hK hP hD) rfl rfl hl.1 rfl (lv_room (Nat.le_of_ble_eq_true rfl)) d_Mo_readSimple_115 ⟨Nat.le_of_ble_eq_true rfl, Nat.le_of_ble_eq_true rfl⟩) (fun S2 H locs hw4 hP hD hS => ?_)
              try simp only [tI_40, tI_11] at hw4
              obtain rfl := hw4
              have hP : va_P D classes (mW T h0 ar ((((f_thrown S), (upd (a_kinds S) (40) (11 : Int32)), (vp_updL (a_codes S) (40) j1), (vf_upd (a_reals S) (40) 0), (f_size S), (f_taken S), (a_words S), (a_many S)), S.2.1, S.2.2.1, S.2.2.2.1, S.2.2.2.2.1, S.2.2.2.2.2) : MS)) H := hP
              have hD : va_D A (mW T h0 ar ((((f_thrown S), (upd (a_kinds S) (40) (11 : Int32)), (vp_updL (a_codes S) (40) j1), (vf_upd (a_reals S) (40) 0), (f_size S), (f_taken S), (a_words S), (a_many S)), S.2.1, S.2.2.1, S.2.2.2.1, S.2.2.2.2.1, S.2.2.2.2.2) : MS)) := hD
              have i_vals : ∀ k, k < 1300 → vOk ((upd (a_kinds S) (40) (11 : Int32)) k) ((vp_updL (a_codes S) (40) j1) k) ((vf_upd (a_reals S) (40) 0) k) := vOk_upd i_vals (vO_of 11 tI_11 (by decide))
              have fa1 : ((upd (a_kinds S) (40) (11 : Int32)) 40).toInt = (11 : Int32).toInt := congrArg Int32.toInt upd_s
              have := tI_11
              refine lv_aload_n hx hb d_Mo_readSimple_118 rfl (lv_at hl 1 rfl) ?_
              refine lv_dup hx hb d_Mo_readSimple_119 rfl ?_
              refine va_get (D := D) (ci := 11) (v := .int (f_at S)) (C := "PageScribeModel") (T := F_Mo) (N := 45) hx hb hts i_Mo hown hK hP 0 mW_0 cl_11 25 (by decide) (hts _ k_6_185) (fun _ h9 => h9) (mg_at _ _) d_Mo_readSimple_120 ?_
              refine lv_iconst (v := 1) hx hb d_Mo_readSimple_123 (by decide) ?_
              refine lv_iadd hx hb d_Mo_readSimple_124 ?_
              refine lv_topi (fun x2 ex2 => ?_)
              have fx2 : x2.toInt = ((f_at S).toInt + 1) := by rw [ex2]; exact (zt_add (show (f_at S).toInt = _ from rfl) tI_1 (by omega) (by omega)).trans (by omega)
              refine va_put (D := D) (ci := 11) (v := .int x2) (ty := .int) (C := "PageScribeModel") (T := F_Mo) (N := 45) hx hb hts i_Mo t_Mo t_Mo_ok n_Mo hown hK hP hD hS 0 mW_0 cl_11 25 (by decide) (hts _ k_6_185) (fun _ h9 => h9) rfl (by decide +kernel) rfl rfl (Nat.le_of_ble_eq_true rfl) d_Mo_readSimple_125 (fun H locs hP hD hS => ?_)
              rw [mp_at] at hP hD
              have hP : va_P D classes (mW T h0 ar ((((f_thrown S), (upd (a_kinds S) (40) (11 : Int32)), (vp_updL (a_codes S) (40) j1), (vf_upd (a_reals S) (40) 0), (f_size S), (f_taken S), (a_words S), (a_many S)), S.2.1, S.2.2.1, ((f_length S), x2, (f_pending S), (f_level S), (a_starts S), (a_known S), (f_knows S), (f_fuel S)), S.2.2.2.2.1, S.2.2.2.2.2) : MS)) H := hP
              have hD : va_D A (mW T h0 ar ((((f_thrown S), (upd (a_kinds S) (40) (11 : Int32)), (vp_updL (a_codes S) (40) j1), (vf_upd (a_reals S) (40) 0), (f_size S), (f_taken S), (a_words S), (a_many S)), S.2.1, S.2.2.1, ((f_length S), x2, (f_pending S), (f_level S), (a_starts S), (a_known S), (f_knows S), (f_fuel S)), S.2.2.2.2.1, S.2.2.2.2.2) : MS)) := hD
              refine lv_iconst (v := 0) hx hb d_Mo_readSimple_128 (by decide) ?_
              exact j_iret F hr hlocks hK hS ((((f_thrown S), (upd (a_kinds S) (40) (11 : Int32)), (vp_updL (a_codes S) (40) j1), (vf_upd (a_reals S) (40) 0), (f_size S), (f_taken S), (a_words S), (a_many S)), S.2.1, S.2.2.1, ((f_length S), x2, (f_pending S), (f_level S), (a_starts S), (a_known S), (f_knows S), (f_fuel S)), S.2.2.2.2.1, S.2.2.2.2.2) : MS) ⟨⟨i_size, i_taken, i_vals, i_room, i_dicts, i_deep, i_open, i_cells, i_points, i_part, i_length, i_knows, i_page, i_text, i_pats, i_fuel, i_fr, i_ink⟩, (kR_r S), (kF_r S), (show 0 ≤ (0 : Int32).toInt ∧ (0 : Int32).toInt ≤ 15 ∧ 0 ≤ x2.toInt ∧ x2.toInt ≤ (f_length S).toInt ∧ ((0 : Int32).toInt = 0 → (f_at S).toInt < x2.toInt) by have := tI_0; omega)⟩ hP hD d_Mo_readSimple_129
            · refine lv_iload_n hx hb d_Mo_readSimple_100 rfl (lv_at hl 0 rfl) ?_
              refine lv_bipush (v := 91) hx hb d_Mo_readSimple_101 (by decide) ?_
              refine lv_icmp_ne (tgt := 112) hx hb d_Mo_readSimple_103 (by decide) (fun c103_1 => ?_) (fun c103_1 => ?_)
              · first | have fc103_1 : x1.toInt < 91 := (by have := zt_ne (show x1.toInt = _ from rfl) tI_91 c103_1; omega) | have fc103_1 : 91 < x1.toInt := (by have := zt_ne (show x1.toInt = _ from rfl) tI_91 c103_1; omega) | skip
                refine lv_ldc2 (v := (28)) hx hb hown (hts _ k_7_123) d_Mo_readSimple_112 ?_
                exact key1 (28 : Int64) _ _ _ ⟨trivial, hP, hD, hS, lv_sub hl [0, 1] rfl⟩
              · have fc103_1 : x1.toInt = 91 := zt_eq (show x1.toInt = _ from rfl) tI_91 c103_1
                refine lv_ldc2 (v := (27)) hx hb hown (hts _ k_7_122) d_Mo_readSimple_106 ?_
                refine lv_goto (tgt := 115) hx hb d_Mo_readSimple_109 (by decide) ?_
                exact key1 (27 : Int64) _ _ _ ⟨trivial, hP, hD, hS, lv_sub hl [0, 1] rfl⟩
          · first | have fc83_1 : x1.toInt < 91 := (by have := zt_ne (show x1.toInt = _ from rfl) tI_91 c83_1; omega) | have fc83_1 : 91 < x1.toInt := (by have := zt_ne (show x1.toInt = _ from rfl) tI_91 c83_1; omega) | skip
            refine lv_iload_n hx hb d_Mo_readSimple_86 rfl (lv_at hl 0 rfl) ?_
            refine lv_bipush (v := 93) hx hb d_Mo_readSimple_87 (by decide) ?_
            refine lv_icmp_eq (tgt := 95) hx hb d_Mo_readSimple_89 (by decide) (fun c89_1 => ?_) (fun c89_1 => ?_)
            · have fc89_1 : x1.toInt = 93 := zt_eq (show x1.toInt = _ from rfl) tI_93 c89_1
              refine lv_aload_n hx hb d_Mo_readSimple_95 rfl (lv_at hl 1 rfl) ?_
              refine lv_bipush (v := 40) hx hb d_Mo_readSimple_96 (by decide) ?_
              refine lv_bipush (v := 11) hx hb d_Mo_readSimple_98 (by decide) ?_
              refine j_joinH (α := Int64) (fun x H locs ls => (True) ∧ va_P D classes (mW T h0 ar S) H ∧ va_D A (mW T h0 ar S) ∧ va_S A s.heap H locs ∧ lv_has ls 2 [(1, .int x1), (0, .ref h0)]) (fun x ls => F0 m 115 ls (.long x :: [.int 11, .int 40, .ref h0])) (fun x H locs ls hI9 => ?_) (fun key2 => ?_)
              · obtain ⟨j2, rfl⟩ : ∃ z, z = x := ⟨_, rfl⟩
                obtain ⟨hj2, hP, hD, hS, hl⟩ := hI9
                have hP : va_P D classes (mW T h0 ar S) H := hP
                have hD : va_D A (mW T h0 ar S) := hD
                have hl : lv_has ls 2 [(1, .int x1), (0, .ref h0)] := hl
                refine jm_cv (w := (fun u => u)) hK hP hD hS hA (va_runV (As := [.int 40, .int 11, .long j2]) (rest := []) F (m_set l D T h0 ar S (40 : Int32) (11 : Int32) j2 H.size (show 0 ≤ (40 : Int32).toInt ∧ (40 : Int32).toInt < 1300 by have := tI_40; have := tI_11; omega)) (j_cV (k := 3) (C := "PageScribeModel") hts k_7_81 k_1_12 k_7_78 k_7_80 k_0_83 (by decide +kernel) ⟨Nat.le_of_ble_eq_true rfl, Nat.le_of_ble_eq_true rfl⟩) (jm_pre hK hP hD) rfl rfl hl.1 rfl (lv_room (Nat.le_of_ble_eq_true rfl)) d_Mo_readSimple_115 ⟨Nat.le_of_ble_eq_true rfl, Nat.le_of_ble_eq_true rfl⟩) (fun S3 H locs hw5 hP hD hS => ?_)
                try simp only [tI_40, tI_11] at hw5
                obtain rfl := hw5
                have hP : va_P D classes (mW T h0 ar ((((f_thrown S), (upd (a_kinds S) (40) (11 : Int32)), (vp_updL (a_codes S) (40) j2), (vf_upd (a_reals S) (40) 0), (f_size S), (f_taken S), (a_words S), (a_many S)), S.2.1, S.2.2.1, S.2.2.2.1, S.2.2.2.2.1, S.2.2.2.2.2) : MS)) H := hP
                have hD : va_D A (mW T h0 ar ((((f_thrown S), (upd (a_kinds S) (40) (11 : Int32)), (vp_updL (a_codes S) (40) j2), (vf_upd (a_reals S) (40) 0), (f_size S), (f_taken S), (a_words S), (a_many S)), S.2.1, S.2.2.1, S.2.2.2.1, S.2.2.2.2.1, S.2.2.2.2.2) : MS)) := hD
                have i_vals : ∀ k, k < 1300 → vOk ((upd (a_kinds S) (40) (11 : Int32)) k) ((vp_updL (a_codes S) (40) j2) k) ((vf_upd (a_reals S) (40) 0) k) := vOk_upd i_vals (vO_of 11 tI_11 (by decide))
                have fa2 : ((upd (a_kinds S) (40) (11 : Int32)) 40).toInt = (11 : Int32).toInt := congrArg Int32.toInt upd_s
                have := tI_11
                refine lv_aload_n hx hb d_Mo_readSimple_118 rfl (lv_at hl 1 rfl) ?_
                refine lv_dup hx hb d_Mo_readSimple_119 rfl ?_
                refine va_get (D := D) (ci := 11) (v := .int (f_at S)) (C := "PageScribeModel") (T := F_Mo) (N := 45) hx hb hts i_Mo hown hK hP 0 mW_0 cl_11 25 (by decide) (hts _ k_6_185) (fun _ h9 => h9) (mg_at _ _) d_Mo_readSimple_120 ?_
                refine lv_iconst (v := 1) hx hb d_Mo_readSimple_123 (by decide) ?_
                refine lv_iadd hx hb d_Mo_readSimple_124 ?_
                refine lv_topi (fun x3 ex3 => ?_)
                have fx3 : x3.toInt = ((f_at S).toInt + 1) := by rw [ex3]; exact (zt_add (show (f_at S).toInt = _ from rfl) tI_1 (by omega) (by omega)).trans (by omega)
                refine va_put (D := D) (ci := 11) (v := .int x3) (ty := .int) (C := "PageScribeModel") (T := F_Mo) (N := 45) hx hb hts i_Mo t_Mo t_Mo_ok n_Mo hown hK hP hD hS 0 mW_0 cl_11 25 (by decide) (hts _ k_6_185) (fun _ h9 => h9) rfl (by decide +kernel) rfl rfl (Nat.le_of_ble_eq_true rfl) d_Mo_readSimple_125 (fun H locs hP hD hS => ?_)
                rw [mp_at] at hP hD
                have hP : va_P D classes (mW T h0 ar ((((f_thrown S), (upd (a_kinds S) (40) (11 : Int32)), (vp_updL (a_codes S) (40) j2), (vf_upd (a_reals S) (40) 0), (f_size S), (f_taken S), (a_words S), (a_many S)), S.2.1, S.2.2.1, ((f_length S), x3, (f_pending S), (f_level S), (a_starts S), (a_known S), (f_knows S), (f_fuel S)), S.2.2.2.2.1, S.2.2.2.2.2) : MS)) H := hP
                have hD : va_D A (mW T h0 ar ((((f_thrown S), (upd (a_kinds S) (40) (11 : Int32)), (vp_updL (a_codes S) (40) j2), (vf_upd (a_reals S) (40) 0), (f_size S), (f_taken S), (a_words S), (a_many S)), S.2.1, S.2.2.1, ((f_length S), x3, (f_pending S), (f_level S), (a_starts S), (a_known S), (f_knows S), (f_fuel S)), S.2.2.2.2.1, S.2.2.2.2.2) : MS)) := hD
                refine lv_iconst (v := 0) hx hb d_Mo_readSimple_128 (by decide) ?_
                exact j_iret F hr hlocks hK hS ((((f_thrown S), (upd (a_kinds S) (40) (11 : Int32)), (vp_updL (a_codes S) (40) j2), (vf_upd (a_reals S) (40) 0), (f_size S), (f_taken S), (a_words S), (a_many S)), S.2.1, S.2.2.1, ((f_length S), x3, (f_pending S), (f_level S), (a_starts S), (a_known S), (f_knows S), (f_fuel S)), S.2.2.2.2.1, S.2.2.2.2.2) : MS) ⟨⟨i_size, i_taken, i_vals, i_room, i_dicts, i_deep, i_open, i_cells, i_points, i_part, i_length, i_knows, i_page, i_text, i_pats, i_fuel, i_fr, i_ink⟩, (kR_r S), (kF_r S), (show 0 ≤ (0 : Int32).toInt ∧ (0 : Int32).toInt ≤ 15 ∧ 0 ≤ x3.toInt ∧ x3.toInt ≤ (f_length S).toInt ∧ ((0 : Int32).toInt = 0 → (f_at S).toInt < x3.toInt) by have := tI_0; omega)⟩ hP hD d_Mo_readSimple_129
              · refine lv_iload_n hx hb d_Mo_readSimple_100 rfl (lv_at hl 0 rfl) ?_
                refine lv_bipush (v := 91) hx hb d_Mo_readSimple_101 (by decide) ?_
                refine lv_icmp_ne (tgt := 112) hx hb d_Mo_readSimple_103 (by decide) (fun c103_2 => ?_) (fun c103_2 => ?_)
                · first | have fc103_2 : x1.toInt < 91 := (by have := zt_ne (show x1.toInt = _ from rfl) tI_91 c103_2; omega) | have fc103_2 : 91 < x1.toInt := (by have := zt_ne (show x1.toInt = _ from rfl) tI_91 c103_2; omega) | skip
                  refine lv_ldc2 (v := (28)) hx hb hown (hts _ k_7_123) d_Mo_readSimple_112 ?_
                  exact key2 (28 : Int64) _ _ _ ⟨trivial, hP, hD, hS, lv_sub hl [0, 1] rfl⟩
                · have fc103_2 : x1.toInt = 91 := zt_eq (show x1.toInt = _ from rfl) tI_91 c103_2
                  refine lv_ldc2 (v := (27)) hx hb hown (hts _ k_7_122) d_Mo_readSimple_106 ?_
                  refine lv_goto (tgt := 115) hx hb d_Mo_readSimple_109 (by decide) ?_
                  exact key2 (27 : Int64) _ _ _ ⟨trivial, hP, hD, hS, lv_sub hl [0, 1] rfl⟩
            · first | have fc89_1 : x1.toInt < 93 := (by have := zt_ne (show x1.toInt = _ from rfl) tI_93 c89_1; omega) | have fc89_1 : 93 < x1.toInt := (by have := zt_ne (show x1.toInt = _ from rfl) tI_93 c89_1; omega) | skip
              refine lv_bipush (v := 15) hx hb d_Mo_readSimple_92 (by decide) ?_
              exact j_iret F hr hlocks hK hS S ⟨⟨i_size, i_taken, i_vals, i_room, i_dicts, i_deep, i_open, i_cells, i_points, i_part, i_length, i_knows, i_page, i_text, i_pats, i_fuel, i_fr, i_ink⟩, (kR_r S), (kF_r S), (show 0 ≤ (15 : Int32).toInt ∧ (15 : Int32).toInt ≤ 15 ∧ 0 ≤ (f_at S).toInt ∧ (f_at S).toInt ≤ (f_length S).toInt ∧ ((15 : Int32).toInt = 0 → (f_at S).toInt < (f_at S).toInt) by have := tI_15; omega)⟩ hP hD d_Mo_readSimple_94
        · have fc45_1 : x1.toInt = 47 := zt_eq (show x1.toInt = _ from rfl) tI_47 c45_1
          refine lv_aload_n hx hb d_Mo_readSimple_48 rfl (lv_at hl 1 rfl) ?_
          refine lv_aload_n hx hb d_Mo_readSimple_49 rfl (lv_at hl 1 rfl) ?_
          refine va_get (D := D) (ci := 11) (v := .int (f_at S)) (C := "PageScribeModel") (T := F_Mo) (N := 45) hx hb hts i_Mo hown hK hP 0 mW_0 cl_11 25 (by decide) (hts _ k_6_185) (fun _ h9 => h9) (mg_at _ _) d_Mo_readSimple_50 ?_
          refine lv_iconst (v := 1) hx hb d_Mo_readSimple_53 (by decide) ?_
          refine lv_iadd hx hb d_Mo_readSimple_54 ?_
          refine lv_topi (fun x4 ex4 => ?_)
          have fx4 : x4.toInt = ((f_at S).toInt + 1) := by rw [ex4]; exact (zt_add (show (f_at S).toInt = _ from rfl) tI_1 (by omega) (by omega)).trans (by omega)
          refine jm_ci (w := (fun _ => S)) hK hP hD hS hA (va_runV (As := [.int x4]) (rest := []) F (m_look2 l D T h0 ar S x4 H.size ⟨i_size, i_taken, i_vals, i_room, i_dicts, i_deep, i_open, i_cells, i_points, i_part, i_length, i_knows, i_page, i_text, i_pats, i_fuel, i_fr, i_ink⟩ (show 0 ≤ x4.toInt by first | omega | (simp only [fx4]; omega))) (j_cV (k := 1) (C := "PageScribeModel") hts k_7_106 k_1_12 k_7_103 k_7_105 k_0_88 (by decide +kernel) ⟨Nat.le_of_ble_eq_true rfl, Nat.le_of_ble_eq_true rfl⟩) (jm_pre hK hP hD) rfl rfl hl.1 rfl (lv_room (Nat.le_of_ble_eq_true rfl)) d_Mo_readSimple_55 ⟨Nat.le_of_ble_eq_true rfl, Nat.le_of_ble_eq_true rfl⟩) (fun rv6 u3 H locs hw6 hP hD hS => ?_)
          have hP : va_P D classes (mW T h0 ar S) H := hP
          have hD : va_D A (mW T h0 ar S) := hD
          have qhw6 : 0 ≤ rv6.toInt ∧ rv6.toInt ≤ 127 ∧ (rv6.toInt = 32 ∨ (((f_at S).toInt + 1) < (f_length S).toInt ∧ rv6.toInt = ((a_text S) ((f_at S).toInt + 1).toNat).toInt)) := by simpa only [fx4] using hw6
          refine j_ci (wc := []) (wr := (mW T h0 ar S)) hK hP hD hS hA [] isc rfl isc_all isc_nd (fun _ _ => List.not_mem_nil) (va_runS (As := [.int rv6]) (rest := []) F (m_isLetter l D T rv6 H.size) (j_cS (k := 1) hts k_7_113 k_1_12 k_7_111 k_7_112 (by decide +kernel) ⟨Nat.le_of_ble_eq_true rfl, Nat.le_of_ble_eq_true rfl⟩) (j_preS hK hP hD [] rfl (by decide) (fun _ _ _ _ h => h) (fun _ _ _ => trivial)) rfl rfl hl.1 rfl (lv_room (Nat.le_of_ble_eq_true rfl)) d_Mo_readSimple_58 ⟨Nat.le_of_ble_eq_true rfl, Nat.le_of_ble_eq_true rfl⟩) (fun rv7 u4 H locs hw7 hP hD hS => ?_)
          have hP : va_P D classes (mW T h0 ar S) H := hP
          have hD : va_D A (mW T h0 ar S) := hD
          have qhw7 : (rv7.toInt = 1 ∧ 97 ≤ rv6.toInt ∧ rv6.toInt ≤ 122) ∨ (rv7.toInt = 0 ∧ ¬ (97 ≤ rv6.toInt ∧ rv6.toInt ≤ 122)) := hw7
          refine lv_if_eq (tgt := 80) hx hb d_Mo_readSimple_61 (by decide) (fun c61_1 => ?_) (fun c61_1 => ?_)
          · have fc61_1 : rv7.toInt = 0 := zt_eq (show rv7.toInt = _ from rfl) tI_0 c61_1
            refine lv_iload_n hx hb d_Mo_readSimple_80 rfl (lv_at hl 0 rfl) ?_
            refine lv_bipush (v := 91) hx hb d_Mo_readSimple_81 (by decide) ?_
            refine lv_icmp_eq (tgt := 95) hx hb d_Mo_readSimple_83 (by decide) (fun c83_2 => ?_) (fun c83_2 => ?_)
            · have fc83_2 : x1.toInt = 91 := zt_eq (show x1.toInt = _ from rfl) tI_91 c83_2
              refine lv_aload_n hx hb d_Mo_readSimple_95 rfl (lv_at hl 1 rfl) ?_
              refine lv_bipush (v := 40) hx hb d_Mo_readSimple_96 (by decide) ?_
              refine lv_bipush (v := 11) hx hb d_Mo_readSimple_98 (by decide) ?_
              refine j_joinH (α := Int64) (fun x H locs ls => (True) ∧ va_P D classes (mW T h0 ar S) H ∧ va_D A (mW T h0 ar S) ∧ va_S A s.heap H locs ∧ lv_has ls 2 [(1, .int x1), (0, .ref h0)]) (fun x ls => F0 m 115 ls (.long x :: [.int 11, .int 40, .ref h0])) (fun x H locs ls hI9 => ?_) (fun key3 => ?_)
              · obtain ⟨j3, rfl⟩ : ∃ z, z = x := ⟨_, rfl⟩
                obtain ⟨hj3, hP, hD, hS, hl⟩ := hI9
                have hP : va_P D classes (mW T h0 ar S) H := hP
                have hD : va_D A (mW T h0 ar S) := hD
                have hl : lv_has ls 2 [(1, .int x1), (0, .ref h0)] := hl
                refine jm_cv (w := (fun u => u)) hK hP hD hS hA (va_runV (As := [.int 40, .int 11, .long j3]) (rest := []) F (m_set l D T h0 ar S (40 : Int32) (11 : Int32) j3 H.size (show 0 ≤ (40 : Int32).toInt ∧ (40 : Int32).toInt < 1300 by have := tI_40; have := tI_11; omega)) (j_cV (k := 3) (C := "PageScribeModel") hts k_7_81 k_1_12 k_7_78 k_7_80 k_0_83 (by decide +kernel) ⟨Nat.le_of_ble_eq_true rfl, Nat.le_of_ble_eq_true rfl⟩) (jm_pre hK hP hD) rfl rfl hl.1 rfl (lv_room (Nat.le_of_ble_eq_true rfl)) d_Mo_readSimple_115 ⟨Nat.le_of_ble_eq_true rfl, Nat.le_of_ble_eq_true rfl⟩) (fun S4 H locs hw8 hP hD hS => ?_)
                try simp only [tI_40, tI_11] at hw8
                obtain rfl := hw8
                have hP : va_P D classes (mW T h0 ar ((((f_thrown S), (upd (a_kinds S) (40) (11 : Int32)), (vp_updL (a_codes S) (40) j3), (vf_upd (a_reals S) (40) 0), (f_size S), (f_taken S), (a_words S), (a_many S)), S.2.1, S.2.2.1, S.2.2.2.1, S.2.2.2.2.1, S.2.2.2.2.2) : MS)) H := hP
                have hD : va_D A (mW T h0 ar ((((f_thrown S), (upd (a_kinds S) (40) (11 : Int32)), (vp_updL (a_codes S) (40) j3), (vf_upd (a_reals S) (40) 0), (f_size S), (f_taken S), (a_words S), (a_many S)), S.2.1, S.2.2.1, S.2.2.2.1, S.2.2.2.2.1, S.2.2.2.2.2) : MS)) := hD
                have i_vals : ∀ k, k < 1300 → vOk ((upd (a_kinds S) (40) (11 : Int32)) k) ((vp_updL (a_codes S) (40) j3) k) ((vf_upd (a_reals S) (40) 0) k) := vOk_upd i_vals (vO_of 11 tI_11 (by decide))
                have fa3 : ((upd (a_kinds S) (40) (11 : Int32)) 40).toInt = (11 : Int32).toInt := congrArg Int32.toInt upd_s
                have := tI_11
                refine lv_aload_n hx hb d_Mo_readSimple_118 rfl (lv_at hl 1 rfl) ?_
                refine lv_dup hx hb d_Mo_readSimple_119 rfl ?_
                refine va_get (D := D) (ci := 11) (v := .int (f_at S)) (C := "PageScribeModel") (T := F_Mo) (N := 45) hx hb hts i_Mo hown hK hP 0 mW_0 cl_11 25 (by decide) (hts _ k_6_185) (fun _ h9 => h9) (mg_at _ _) d_Mo_readSimple_120 ?_
                refine lv_iconst (v := 1) hx hb d_Mo_readSimple_123 (by decide) ?_
                refine lv_iadd hx hb d_Mo_readSimple_124 ?_
                refine j_eqi (y := x4) ex4.symm ?_
                refine va_put (D := D) (ci := 11) (v := .int x4) (ty := .int) (C := "PageScribeModel") (T := F_Mo) (N := 45) hx hb hts i_Mo t_Mo t_Mo_ok n_Mo hown hK hP hD hS 0 mW_0 cl_11 25 (by decide) (hts _ k_6_185) (fun _ h9 => h9) rfl (by decide +kernel) rfl rfl (Nat.le_of_ble_eq_true rfl) d_Mo_readSimple_125 (fun H locs hP hD hS => ?_)
                rw [mp_at] at hP hD
                have hP : va_P D classes (mW T h0 ar ((((f_thrown S), (upd (a_kinds S) (40) (11 : Int32)), (vp_updL (a_codes S) (40) j3), (vf_upd (a_reals S) (40) 0), (f_size S), (f_taken S), (a_words S), (a_many S)), S.2.1, S.2.2.1, ((f_length S), x4, (f_pending S), (f_level S), (a_starts S), (a_known S), (f_knows S), (f_fuel S)), S.2.2.2.2.1, S.2.2.2.2.2) : MS)) H := hP
                have hD : va_D A (mW T h0 ar ((((f_thrown S), (upd (a_kinds S) (40) (11 : Int32)), (vp_updL (a_codes S) (40) j3), (vf_upd (a_reals S) (40) 0), (f_size S), (f_taken S), (a_words S), (a_many S)), S.2.1, S.2.2.1, ((f_length S), x4, (f_pending S), (f_level S), (a_starts S), (a_known S), (f_knows S), (f_fuel S)), S.2.2.2.2.1, S.2.2.2.2.2) : MS)) := hD
                refine lv_iconst (v := 0) hx hb d_Mo_readSimple_128 (by decide) ?_
                exact j_iret F hr hlocks hK hS ((((f_thrown S), (upd (a_kinds S) (40) (11 : Int32)), (vp_updL (a_codes S) (40) j3), (vf_upd (a_reals S) (40) 0), (f_size S), (f_taken S), (a_words S), (a_many S)), S.2.1, S.2.2.1, ((f_length S), x4, (f_pending S), (f_level S), (a_starts S), (a_known S), (f_knows S), (f_fuel S)), S.2.2.2.2.1, S.2.2.2.2.2) : MS) ⟨⟨i_size, i_taken, i_vals, i_room, i_dicts, i_deep, i_open, i_cells, i_points, i_part, i_length, i_knows, i_page, i_text, i_pats, i_fuel, i_fr, i_ink⟩, (kR_r S), (kF_r S), (show 0 ≤ (0 : Int32).toInt ∧ (0 : Int32).toInt ≤ 15 ∧ 0 ≤ x4.toInt ∧ x4.toInt ≤ (f_length S).toInt ∧ ((0 : Int32).toInt = 0 → (f_at S).toInt < x4.toInt) by have := tI_0; omega)⟩ hP hD d_Mo_readSimple_129
              · refine lv_iload_n hx hb d_Mo_readSimple_100 rfl (lv_at hl 0 rfl) ?_
                refine lv_bipush (v := 91) hx hb d_Mo_readSimple_101 (by decide) ?_
                refine lv_icmp_ne (tgt := 112) hx hb d_Mo_readSimple_103 (by decide) (fun c103_3 => ?_) (fun c103_3 => ?_)
                · first | have fc103_3 : x1.toInt < 91 := (by have := zt_ne (show x1.toInt = _ from rfl) tI_91 c103_3; omega) | have fc103_3 : 91 < x1.toInt := (by have := zt_ne (show x1.toInt = _ from rfl) tI_91 c103_3; omega) | skip
                  refine lv_ldc2 (v := (28)) hx hb hown (hts _ k_7_123) d_Mo_readSimple_112 ?_
                  exact key3 (28 : Int64) _ _ _ ⟨trivial, hP, hD, hS, lv_sub hl [0, 1] rfl⟩
                · have fc103_3 : x1.toInt = 91 := zt_eq (show x1.toInt = _ from rfl) tI_91 c103_3
                  refine lv_ldc2 (v := (27)) hx hb hown (hts _ k_7_122) d_Mo_readSimple_106 ?_
                  refine lv_goto (tgt := 115) hx hb d_Mo_readSimple_109 (by decide) ?_
                  exact key3 (27 : Int64) _ _ _ ⟨trivial, hP, hD, hS, lv_sub hl [0, 1] rfl⟩
            · first | have fc83_2 : x1.toInt < 91 := (by have := zt_ne (show x1.toInt = _ from rfl) tI_91 c83_2; omega) | have fc83_2 : 91 < x1.toInt := (by have := zt_ne (show x1.toInt = _ from rfl) tI_91 c83_2; omega) | skip
              refine lv_iload_n hx hb d_Mo_readSimple_86 rfl (lv_at hl 0 rfl) ?_
              refine lv_bipush (v := 93) hx hb d_Mo_readSimple_87 (by decide) ?_
              refine lv_icmp_eq (tgt := 95) hx hb d_Mo_readSimple_89 (by decide) (fun c89_2 => ?_) (fun c89_2 => ?_)
              · have fc89_2 : x1.toInt = 93 := zt_eq (show x1.toInt = _ from rfl) tI_93 c89_2
                refine lv_aload_n hx hb d_Mo_readSimple_95 rfl (lv_at hl 1 rfl) ?_
                refine lv_bipush (v := 40) hx hb d_Mo_readSimple_96 (by decide) ?_
                refine lv_bipush (v := 11) hx hb d_Mo_readSimple_98 (by decide) ?_
                refine j_joinH (α := Int64) (fun x H locs ls => (True) ∧ va_P D classes (mW T h0 ar S) H ∧ va_D A (mW T h0 ar S) ∧ va_S A s.heap H locs ∧ lv_has ls 2 [(1, .int x1), (0, .ref h0)]) (fun x ls => F0 m 115 ls (.long x :: [.int 11, .int 40, .ref h0])) (fun x H locs ls hI9 => ?_) (fun key4 => ?_)
                · obtain ⟨j4, rfl⟩ : ∃ z, z = x := ⟨_, rfl⟩
                  obtain ⟨hj4, hP, hD, hS, hl⟩ := hI9
                  have hP : va_P D classes (mW T h0 ar S) H := hP
                  have hD : va_D A (mW T h0 ar S) := hD
                  have hl : lv_has ls 2 [(1, .int x1), (0, .ref h0)] := hl
                  refine jm_cv (w := (fun u => u)) hK hP hD hS hA (va_runV (As := [.int 40, .int 11, .long j4]) (rest := []) F (m_set l D T h0 ar S (40 : Int32) (11 : Int32) j4 H.size (show 0 ≤ (40 : Int32).toInt ∧ (40 : Int32).toInt < 1300 by have := tI_40; have := tI_11; omega)) (j_cV (k := 3) (C := "PageScribeModel") hts k_7_81 k_1_12 k_7_78 k_7_80 k_0_83 (by decide +kernel) ⟨Nat.le_of_ble_eq_true rfl, Nat.le_of_ble_eq_true rfl⟩) (jm_pre hK hP hD) rfl rfl hl.1 rfl (lv_room (Nat.le_of_ble_eq_true rfl)) d_Mo_readSimple_115 ⟨Nat.le_of_ble_eq_true rfl, Nat.le_of_ble_eq_true rfl⟩) (fun S5 H locs hw9 hP hD hS => ?_)
                  try simp only [tI_40, tI_11] at hw9
                  obtain rfl := hw9
                  have hP : va_P D classes (mW T h0 ar ((((f_thrown S), (upd (a_kinds S) (40) (11 : Int32)), (vp_updL (a_codes S) (40) j4), (vf_upd (a_reals S) (40) 0), (f_size S), (f_taken S), (a_words S), (a_many S)), S.2.1, S.2.2.1, S.2.2.2.1, S.2.2.2.2.1, S.2.2.2.2.2) : MS)) H := hP
                  have hD : va_D A (mW T h0 ar ((((f_thrown S), (upd (a_kinds S) (40) (11 : Int32)), (vp_updL (a_codes S) (40) j4), (vf_upd (a_reals S) (40) 0), (f_size S), (f_taken S), (a_words S), (a_many S)), S.2.1, S.2.2.1, S.2.2.2.1, S.2.2.2.2.1, S.2.2.2.2.2) : MS)) := hD
                  have i_vals : ∀ k, k < 1300 → vOk ((upd (a_kinds S) (40) (11 : Int32)) k) ((vp_updL (a_codes S) (40) j4) k) ((vf_upd (a_reals S) (40) 0) k) := vOk_upd i_vals (vO_of 11 tI_11 (by decide))
                  have fa4 : ((upd (a_kinds S) (40) (11 : Int32)) 40).toInt = (11 : Int32).toInt := congrArg Int32.toInt upd_s
                  have := tI_11
                  refine lv_aload_n hx hb d_Mo_readSimple_118 rfl (lv_at hl 1 rfl) ?_
                  refine lv_dup hx hb d_Mo_readSimple_119 rfl ?_
                  refine va_get (D := D) (ci := 11) (v := .int (f_at S)) (C := "PageScribeModel") (T := F_Mo) (N := 45) hx hb hts i_Mo hown hK hP 0 mW_0 cl_11 25 (by decide) (hts _ k_6_185) (fun _ h9 => h9) (mg_at _ _) d_Mo_readSimple_120 ?_
                  refine lv_iconst (v := 1) hx hb d_Mo_readSimple_123 (by decide) ?_
                  refine lv_iadd hx hb d_Mo_readSimple_124 ?_
                  refine j_eqi (y := x4) ex4.symm ?_
                  refine va_put (D := D) (ci := 11) (v := .int x4) (ty := .int) (C := "PageScribeModel") (T := F_Mo) (N := 45) hx hb hts i_Mo t_Mo t_Mo_ok n_Mo hown hK hP hD hS 0 mW_0 cl_11 25 (by decide) (hts _ k_6_185) (fun _ h9 => h9) rfl (by decide +kernel) rfl rfl (Nat.le_of_ble_eq_true rfl) d_Mo_readSimple_125 (fun H locs hP hD hS => ?_)
                  rw [mp_at] at hP hD
                  have hP : va_P D classes (mW T h0 ar ((((f_thrown S), (upd (a_kinds S) (40) (11 : Int32)), (vp_updL (a_codes S) (40) j4), (vf_upd (a_reals S) (40) 0), (f_size S), (f_taken S), (a_words S), (a_many S)), S.2.1, S.2.2.1, ((f_length S), x4, (f_pending S), (f_level S), (a_starts S), (a_known S), (f_knows S), (f_fuel S)), S.2.2.2.2.1, S.2.2.2.2.2) : MS)) H := hP
                  have hD : va_D A (mW T h0 ar ((((f_thrown S), (upd (a_kinds S) (40) (11 : Int32)), (vp_updL (a_codes S) (40) j4), (vf_upd (a_reals S) (40) 0), (f_size S), (f_taken S), (a_words S), (a_many S)), S.2.1, S.2.2.1, ((f_length S), x4, (f_pending S), (f_level S), (a_starts S), (a_known S), (f_knows S), (f_fuel S)), S.2.2.2.2.1, S.2.2.2.2.2) : MS)) := hD
                  refine lv_iconst (v := 0) hx hb d_Mo_readSimple_128 (by decide) ?_
                  exact j_iret F hr hlocks hK hS ((((f_thrown S), (upd (a_kinds S) (40) (11 : Int32)), (vp_updL (a_codes S) (40) j4), (vf_upd (a_reals S) (40) 0), (f_size S), (f_taken S), (a_words S), (a_many S)), S.2.1, S.2.2.1, ((f_length S), x4, (f_pending S), (f_level S), (a_starts S), (a_known S), (f_knows S), (f_fuel S)), S.2.2.2.2.1, S.2.2.2.2.2) : MS) ⟨⟨i_size, i_taken, i_vals, i_room, i_dicts, i_deep, i_open, i_cells, i_points, i_part, i_length, i_knows, i_page, i_text, i_pats, i_fuel, i_fr, i_ink⟩, (kR_r S), (kF_r S), (show 0 ≤ (0 : Int32).toInt ∧ (0 : Int32).toInt ≤ 15 ∧ 0 ≤ x4.toInt ∧ x4.toInt ≤ (f_length S).toInt ∧ ((0 : Int32).toInt = 0 → (f_at S).toInt < x4.toInt) by have := tI_0; omega)⟩ hP hD d_Mo_readSimple_129
                · refine lv_iload_n hx hb d_Mo_readSimple_100 rfl (lv_at hl 0 rfl) ?_
                  refine lv_bipush (v := 91) hx hb d_Mo_readSimple_101 (by decide) ?_
                  refine lv_icmp_ne (tgt := 112) hx hb d_Mo_readSimple_103 (by decide) (fun c103_4 => ?_) (fun c103_4 => ?_)
                  · first | have fc103_4 : x1.toInt < 91 := (by have := zt_ne (show x1.toInt = _ from rfl) tI_91 c103_4; omega) | have fc103_4 : 91 < x1.toInt := (by have := zt_ne (show x1.toInt = _ from rfl) tI_91 c103_4; omega) | skip
                    refine lv_ldc2 (v := (28)) hx hb hown (hts _ k_7_123) d_Mo_readSimple_112 ?_
                    exact key4 (28 : Int64) _ _ _ ⟨trivial, hP, hD, hS, lv_sub hl [0, 1] rfl⟩
                  · have fc103_4 : x1.toInt = 91 := zt_eq (show x1.toInt = _ from rfl) tI_91 c103_4
                    refine lv_ldc2 (v := (27)) hx hb hown (hts _ k_7_122) d_Mo_readSimple_106 ?_
                    refine lv_goto (tgt := 115) hx hb d_Mo_readSimple_109 (by decide) ?_
                    exact key4 (27 : Int64) _ _ _ ⟨trivial, hP, hD, hS, lv_sub hl [0, 1] rfl⟩
              · first | have fc89_2 : x1.toInt < 93 := (by have := zt_ne (show x1.toInt = _ from rfl) tI_93 c89_2; omega) | have fc89_2 : 93 < x1.toInt := (by have := zt_ne (show x1.toInt = _ from rfl) tI_93 c89_2; omega) | skip
                refine lv_bipush (v := 15) hx hb d_Mo_readSimple_92 (by decide) ?_
                exact j_iret F hr hlocks hK hS S ⟨⟨i_size, i_taken, i_vals, i_room, i_dicts, i_deep, i_open, i_cells, i_points, i_part, i_length, i_knows, i_page, i_text, i_pats, i_fuel, i_fr, i_ink⟩, (kR_r S), (kF_r S), (show 0 ≤ (15 : Int32).toInt ∧ (15 : Int32).toInt ≤ 15 ∧ 0 ≤ (f_at S).toInt ∧ (f_at S).toInt ≤ (f_length S).toInt ∧ ((15 : Int32).toInt = 0 → (f_at S).toInt < (f_at S).toInt) by have := tI_15; omega)⟩ hP hD d_Mo_readSimple_94
          · first | have fc61_1 : rv7.toInt < 0 := (by have := zt_ne (show rv7.toInt = _ from rfl) tI_0 c61_1; omega) | have fc61_1 : 0 < rv7.toInt := (by have := zt_ne (show rv7.toInt = _ from rfl) tI_0 c61_1; omega) | skip
            refine lv_aload_n hx hb d_Mo_readSimple_64 rfl (lv_at hl 1 rfl) ?_
            refine lv_dup hx hb d_Mo_readSimple_65 rfl ?_
            refine va_get (D := D) (ci := 11) (v := .int (f_at S)) (C := "PageScribeModel") (T := F_Mo) (N := 45) hx hb hts i_Mo hown hK hP 0 mW_0 cl_11 25 (by decide) (hts _ k_6_185) (fun _ h9 => h9) (mg_at _ _) d_Mo_readSimple_66 ?_
            refine lv_iconst (v := 1) hx hb d_Mo_readSimple_69 (by decide) ?_
            refine lv_iadd hx hb d_Mo_readSimple_70 ?_
            refine j_eqi (y := x4) ex4.symm ?_
            refine va_put (D := D) (ci := 11) (v := .int x4) (ty := .int) (C := "PageScribeModel") (T := F_Mo) (N := 45) hx hb hts i_Mo t_Mo t_Mo_ok n_Mo hown hK hP hD hS 0 mW_0 cl_11 25 (by decide) (hts _ k_6_185) (fun _ h9 => h9) rfl (by decide +kernel) rfl rfl (Nat.le_of_ble_eq_true rfl) d_Mo_readSimple_71 (fun H locs hP hD hS => ?_)
            rw [mp_at] at hP hD
            have hP : va_P D classes (mW T h0 ar ((S.1, S.2.1, S.2.2.1, ((f_length S), x4, (f_pending S), (f_level S), (a_starts S), (a_known S), (f_knows S), (f_fuel S)), S.2.2.2.2.1, S.2.2.2.2.2) : MS)) H := hP
            have hD : va_D A (mW T h0 ar ((S.1, S.2.1, S.2.2.1, ((f_length S), x4, (f_pending S), (f_level S), (a_starts S), (a_known S), (f_knows S), (f_fuel S)), S.2.2.2.2.1, S.2.2.2.2.2) : MS)) := hD
            refine lv_aload_n hx hb d_Mo_readSimple_74 rfl (lv_at hl 1 rfl) ?_
            refine lv_iconst (v := 3) hx hb d_Mo_readSimple_75 (by decide) ?_
            refine jm_ci (w := (fun u => u)) hK hP hD hS hA (va_runV (As := [.int 3]) (rest := []) F (m_readWord l D T h0 ar ((S.1, S.2.1, S.2.2.1, ((f_length S), x4, (f_pending S), (f_level S), (a_starts S), (a_known S), (f_knows S), (f_fuel S)), S.2.2.2.2.1, S.2.2.2.2.2) : MS) (3 : Int32) H.size ⟨i_size, i_taken, i_vals, i_room, i_dicts, i_deep, i_open, i_cells, i_points, i_part, i_length, i_knows, i_page, i_text, i_pats, i_fuel, i_fr, i_ink⟩ (show 0 ≤ x4.toInt ∧ x4.toInt < (f_length S).toInt by have := tI_3; first | omega | (simp only [fx4]; omega)) (show 97 ≤ ((a_text S) x4.toInt.toNat).toInt ∧ ((a_text S) x4.toInt.toNat).toInt ≤ 122 by have := tI_3; first | omega | (simp only [fx4]; omega)) (show (3 : Int32).toInt = 3 ∨ (3 : Int32).toInt = 11 by have := tI_3; first | omega | (simp only [fx4]; omega))) (j_cV (k := 1) (C := "PageScribeModel") hts k_7_117 k_1_12 k_7_114 k_7_116 k_0_89 (by decide +kernel) ⟨Nat.le_of_ble_eq_true rfl, Nat.le_of_ble_eq_true rfl⟩) (jm_pre hK hP hD) rfl rfl hl.1 rfl (lv_room (Nat.le_of_ble_eq_true rfl)) d_Mo_readSimple_76 ⟨Nat.le_of_ble_eq_true rfl, Nat.le_of_ble_eq_true rfl⟩) (fun rv10 S6 H locs hw10 hP hD hS => ?_)
            have hP : va_P D classes (mW T h0 ar S6) H := hP
            have hD : va_D A (mW T h0 ar S6) := hD
            obtain ⟨⟨i_size, i_taken, i_vals, i_room, i_dicts, i_deep, i_open, i_cells, i_points, i_part, i_length, i_knows, i_page, i_text, i_pats, i_fuel, i_fr, i_ink⟩, kpR_S6, kpF_S6, qqhw10⟩ := hw10
            have kSF_S6 : kF S S6 := kF_t (show kF S ((S.1, S.2.1, S.2.2.1, ((f_length S), x4, (f_pending S), (f_level S), (a_starts S), (a_known S), (f_knows S), (f_fuel S)), S.2.2.2.2.1, S.2.2.2.2.2) : MS) from (kF_r S)) kpF_S6
            have kSR_S6 : kR S S6 := kR_t (show kR S ((S.1, S.2.1, S.2.2.1, ((f_length S), x4, (f_pending S), (f_level S), (a_starts S), (a_known S), (f_knows S), (f_fuel S)), S.2.2.2.2.1, S.2.2.2.2.2) : MS) from (kR_r S)) kpR_S6
            have kSC_S6 : kC S S6 := kC_t (show kC S ((S.1, S.2.1, S.2.2.1, ((f_length S), x4, (f_pending S), (f_level S), (a_starts S), (a_known S), (f_knows S), (f_fuel S)), S.2.2.2.2.1, S.2.2.2.2.2) : MS) from (kC_r S)) (kC_R kpR_S6)
            have nframes_S6 : (f_frames S6).toInt = (f_frames S).toInt := congrArg Int32.toInt kpF_S6.1
            have nunder_S6 : (f_under S6).toInt = (f_under S).toInt := congrArg Int32.toInt kpF_S6.2.1
            have nsteps_S6 : (f_steps S6).toInt = (f_steps S).toInt := congrArg Int32.toInt kpR_S6.2.2.2.2.2.2
            have nfuel_S6 : (f_fuel S6).toInt = (f_fuel S).toInt := congrArg Int32.toInt kpR_S6.2.2.2.2.2.1
            have nlevel_S6 : (f_level S6).toInt = (f_level S).toInt := congrArg Int32.toInt kpR_S6.2.2.1
            have npending_S6 : (f_pending S6).toInt = (f_pending S).toInt := congrArg Int32.toInt kpR_S6.2.2.2.1
            have nlength_S6 : (f_length S6).toInt = (f_length S).toInt := congrArg Int32.toInt kpR_S6.1
            have qhw10 : 0 ≤ rv10.toInt ∧ rv10.toInt ≤ 15 ∧ 0 ≤ (f_at S6).toInt ∧ (f_at S6).toInt ≤ (f_length S).toInt ∧ (rv10.toInt = 0 → ((f_at S).toInt + 1) < (f_at S6).toInt) := by simpa only [fx4, tI_3] using qqhw10
            exact j_iret F hr hlocks hK hS S6 ⟨⟨i_size, i_taken, i_vals, i_room, i_dicts, i_deep, i_open, i_cells, i_points, i_part, i_length, i_knows, i_page, i_text, i_pats, i_fuel, i_fr, i_ink⟩, kSR_S6, kSF_S6, (show 0 ≤ rv10.toInt ∧ rv10.toInt ≤ 15 ∧ 0 ≤ (f_at S6).toInt ∧ (f_at S6).toInt ≤ (f_length S).toInt ∧ (rv10.toInt = 0 → (f_at S).toInt < (f_at S6).toInt) by omega)⟩ hP hD d_Mo_readSimple_79
      · first | have fc32_1 : rv3.toInt < 0 := (by have := zt_ne (show rv3.toInt = _ from rfl) tI_0 c32_1; omega) | have fc32_1 : 0 < rv3.toInt := (by have := zt_ne (show rv3.toInt = _ from rfl) tI_0 c32_1; omega) | skip
        refine lv_aload_n hx hb d_Mo_readSimple_35 rfl (lv_at hl 1 rfl) ?_
        refine lv_bipush (v := 11) hx hb d_Mo_readSimple_36 (by decide) ?_
        refine jm_ci (w := (fun u => u)) hK hP hD hS hA (va_runV (As := [.int 11]) (rest := []) F (m_readWord l D T h0 ar S (11 : Int32) H.size ⟨i_size, i_taken, i_vals, i_room, i_dicts, i_deep, i_open, i_cells, i_points, i_part, i_length, i_knows, i_page, i_text, i_pats, i_fuel, i_fr, i_ink⟩ (show 0 ≤ (f_at S).toInt ∧ (f_at S).toInt < (f_length S).toInt by have := tI_11; omega) (show 97 ≤ ((a_text S) (f_at S).toInt.toNat).toInt ∧ ((a_text S) (f_at S).toInt.toNat).toInt ≤ 122 by have := tI_11; omega) (show (11 : Int32).toInt = 3 ∨ (11 : Int32).toInt = 11 by have := tI_11; omega)) (j_cV (k := 1) (C := "PageScribeModel") hts k_7_117 k_1_12 k_7_114 k_7_116 k_0_89 (by decide +kernel) ⟨Nat.le_of_ble_eq_true rfl, Nat.le_of_ble_eq_true rfl⟩) (jm_pre hK hP hD) rfl rfl hl.1 rfl (lv_room (Nat.le_of_ble_eq_true rfl)) d_Mo_readSimple_38 ⟨Nat.le_of_ble_eq_true rfl, Nat.le_of_ble_eq_true rfl⟩) (fun rv11 S7 H locs hw11 hP hD hS => ?_)
        have hP : va_P D classes (mW T h0 ar S7) H := hP
        have hD : va_D A (mW T h0 ar S7) := hD
        obtain ⟨⟨i_size, i_taken, i_vals, i_room, i_dicts, i_deep, i_open, i_cells, i_points, i_part, i_length, i_knows, i_page, i_text, i_pats, i_fuel, i_fr, i_ink⟩, kpR_S7, kpF_S7, qqhw11⟩ := hw11
        have kSF_S7 : kF S S7 := kF_t (show kF S S from (kF_r S)) kpF_S7
        have kSR_S7 : kR S S7 := kR_t (show kR S S from (kR_r S)) kpR_S7
        have kSC_S7 : kC S S7 := kC_t (show kC S S from (kC_r S)) (kC_R kpR_S7)
        have nframes_S7 : (f_frames S7).toInt = (f_frames S).toInt := congrArg Int32.toInt kpF_S7.1
        have nunder_S7 : (f_under S7).toInt = (f_under S).toInt := congrArg Int32.toInt kpF_S7.2.1
        have nsteps_S7 : (f_steps S7).toInt = (f_steps S).toInt := congrArg Int32.toInt kpR_S7.2.2.2.2.2.2
        have nfuel_S7 : (f_fuel S7).toInt = (f_fuel S).toInt := congrArg Int32.toInt kpR_S7.2.2.2.2.2.1
        have nlevel_S7 : (f_level S7).toInt = (f_level S).toInt := congrArg Int32.toInt kpR_S7.2.2.1
        have npending_S7 : (f_pending S7).toInt = (f_pending S).toInt := congrArg Int32.toInt kpR_S7.2.2.2.1
        have nlength_S7 : (f_length S7).toInt = (f_length S).toInt := congrArg Int32.toInt kpR_S7.1
        have qhw11 : 0 ≤ rv11.toInt ∧ rv11.toInt ≤ 15 ∧ 0 ≤ (f_at S7).toInt ∧ (f_at S7).toInt ≤ (f_length S).toInt ∧ (rv11.toInt = 0 → (f_at S).toInt < (f_at S7).toInt) := by simpa only [tI_11] using qqhw11
        exact j_iret F hr hlocks hK hS S7 ⟨⟨i_size, i_taken, i_vals, i_room, i_dicts, i_deep, i_open, i_cells, i_points, i_part, i_length, i_knows, i_page, i_text, i_pats, i_fuel, i_fr, i_ink⟩, kSR_S7, kSF_S7, (show 0 ≤ rv11.toInt ∧ rv11.toInt ≤ 15 ∧ 0 ≤ (f_at S7).toInt ∧ (f_at S7).toInt ≤ (f_length S).toInt ∧ (rv11.toInt = 0 → (f_at S).toInt < (f_at S7).toInt) by omega)⟩ hP hD d_Mo_readSimple_41
    · have fc20_1 : x1.toInt = 45 := zt_eq (show x1.toInt = _ from rfl) tI_45 c20_1
      refine lv_aload_n hx hb d_Mo_readSimple_23 rfl (lv_at hl 1 rfl) ?_
      refine jm_ci (w := (fun u => u)) hK hP hD hS hA (va_runV (As := []) (rest := []) F (m_readNumber l D T h0 ar S  H.size ⟨i_size, i_taken, i_vals, i_room, i_dicts, i_deep, i_open, i_cells, i_points, i_part, i_length, i_knows, i_page, i_text, i_pats, i_fuel, i_fr, i_ink⟩ (show 0 ≤ (f_at S).toInt ∧ (f_at S).toInt < (f_length S).toInt by omega)) (j_cV (k := 0) (C := "PageScribeModel") hts k_7_92 k_1_12 k_7_89 k_7_91 k_0_85 (by decide +kernel) ⟨Nat.le_of_ble_eq_true rfl, Nat.le_of_ble_eq_true rfl⟩) (jm_pre hK hP hD) rfl rfl hl.1 rfl (lv_room (Nat.le_of_ble_eq_true rfl)) d_Mo_readSimple_24 ⟨Nat.le_of_ble_eq_true rfl, Nat.le_of_ble_eq_true rfl⟩) (fun rv12 S8 H locs hw12 hP hD hS => ?_)
      have hP : va_P D classes (mW T h0 ar S8) H := hP
      have hD : va_D A (mW T h0 ar S8) := hD
      obtain ⟨⟨i_size, i_taken, i_vals, i_room, i_dicts, i_deep, i_open, i_cells, i_points, i_part, i_length, i_knows, i_page, i_text, i_pats, i_fuel, i_fr, i_ink⟩, kpR_S8, kpF_S8, qqhw12⟩ := hw12
      have kSF_S8 : kF S S8 := kF_t (show kF S S from (kF_r S)) kpF_S8
      have kSR_S8 : kR S S8 := kR_t (show kR S S from (kR_r S)) kpR_S8
      have kSC_S8 : kC S S8 := kC_t (show kC S S from (kC_r S)) (kC_R kpR_S8)
      have nframes_S8 : (f_frames S8).toInt = (f_frames S).toInt := congrArg Int32.toInt kpF_S8.1
      have nunder_S8 : (f_under S8).toInt = (f_under S).toInt := congrArg Int32.toInt kpF_S8.2.1
      have nsteps_S8 : (f_steps S8).toInt = (f_steps S).toInt := congrArg Int32.toInt kpR_S8.2.2.2.2.2.2
      have nfuel_S8 : (f_fuel S8).toInt = (f_fuel S).toInt := congrArg Int32.toInt kpR_S8.2.2.2.2.2.1
      have nlevel_S8 : (f_level S8).toInt = (f_level S).toInt := congrArg Int32.toInt kpR_S8.2.2.1
      have npending_S8 : (f_pending S8).toInt = (f_pending S).toInt := congrArg Int32.toInt kpR_S8.2.2.2.1
      have nlength_S8 : (f_length S8).toInt = (f_length S).toInt := congrArg Int32.toInt kpR_S8.1
      have qhw12 : 0 ≤ rv12.toInt ∧ rv12.toInt ≤ 15 ∧ 0 ≤ (f_at S8).toInt ∧ (f_at S8).toInt ≤ (f_length S).toInt ∧ (rv12.toInt = 0 → (f_at S).toInt < (f_at S8).toInt) := qqhw12
      exact j_iret F hr hlocks hK hS S8 ⟨⟨i_size, i_taken, i_vals, i_room, i_dicts, i_deep, i_open, i_cells, i_points, i_part, i_length, i_knows, i_page, i_text, i_pats, i_fuel, i_fr, i_ink⟩, kSR_S8, kSF_S8, (show 0 ≤ rv12.toInt ∧ rv12.toInt ≤ 15 ∧ 0 ≤ (f_at S8).toInt ∧ (f_at S8).toInt ≤ (f_length S).toInt ∧ (rv12.toInt = 0 → (f_at S).toInt < (f_at S8).toInt) by omega)⟩ hP hD d_Mo_readSimple_27
theorem d_Mo_close_0 : decode prog_15_method_26_code 0 = .ok (.aload_n 0, 1) := by decide +kernel
theorem d_Mo_close_1 : decode prog_15_method_26_code 1 = .ok (.dup, 1) := by decide +kernel
theorem d_Mo_close_2 : decode prog_15_method_26_code 2 = .ok (.getfield 281, 3) := by decide +kernel
theorem d_Mo_close_5 : decode prog_15_method_26_code 5 = .ok (.iconst 1, 1) := by decide +kernel
theorem d_Mo_close_6 : decode prog_15_method_26_code 6 = .ok (.iadd, 1) := by decide +kernel
theorem d_Mo_close_7 : decode prog_15_method_26_code 7 = .ok (.putfield 281, 3) := by decide +kernel
theorem d_Mo_close_10 : decode prog_15_method_26_code 10 = .ok (.aload_n 0, 1) := by decide +kernel
theorem k_6_187 : Cond.fieldLink "PageScribeModel" 330 "PageScribeModel" "level" "I" ∈ gw := gw_of (tb_6 (List.mem_of_getElem? (i := 187) (by decide +kernel))) (by decide +kernel)
theorem d_Mo_close_11 : decode prog_15_method_26_code 11 = .ok (.getfield 330, 3) := by decide +kernel
theorem d_Mo_close_14 : decode prog_15_method_26_code 14 = .ok (.ifCond .ne 6, 3) := by decide +kernel
theorem d_Mo_close_20 : decode prog_15_method_26_code 20 = .ok (.aload_n 0, 1) := by decide +kernel
theorem d_Mo_close_21 : decode prog_15_method_26_code 21 = .ok (.dup, 1) := by decide +kernel
theorem d_Mo_close_22 : decode prog_15_method_26_code 22 = .ok (.getfield 330, 3) := by decide +kernel
theorem d_Mo_close_25 : decode prog_15_method_26_code 25 = .ok (.iconst 1, 1) := by decide +kernel
theorem d_Mo_close_26 : decode prog_15_method_26_code 26 = .ok (.isub, 1) := by decide +kernel
theorem d_Mo_close_27 : decode prog_15_method_26_code 27 = .ok (.putfield 330, 3) := by decide +kernel
theorem d_Mo_close_30 : decode prog_15_method_26_code 30 = .ok (.aload_n 0, 1) := by decide +kernel
theorem k_6_188 : Cond.fieldLink "PageScribeModel" 65 "PageScribeModel" "starts" "[I" ∈ gw := gw_of (tb_6 (List.mem_of_getElem? (i := 188) (by decide +kernel))) (by decide +kernel)
theorem d_Mo_close_31 : decode prog_15_method_26_code 31 = .ok (.getfield 65, 3) := by decide +kernel
theorem d_Mo_close_34 : decode prog_15_method_26_code 34 = .ok (.aload_n 0, 1) := by decide +kernel
theorem d_Mo_close_35 : decode prog_15_method_26_code 35 = .ok (.getfield 330, 3) := by decide +kernel
theorem d_Mo_close_38 : decode prog_15_method_26_code 38 = .ok (.iaload, 1) := by decide +kernel
theorem d_Mo_close_39 : decode prog_15_method_26_code 39 = .ok (.istore_n 1, 1) := by decide +kernel
theorem d_Mo_close_40 : decode prog_15_method_26_code 40 = .ok (.aload_n 0, 1) := by decide +kernel
theorem d_Mo_close_41 : decode prog_15_method_26_code 41 = .ok (.sipush 1170, 3) := by decide +kernel
theorem d_Mo_close_44 : decode prog_15_method_26_code 44 = .ok (.iload_n 1, 1) := by decide +kernel
theorem d_Mo_close_45 : decode prog_15_method_26_code 45 = .ok (.iadd, 1) := by decide +kernel
theorem d_Mo_close_46 : decode prog_15_method_26_code 46 = .ok (.aload_n 0, 1) := by decide +kernel
theorem k_6_186 : Cond.fieldLink "PageScribeModel" 333 "PageScribeModel" "pending" "I" ∈ gw := gw_of (tb_6 (List.mem_of_getElem? (i := 186) (by decide +kernel))) (by decide +kernel)
theorem d_Mo_close_47 : decode prog_15_method_26_code 47 = .ok (.getfield 333, 3) := by decide +kernel
theorem d_Mo_close_50 : decode prog_15_method_26_code 50 = .ok (.iload_n 1, 1) := by decide +kernel
theorem d_Mo_close_51 : decode prog_15_method_26_code 51 = .ok (.isub, 1) := by decide +kernel
theorem d_Mo_close_52 : decode prog_15_method_26_code 52 = .ok (.bipush 13, 2) := by decide +kernel
theorem d_Mo_close_54 : decode prog_15_method_26_code 54 = .ok (.invokevirtual 336, 3) := by decide +kernel
theorem d_Mo_close_57 : decode prog_15_method_26_code 57 = .ok (.istore_n 2, 1) := by decide +kernel
theorem d_Mo_close_58 : decode prog_15_method_26_code 58 = .ok (.aload_n 0, 1) := by decide +kernel
theorem d_Mo_close_59 : decode prog_15_method_26_code 59 = .ok (.iload_n 1, 1) := by decide +kernel
theorem d_Mo_close_60 : decode prog_15_method_26_code 60 = .ok (.putfield 333, 3) := by decide +kernel
theorem d_Mo_close_63 : decode prog_15_method_26_code 63 = .ok (.iload_n 2, 1) := by decide +kernel
theorem d_Mo_close_64 : decode prog_15_method_26_code 64 = .ok (.ireturn, 1) := by decide +kernel
theorem d_Mo_close_17 : decode prog_15_method_26_code 17 = .ok (.bipush 15, 2) := by decide +kernel
theorem d_Mo_close_19 : decode prog_15_method_26_code 19 = .ok (.ireturn, 1) := by decide +kernel
set_option maxHeartbeats 4000000 in
set_option maxRecDepth 100000 in
theorem m_close (l : Launch) (D : va_G) (T : Nat → ClassId) (h0 : Nat) (ar : Nat → Nat) (S : MS)  (sz : Nat) (hI : MI S) (h1 : 0 ≤ (f_at S).toInt ∧ (f_at S).toInt < (f_length S).toInt ∧ 0 ≤ (f_level S).toInt ∧ (f_level S).toInt ≤ 4 ∧ 0 ≤ (f_pending S).toInt ∧ (f_pending S).toInt ≤ 120) (h2 : stI (a_starts S) (f_level S).toInt (f_pending S).toInt) : Met l ⟨"PageScribeModel", "close", "()I"⟩ (wy ⟨"PageScribeModel", "close", "()I"⟩ prog_15_method_26_code 3 (some .int)) ({ frames := 2, cells := 0, slots := 0, locals := 140 }) (va_Pc [.ref h0] (Pw D T (mW T h0 ar S) sz E0)) (va_Qi (fun (r : Int32) (u : MS) => MI u ∧ kC S u ∧ kF S u ∧ ((f_at u).toInt = (f_at S).toInt + 1 ∧ 0 ≤ r.toInt ∧ r.toInt ≤ 15 ∧ (r.toInt = 15 ∨ ((f_level u).toInt = (f_level S).toInt - 1 ∧ 0 ≤ (f_level u).toInt ∧ 0 ≤ (f_pending u).toInt ∧ (f_pending u).toInt ≤ (f_pending S).toInt ∧ stI (a_starts u) (f_level u).toInt (f_pending u).toInt)))) (fun u t => Bw D T (va_A (mW T h0 ar S) sz) (mW T h0 ar u) t) (va_A (mW T h0 ar S) sz)) 0 0 (va_A (mW T h0 ar S) sz) := by
  refine j_met (y := ⟨"PageScribeModel", "close", "()I"⟩) (b := prog_15_method_26_code) (n := 3) (ret := (some .int)) (av := [.ref h0]) (Qc := fun A => va_Qi (fun (r : Int32) (u : MS) => MI u ∧ kC S u ∧ kF S u ∧ ((f_at u).toInt = (f_at S).toInt + 1 ∧ 0 ≤ r.toInt ∧ r.toInt ≤ 15 ∧ (r.toInt = 15 ∨ ((f_level u).toInt = (f_level S).toInt - 1 ∧ 0 ≤ (f_level u).toInt ∧ 0 ≤ (f_pending u).toInt ∧ (f_pending u).toInt ≤ (f_pending S).toInt ∧ stI (a_starts u) (f_level u).toInt (f_pending u).toInt)))) (fun u t => Bw D T A (mW T h0 ar u) t) A) (by decide +kernel) (Nat.le_of_ble_eq_true rfl) (fun p e s m args below meth c A ls F hr hlocks hnm hK hP hD hS hA hN hE hl => ?_)
  obtain ⟨hx, hb, hml, hown, hts⟩ := id F
  have hl : lv_has ls 3 [(0, .ref h0)] := hl
  obtain ⟨i_size, i_taken, i_vals, i_room, i_dicts, i_deep, i_open, i_cells, i_points, i_part, i_length, i_knows, i_page, i_text, i_pats, i_fuel, i_fr, i_ink⟩ := id hI
  refine lv_aload_n hx hb d_Mo_close_0 rfl (lv_at hl 0 rfl) ?_
  refine lv_dup hx hb d_Mo_close_1 rfl ?_
  refine va_get (D := D) (ci := 11) (v := .int (f_at S)) (C := "PageScribeModel") (T := F_Mo) (N := 45) hx hb hts i_Mo hown hK hP 0 mW_0 cl_11 25 (by decide) (hts _ k_6_185) (fun _ h9 => h9) (mg_at _ _) d_Mo_close_2 ?_
  refine lv_iconst (v := 1) hx hb d_Mo_close_5 (by decide) ?_
  refine lv_iadd hx hb d_Mo_close_6 ?_
  refine lv_topi (fun x1 ex1 => ?_)
  have fx1 : x1.toInt = ((f_at S).toInt + 1) := by rw [ex1]; exact (zt_add (show (f_at S).toInt = _ from rfl) tI_1 (by omega) (by omega)).trans (by omega)
  refine va_put (D := D) (ci := 11) (v := .int x1) (ty := .int) (C := "PageScribeModel") (T := F_Mo) (N := 45) hx hb hts i_Mo t_Mo t_Mo_ok n_Mo hown hK hP hD hS 0 mW_0 cl_11 25 (by decide) (hts _ k_6_185) (fun _ h9 => h9) rfl (by decide +kernel) rfl rfl (Nat.le_of_ble_eq_true rfl) d_Mo_close_7 (fun H locs hP hD hS => ?_)
  rw [mp_at] at hP hD
  have hP : va_P D classes (mW T h0 ar ((S.1, S.2.1, S.2.2.1, ((f_length S), x1, (f_pending S), (f_level S), (a_starts S), (a_known S), (f_knows S), (f_fuel S)), S.2.2.2.2.1, S.2.2.2.2.2) : MS)) H := hP
  have hD : va_D A (mW T h0 ar ((S.1, S.2.1, S.2.2.1, ((f_length S), x1, (f_pending S), (f_level S), (a_starts S), (a_known S), (f_knows S), (f_fuel S)), S.2.2.2.2.1, S.2.2.2.2.2) : MS)) := hD
  refine lv_aload_n hx hb d_Mo_close_10 rfl (lv_at hl 0 rfl) ?_
  refine va_get (D := D) (ci := 11) (v := .int (f_level S)) (C := "PageScribeModel") (T := F_Mo) (N := 45) hx hb hts i_Mo hown hK hP 0 mW_0 cl_11 27 (by decide) (hts _ k_6_187) (fun _ h9 => h9) (mg_level _ _) d_Mo_close_11 ?_
  refine lv_if_ne (tgt := 20) hx hb d_Mo_close_14 (by decide) (fun c14_1 => ?_) (fun c14_1 => ?_)
  · first | have fc14_1 : (f_level S).toInt < 0 := (by have := zt_ne (show (f_level S).toInt = _ from rfl) tI_0 c14_1; omega) | have fc14_1 : 0 < (f_level S).toInt := (by have := zt_ne (show (f_level S).toInt = _ from rfl) tI_0 c14_1; omega) | skip
    refine lv_aload_n hx hb d_Mo_close_20 rfl (lv_at hl 0 rfl) ?_
    refine lv_dup hx hb d_Mo_close_21 rfl ?_
    refine va_get (D := D) (ci := 11) (v := .int (f_level S)) (C := "PageScribeModel") (T := F_Mo) (N := 45) hx hb hts i_Mo hown hK hP 0 mW_0 cl_11 27 (by decide) (hts _ k_6_187) (fun _ h9 => h9) (mg_level _ _) d_Mo_close_22 ?_
    refine lv_iconst (v := 1) hx hb d_Mo_close_25 (by decide) ?_
    refine lv_isub hx hb d_Mo_close_26 ?_
    refine lv_topi (fun x2 ex2 => ?_)
    have fx2 : x2.toInt = ((f_level S).toInt - 1) := by rw [ex2]; exact (zt_sub (show (f_level S).toInt = _ from rfl) tI_1 (by omega) (by omega)).trans (by omega)
    refine va_put (D := D) (ci := 11) (v := .int x2) (ty := .int) (C := "PageScribeModel") (T := F_Mo) (N := 45) hx hb hts i_Mo t_Mo t_Mo_ok n_Mo hown hK hP hD hS 0 mW_0 cl_11 27 (by decide) (hts _ k_6_187) (fun _ h9 => h9) rfl (by decide +kernel) rfl rfl (Nat.le_of_ble_eq_true rfl) d_Mo_close_27 (fun H locs hP hD hS => ?_)
    rw [mp_level] at hP hD
    have hP : va_P D classes (mW T h0 ar ((S.1, S.2.1, S.2.2.1, ((f_length S), x1, (f_pending S), x2, (a_starts S), (a_known S), (f_knows S), (f_fuel S)), S.2.2.2.2.1, S.2.2.2.2.2) : MS)) H := hP
    have hD : va_D A (mW T h0 ar ((S.1, S.2.1, S.2.2.1, ((f_length S), x1, (f_pending S), x2, (a_starts S), (a_known S), (f_knows S), (f_fuel S)), S.2.2.2.2.1, S.2.2.2.2.2) : MS)) := hD
    refine lv_aload_n hx hb d_Mo_close_30 rfl (lv_at hl 0 rfl) ?_
    refine va_get (D := D) (ci := 11) (v := .ref (ar 16)) (C := "PageScribeModel") (T := F_Mo) (N := 45) hx hb hts i_Mo hown hK hP 0 mW_0 cl_11 28 (by decide) (hts _ k_6_188) (fun _ h9 => h9) (mg_starts _ _) d_Mo_close_31 ?_
    refine lv_aload_n hx hb d_Mo_close_34 rfl (lv_at hl 0 rfl) ?_
    refine va_get (D := D) (ci := 11) (v := .int x2) (C := "PageScribeModel") (T := F_Mo) (N := 45) hx hb hts i_Mo hown hK hP 0 mW_0 cl_11 27 (by decide) (hts _ k_6_187) (fun _ h9 => h9) (mg_level _ _) d_Mo_close_35 ?_
    refine va_iald hx hb hK hP 17 0 (ma_starts _ _ _ _) rfl (zt_in fx2 (by omega) (by omega)) d_Mo_close_38 ?_
    refine lv_topi (fun x3 ex3 => ?_)
    have gx3 : x3 = (a_starts S) ((f_level S).toInt - 1).toNat := ex3.trans (congrArg _ (zt_ix fx2))
    have fx3 : x3.toInt = ((a_starts S) ((f_level S).toInt - 1).toNat).toInt := by rw [gx3]
    obtain ⟨hp1, hp2, hp3⟩ := st_pop h2 (lv2 := ((f_level S).toInt - 1)) (q := x3.toInt) (i := ((f_level S).toInt - 1).toNat) (by omega) (by omega) (by omega) fx3
    refine lv_istore_n (lv' := [(1, .int x3), (0, .ref h0)]) hx hb d_Mo_close_39 rfl hl (by decide) rfl (fun ls hl => ?_)
    refine lv_aload_n hx hb d_Mo_close_40 rfl (lv_at hl 1 rfl) ?_
    refine lv_sipush (v := 1170) hx hb d_Mo_close_41 (by decide) ?_
    refine lv_iload_n hx hb d_Mo_close_44 rfl (lv_at hl 0 rfl) ?_
    refine lv_iadd hx hb d_Mo_close_45 ?_
    refine lv_topi (fun x4 ex4 => ?_)
    have fx4 : x4.toInt = (x3.toInt + 1170) := by rw [ex4]; exact (zt_add tI_1170 (show x3.toInt = _ from rfl) (by omega) (by omega)).trans (by omega)
    refine lv_aload_n hx hb d_Mo_close_46 rfl (lv_at hl 1 rfl) ?_
    refine va_get (D := D) (ci := 11) (v := .int (f_pending S)) (C := "PageScribeModel") (T := F_Mo) (N := 45) hx hb hts i_Mo hown hK hP 0 mW_0 cl_11 26 (by decide) (hts _ k_6_186) (fun _ h9 => h9) (mg_pending _ _) d_Mo_close_47 ?_
    refine lv_iload_n hx hb d_Mo_close_50 rfl (lv_at hl 0 rfl) ?_
    refine lv_isub hx hb d_Mo_close_51 ?_
    refine lv_topi (fun x5 ex5 => ?_)
    have fx5 : x5.toInt = ((f_pending S).toInt - x3.toInt) := by rw [ex5]; exact (zt_sub (show (f_pending S).toInt = _ from rfl) (show x3.toInt = _ from rfl) (by omega) (by omega)).trans (by omega)
    refine lv_bipush (v := 13) hx hb d_Mo_close_52 (by decide) ?_
    refine jm_ci (w := (fun u => u)) hK hP hD hS hA (va_runV (As := [.int x4, .int x5, .int 13]) (rest := []) F (m_newArray l D T h0 ar ((S.1, S.2.1, S.2.2.1, ((f_length S), x1, (f_pending S), x2, (a_starts S), (a_known S), (f_knows S), (f_fuel S)), S.2.2.2.2.1, S.2.2.2.2.2) : MS) x4 x5 (13 : Int32) H.size ⟨i_size, i_taken, i_vals, i_room, i_dicts, i_deep, i_open, i_cells, i_points, i_part, i_length, i_knows, i_page, i_text, i_pats, i_fuel, i_fr, i_ink⟩ (show 0 ≤ x4.toInt ∧ 0 ≤ x5.toInt ∧ x4.toInt + x5.toInt ≤ 1300 by have := tI_13; first | omega | (simp only [fx4, fx5, fx1, fx2]; omega)) (Or.inr tI_13)) (j_cV (k := 3) (C := "PageScribeModel") hts k_7_72 k_1_12 k_7_69 k_7_71 k_0_81 (by decide +kernel) ⟨Nat.le_of_ble_eq_true rfl, Nat.le_of_ble_eq_true rfl⟩) (jm_pre hK hP hD) rfl rfl hl.1 rfl (lv_room (Nat.le_of_ble_eq_true rfl)) d_Mo_close_54 ⟨Nat.le_of_ble_eq_true rfl, Nat.le_of_ble_eq_true rfl⟩) (fun rv1 S1 H locs hw1 hP hD hS => ?_)
    have hP : va_P D classes (mW T h0 ar S1) H := hP
    have hD : va_D A (mW T h0 ar S1) := hD
    obtain ⟨⟨i_size, i_taken, i_vals, i_room, i_dicts, i_deep, i_open, i_cells, i_points, i_part, i_length, i_knows, i_page, i_text, i_pats, i_fuel, i_fr, i_ink⟩, kpA_S1, kpF_S1, qqhw1⟩ := hw1
    have kSF_S1 : kF S S1 := kF_t (show kF S ((S.1, S.2.1, S.2.2.1, ((f_length S), x1, (f_pending S), x2, (a_starts S), (a_known S), (f_knows S), (f_fuel S)), S.2.2.2.2.1, S.2.2.2.2.2) : MS) from (kF_r S)) kpF_S1
    have kSC_S1 : kC S S1 := kC_t (show kC S ((S.1, S.2.1, S.2.2.1, ((f_length S), x1, (f_pending S), x2, (a_starts S), (a_known S), (f_knows S), (f_fuel S)), S.2.2.2.2.1, S.2.2.2.2.2) : MS) from (kC_r S)) (kC_A kpA_S1)
    have nframes_S1 : (f_frames S1).toInt = (f_frames S).toInt := congrArg Int32.toInt kpF_S1.1
    have nunder_S1 : (f_under S1).toInt = (f_under S).toInt := congrArg Int32.toInt kpF_S1.2.1
    have nsteps_S1 : (f_steps S1).toInt = (f_steps S).toInt := congrArg Int32.toInt kpA_S1.2.2.2.2.1
    have nfuel_S1 : (f_fuel S1).toInt = (f_fuel S).toInt := congrArg Int32.toInt kpA_S1.2.2.2.1
    have nlevel_S1 : (f_level S1).toInt = x2.toInt := congrArg Int32.toInt kpA_S1.2.2.2.2.2.2.1
    have npending_S1 : (f_pending S1).toInt = (f_pending S).toInt := congrArg Int32.toInt kpA_S1.2.2.2.2.2.1
    have nlength_S1 : (f_length S1).toInt = (f_length S).toInt := congrArg Int32.toInt kpA_S1.1
    have nat_S1 : (f_at S1).toInt = x1.toInt := congrArg Int32.toInt kpA_S1.2.1
    have qhw1 : rv1.toInt = 0 ∨ rv1.toInt = 7 := by simpa only [fx1, fx2, fx4, fx5, tI_13] using qqhw1
    have el : (f_level S1).toInt = (f_level S).toInt - 1 := by omega
    have ea : a_starts S1 = a_starts S := kpA_S1.2.2.2.2.2.2.2
    refine lv_istore_n (lv' := [(2, .int rv1), (1, .int x3), (0, .ref h0)]) hx hb d_Mo_close_57 rfl hl (by decide) rfl (fun ls hl => ?_)
    refine lv_aload_n hx hb d_Mo_close_58 rfl (lv_at hl 2 rfl) ?_
    refine lv_iload_n hx hb d_Mo_close_59 rfl (lv_at hl 1 rfl) ?_
    refine va_put (D := D) (ci := 11) (v := .int x3) (ty := .int) (C := "PageScribeModel") (T := F_Mo) (N := 45) hx hb hts i_Mo t_Mo t_Mo_ok n_Mo hown hK hP hD hS 0 mW_0 cl_11 26 (by decide) (hts _ k_6_186) (fun _ h9 => h9) rfl (by decide +kernel) rfl rfl (Nat.le_of_ble_eq_true rfl) d_Mo_close_60 (fun H locs hP hD hS => ?_)
    rw [mp_pending] at hP hD
    have hP : va_P D classes (mW T h0 ar ((S1.1, S1.2.1, S1.2.2.1, ((f_length S1), (f_at S1), x3, (f_level S1), (a_starts S1), (a_known S1), (f_knows S1), (f_fuel S1)), S1.2.2.2.2.1, S1.2.2.2.2.2) : MS)) H := hP
    have hD : va_D A (mW T h0 ar ((S1.1, S1.2.1, S1.2.2.1, ((f_length S1), (f_at S1), x3, (f_level S1), (a_starts S1), (a_known S1), (f_knows S1), (f_fuel S1)), S1.2.2.2.2.1, S1.2.2.2.2.2) : MS)) := hD
    refine lv_iload_n hx hb d_Mo_close_63 rfl (lv_at hl 0 rfl) ?_
    exact j_iret F hr hlocks hK hS ((S1.1, S1.2.1, S1.2.2.1, ((f_length S1), (f_at S1), x3, (f_level S1), (a_starts S1), (a_known S1), (f_knows S1), (f_fuel S1)), S1.2.2.2.2.1, S1.2.2.2.2.2) : MS) ⟨⟨i_size, i_taken, i_vals, i_room, i_dicts, i_deep, i_open, i_cells, i_points, i_part, i_length, i_knows, i_page, i_text, i_pats, i_fuel, i_fr, i_ink⟩, kSC_S1, kSF_S1, (show (f_at S1).toInt = (f_at S).toInt + 1 ∧ 0 ≤ rv1.toInt ∧ rv1.toInt ≤ 15 ∧ (rv1.toInt = 15 ∨ ((f_level S1).toInt = (f_level S).toInt - 1 ∧ 0 ≤ (f_level S1).toInt ∧ 0 ≤ x3.toInt ∧ x3.toInt ≤ (f_pending S).toInt ∧ stI (a_starts S1) (f_level S1).toInt x3.toInt)) by refine ⟨by omega, by omega, by omega, Or.inr ⟨by omega, by omega, by omega, by omega, ?_⟩⟩; rw [ea, el]; exact hp1)⟩ hP hD d_Mo_close_64
  · have fc14_1 : (f_level S).toInt = 0 := zt_eq (show (f_level S).toInt = _ from rfl) tI_0 c14_1
    refine lv_bipush (v := 15) hx hb d_Mo_close_17 (by decide) ?_
    exact j_iret F hr hlocks hK hS ((S.1, S.2.1, S.2.2.1, ((f_length S), x1, (f_pending S), (f_level S), (a_starts S), (a_known S), (f_knows S), (f_fuel S)), S.2.2.2.2.1, S.2.2.2.2.2) : MS) ⟨⟨i_size, i_taken, i_vals, i_room, i_dicts, i_deep, i_open, i_cells, i_points, i_part, i_length, i_knows, i_page, i_text, i_pats, i_fuel, i_fr, i_ink⟩, (kC_r S), (kF_r S), (show x1.toInt = (f_at S).toInt + 1 ∧ 0 ≤ (15 : Int32).toInt ∧ (15 : Int32).toInt ≤ 15 ∧ ((15 : Int32).toInt = 15 ∨ ((f_level S).toInt = (f_level S).toInt - 1 ∧ 0 ≤ (f_level S).toInt ∧ 0 ≤ (f_pending S).toInt ∧ (f_pending S).toInt ≤ (f_pending S).toInt ∧ stI (a_starts S) (f_level S).toInt (f_pending S).toInt)) by have := tI_15; exact ⟨by omega, by omega, by omega, Or.inl (by omega)⟩)⟩ hP hD d_Mo_close_19
