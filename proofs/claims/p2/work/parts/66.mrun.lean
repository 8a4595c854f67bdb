theorem d_Mo_work_0 : decode prog_15_method_37_code 0 = .ok (.aload_n 0, 1) := by decide +kernel
theorem d_Mo_work_1 : decode prog_15_method_37_code 1 = .ok (.invokevirtual 397, 3) := by decide +kernel
theorem d_Mo_work_4 : decode prog_15_method_37_code 4 = .ok (.istore_n 1, 1) := by decide +kernel
theorem d_Mo_work_5 : decode prog_15_method_37_code 5 = .ok (.iconst 0, 1) := by decide +kernel
theorem d_Mo_work_6 : decode prog_15_method_37_code 6 = .ok (.istore_n 2, 1) := by decide +kernel
theorem d_Mo_work_7 : decode prog_15_method_37_code 7 = .ok (.iload_n 2, 1) := by decide +kernel
theorem d_Mo_work_8 : decode prog_15_method_37_code 8 = .ok (.ldc_w 405, 3) := by decide +kernel
theorem k_8_108 : Cond.constant "PageScribeModel" 405 (100000 : Int32) ∈ gw := gw_of (tb_8 (List.mem_of_getElem? (i := 108) (by decide +kernel))) (by decide +kernel)
theorem d_Mo_work_11 : decode prog_15_method_37_code 11 = .ok (.if_icmp .ge 33, 3) := by decide +kernel
theorem tI_100000 : (100000 : Int32).toInt = 100000 := by decide +kernel
theorem d_Mo_work_14 : decode prog_15_method_37_code 14 = .ok (.aload_n 0, 1) := by decide +kernel
theorem d_Mo_work_15 : decode prog_15_method_37_code 15 = .ok (.iload_n 1, 1) := by decide +kernel
theorem d_Mo_work_16 : decode prog_15_method_37_code 16 = .ok (.invokevirtual 406, 3) := by decide +kernel
theorem k_8_112 : Cond.code ⟨"PageScribeModel", "caught", "(I)I"⟩ prog_15_method_36_code 3 (some .int) ∈ gw := gw_of (tb_8 (List.mem_of_getElem? (i := 112) (by decide +kernel))) (by decide +kernel)
theorem k_8_109 : Cond.methodLink "PageScribeModel" 406 ⟨"PageScribeModel", "caught", "(I)I"⟩ ∈ gw := gw_of (tb_8 (List.mem_of_getElem? (i := 109) (by decide +kernel))) (by decide +kernel)
theorem k_8_111 : Cond.instanceMethod ⟨"PageScribeModel", "caught", "(I)I"⟩ ∈ gw := gw_of (tb_8 (List.mem_of_getElem? (i := 111) (by decide +kernel))) (by decide +kernel)
theorem k_0_141 : Cond.selects "PageScribeModel" ⟨"PageScribeModel", "caught", "(I)I"⟩ ⟨"PageScribeModel", "caught", "(I)I"⟩ ∈ gw := gw_of (tb_0 (List.mem_of_getElem? (i := 141) (by decide +kernel))) (by decide +kernel)
theorem d_Mo_work_19 : decode prog_15_method_37_code 19 = .ok (.istore_n 1, 1) := by decide +kernel
theorem d_Mo_work_20 : decode prog_15_method_37_code 20 = .ok (.iload_n 1, 1) := by decide +kernel
theorem d_Mo_work_21 : decode prog_15_method_37_code 21 = .ok (.ifCond .ne 10, 3) := by decide +kernel
theorem d_Mo_work_31 : decode prog_15_method_37_code 31 = .ok (.iload_n 1, 1) := by decide +kernel
theorem d_Mo_work_32 : decode prog_15_method_37_code 32 = .ok (.ireturn, 1) := by decide +kernel
theorem d_Mo_work_24 : decode prog_15_method_37_code 24 = .ok (.aload_n 0, 1) := by decide +kernel
theorem d_Mo_work_25 : decode prog_15_method_37_code 25 = .ok (.getfield 346, 3) := by decide +kernel
theorem d_Mo_work_28 : decode prog_15_method_37_code 28 = .ok (.ifCond .ne 5, 3) := by decide +kernel
theorem d_Mo_work_33 : decode prog_15_method_37_code 33 = .ok (.aload_n 0, 1) := by decide +kernel
theorem d_Mo_work_34 : decode prog_15_method_37_code 34 = .ok (.invokevirtual 409, 3) := by decide +kernel
theorem k_8_116 : Cond.code ⟨"PageScribeModel", "advance", "()I"⟩ prog_15_method_35_code 6 (some .int) ∈ gw := gw_of (tb_8 (List.mem_of_getElem? (i := 116) (by decide +kernel))) (by decide +kernel)
theorem k_8_113 : Cond.methodLink "PageScribeModel" 409 ⟨"PageScribeModel", "advance", "()I"⟩ ∈ gw := gw_of (tb_8 (List.mem_of_getElem? (i := 113) (by decide +kernel))) (by decide +kernel)
theorem k_8_115 : Cond.instanceMethod ⟨"PageScribeModel", "advance", "()I"⟩ ∈ gw := gw_of (tb_8 (List.mem_of_getElem? (i := 115) (by decide +kernel))) (by decide +kernel)
theorem k_0_142 : Cond.selects "PageScribeModel" ⟨"PageScribeModel", "advance", "()I"⟩ ⟨"PageScribeModel", "advance", "()I"⟩ ∈ gw := gw_of (tb_0 (List.mem_of_getElem? (i := 142) (by decide +kernel))) (by decide +kernel)
theorem d_Mo_work_37 : decode prog_15_method_37_code 37 = .ok (.istore_n 1, 1) := by decide +kernel
theorem d_Mo_work_38 : decode prog_15_method_37_code 38 = .ok (.iinc 2 1, 3) := by decide +kernel
theorem d_Mo_work_41 : decode prog_15_method_37_code 41 = .ok (.goto (-34), 3) := by decide +kernel
set_option maxHeartbeats 4000000 in
set_option maxRecDepth 100000 in
theorem m_work (l : Launch) (D : va_G) (T : Nat → ClassId) (h0 : Nat) (ar : Nat → Nat) (S : MS)  (sz : Nat) (hI : MI S) (h1 : (f_frames S).toInt = 0) : Met l ⟨"PageScribeModel", "work", "()I"⟩ (wy ⟨"PageScribeModel", "work", "()I"⟩ prog_15_method_37_code 3 (some .int)) ({ frames := 7, cells := 0, slots := 0, locals := 490 }) (va_Pc [.ref h0] (Pw D T (mW T h0 ar S) sz E0)) (va_Qi (fun (r : Int32) (u : MS) => MI u ∧ kT S u ∧ (-1 ≤ r.toInt ∧ r.toInt ≤ 16 ∧ (f_frames u).toInt = 0)) (fun u t => Bw D T (va_A (mW T h0 ar S) sz) (mW T h0 ar u) t) (va_A (mW T h0 ar S) sz)) 0 0 (va_A (mW T h0 ar S) sz) := by
  refine j_met (y := ⟨"PageScribeModel", "work", "()I"⟩) (b := prog_15_method_37_code) (n := 3) (ret := (some .int)) (av := [.ref h0]) (Qc := fun A => va_Qi (fun (r : Int32) (u : MS) => MI u ∧ kT S u ∧ (-1 ≤ r.toInt ∧ r.toInt ≤ 16 ∧ (f_frames u).toInt = 0)) (fun u t => Bw D T A (mW T h0 ar u) t) A) (by decide +kernel) (Nat.le_of_ble_eq_true rfl) (fun p e s m args below meth c A ls F hr hlocks hnm hK hP hD hS hA hN hE hl => ?_)
  obtain ⟨hx, hb, hml, hown, hts⟩ := id F
  have hl : lv_has ls 3 [(0, .ref h0)] := hl
  obtain ⟨i_size, i_taken, i_vals, i_room, i_dicts, i_deep, i_open, i_cells, i_points, i_part, i_length, i_knows, i_page, i_text, i_pats, i_fuel, i_fr, i_ink⟩ := id hI
  have hff : freeT S := by unfold freeT; omega
  refine lv_aload_n hx hb d_Mo_work_0 rfl (lv_at hl 0 rfl) ?_
  refine jm_ci (w := (fun u => u)) hK hP hD hS hA (va_runV (As := []) (rest := []) F (m_doValue l D T h0 ar S  s.heap.size ⟨i_size, i_taken, i_vals, i_room, i_dicts, i_deep, i_open, i_cells, i_points, i_part, i_length, i_knows, i_page, i_text, i_pats, i_fuel, i_fr, i_ink⟩ (show ((a_kinds S) 40).toInt = 11 → ((f_frames S).toInt = 0 ∨ ((a_what S) ((f_frames S).toInt - 1).toNat).toInt ≤ 2) by omega)) (j_cV (k := 0) (C := "PageScribeModel") hts k_7_131 k_1_12 k_7_128 k_7_130 k_0_92 (by decide +kernel) ⟨Nat.le_of_ble_eq_true rfl, Nat.le_of_ble_eq_true rfl⟩) (jm_pre hK hP hD) rfl rfl hl.1 rfl (lv_room (Nat.le_of_ble_eq_true rfl)) d_Mo_work_1 ⟨Nat.le_of_ble_eq_true rfl, Nat.le_of_ble_eq_true rfl⟩) (fun rv1 S1 H locs hw1 hP hD hS => ?_)
  have hP : va_P D classes (mW T h0 ar S1) H := hP
  have hD : va_D A (mW T h0 ar S1) := hD
  obtain ⟨⟨i_size, i_taken, i_vals, i_room, i_dicts, i_deep, i_open, i_cells, i_points, i_part, i_length, i_knows, i_page, i_text, i_pats, i_fuel, i_fr, i_ink⟩, kpT_S1, qqhw1⟩ := hw1
  have kST_S1 : kT S S1 := kT_t (show kT S S from (kT_r S)) kpT_S1
  have nfuel_S1 : (f_fuel S1).toInt = (f_fuel S).toInt := congrArg Int32.toInt kpT_S1.2.2.2.2.2.2
  have nlevel_S1 : (f_level S1).toInt = (f_level S).toInt := congrArg Int32.toInt kpT_S1.2.2.2.2.1
  have npending_S1 : (f_pending S1).toInt = (f_pending S).toInt := congrArg Int32.toInt kpT_S1.2.2.2.1
  have nlength_S1 : (f_length S1).toInt = (f_length S).toInt := congrArg Int32.toInt kpT_S1.1
  have nat_S1 : (f_at S1).toInt = (f_at S).toInt := congrArg Int32.toInt kpT_S1.2.1
  have qhw1 : -1 ≤ rv1.toInt ∧ rv1.toInt ≤ 16 ∧ (rv1.toInt = 16 ∨ (f_frames S1).toInt + 3 * (f_fuel S1).toInt - 3 * (f_steps S1).toInt + 1 ≤ (f_frames S).toInt + 3 * (f_fuel S).toInt - 3 * (f_steps S).toInt) := qqhw1
  refine lv_istore_n (lv' := [(1, .int rv1), (0, .ref h0)]) hx hb d_Mo_work_4 rfl hl (by decide) rfl (fun ls hl => ?_)
  refine lv_iconst (v := 0) hx hb d_Mo_work_5 (by decide) ?_
  refine lv_istore_n (lv' := [(2, .int 0), (1, .int rv1), (0, .ref h0)]) hx hb d_Mo_work_6 rfl hl (by decide) rfl (fun ls hl => ?_)
  refine j_loop (α := MS × Int32 × Int32) (fun k x H locs ls => (0 ≤ x.2.2.toInt ∧ x.2.2.toInt ≤ 2001 ∧ 2002 ≤ x.2.2.toInt + ((k : Nat) : Int) ∧ -1 ≤ x.2.1.toInt ∧ x.2.1.toInt ≤ 16 ∧ (x.2.1.toInt = 16 ∨ (f_frames x.1).toInt + 3 * (f_fuel x.1).toInt - 3 * (f_steps x.1).toInt + x.2.2.toInt ≤ 2000)) ∧ MI x.1 ∧ kT S x.1 ∧ va_P D classes (mW T h0 ar x.1) H ∧ va_D A (mW T h0 ar x.1) ∧ va_S A s.heap H locs ∧ lv_has ls 3 [(2, .int x.2.2), (1, .int x.2.1), (0, .ref h0)]) (fun _ _ ls => F0 m 7 ls []) (fun k x H locs ls hI9 ih => ?_) 2002 (S1, rv1, (0 : Int32)) _ _ _ ⟨(show 0 ≤ (0 : Int32).toInt ∧ (0 : Int32).toInt ≤ 2001 ∧ 2002 ≤ (0 : Int32).toInt + ((2002 : Nat) : Int) ∧ -1 ≤ rv1.toInt ∧ rv1.toInt ≤ 16 ∧ (rv1.toInt = 16 ∨ (f_frames S1).toInt + 3 * (f_fuel S1).toInt - 3 * (f_steps S1).toInt + (0 : Int32).toInt ≤ 2000) by have := tI_0; omega), ⟨i_size, i_taken, i_vals, i_room, i_dicts, i_deep, i_open, i_cells, i_points, i_part, i_length, i_knows, i_page, i_text, i_pats, i_fuel, i_fr, i_ink⟩, (show kT S S1 from kST_S1), hP, hD, hS, lv_sub hl [0, 1, 2] rfl⟩
  obtain ⟨S2, f, i⟩ := x
  obtain ⟨hf1, hIx, klT_S2, hP, hD, hS, hl⟩ := hI9
  obtain ⟨i_size, i_taken, i_vals, i_room, i_dicts, i_deep, i_open, i_cells, i_points, i_part, i_length, i_knows, i_page, i_text, i_pats, i_fuel, i_fr, i_ink⟩ := (show MI S2 from hIx)
  have klT_S2 : kT S S2 := klT_S2
  have hf1 : 0 ≤ i.toInt ∧ i.toInt ≤ 2001 ∧ 2002 ≤ i.toInt + ((k : Nat) : Int) ∧ -1 ≤ f.toInt ∧ f.toInt ≤ 16 ∧ (f.toInt = 16 ∨ (f_frames S2).toInt + 3 * (f_fuel S2).toInt - 3 * (f_steps S2).toInt + i.toInt ≤ 2000) := hf1
  have hP : va_P D classes (mW T h0 ar S2) H := hP
  have hD : va_D A (mW T h0 ar S2) := hD
  have hl : lv_has ls 3 [(2, .int i), (1, .int f), (0, .ref h0)] := hl
  refine lv_iload_n hx hb d_Mo_work_7 rfl (lv_at hl 0 rfl) ?_
  refine lv_ldcw (v := 100000) hx hb hown (hts _ k_8_108) d_Mo_work_8 ?_
  refine lv_icmp_ge (tgt := 44) hx hb d_Mo_work_11 (by decide) (fun c11_1 => ?_) (fun c11_1 => ?_)
  · have fc11_1 : 100000 ≤ i.toInt := zt_le tI_100000 (show i.toInt = _ from rfl) c11_1
    exfalso; omega
  · have fc11_1 : i.toInt < 100000 := Int.not_le.mp (zt_nle tI_100000 (show i.toInt = _ from rfl) c11_1)
    refine lv_aload_n hx hb d_Mo_work_14 rfl (lv_at hl 2 rfl) ?_
    refine lv_iload_n hx hb d_Mo_work_15 rfl (lv_at hl 1 rfl) ?_
    refine jm_ci (w := (fun u => u)) hK hP hD hS hA (va_runV (As := [.int f]) (rest := []) F (m_caught l D T h0 ar S2 f H.size ⟨i_size, i_taken, i_vals, i_room, i_dicts, i_deep, i_open, i_cells, i_points, i_part, i_length, i_knows, i_page, i_text, i_pats, i_fuel, i_fr, i_ink⟩ (show -1 ≤ f.toInt ∧ f.toInt ≤ 16 by omega)) (j_cV (k := 1) (C := "PageScribeModel") hts k_8_112 k_1_12 k_8_109 k_8_111 k_0_141 (by decide +kernel) ⟨Nat.le_of_ble_eq_true rfl, Nat.le_of_ble_eq_true rfl⟩) (jm_pre hK hP hD) rfl rfl hl.1 rfl (lv_room (Nat.le_of_ble_eq_true rfl)) d_Mo_work_16 ⟨Nat.le_of_ble_eq_true rfl, Nat.le_of_ble_eq_true rfl⟩) (fun rv2 S3 H locs hw2 hP hD hS => ?_)
    have hP : va_P D classes (mW T h0 ar S3) H := hP
    have hD : va_D A (mW T h0 ar S3) := hD
    obtain ⟨⟨i_size, i_taken, i_vals, i_room, i_dicts, i_deep, i_open, i_cells, i_points, i_part, i_length, i_knows, i_page, i_text, i_pats, i_fuel, i_fr, i_ink⟩, kpA_S3, qqhw2⟩ := hw2
    have kST_S3 : kT S S3 := kT_t (show kT S S2 from klT_S2) (kT_A kpA_S3)
    have nsteps_S3 : (f_steps S3).toInt = (f_steps S2).toInt := congrArg Int32.toInt kpA_S3.2.2.2.2.1
    have nfuel_S3 : (f_fuel S3).toInt = (f_fuel S2).toInt := congrArg Int32.toInt kpA_S3.2.2.2.1
    have nlevel_S3 : (f_level S3).toInt = (f_level S2).toInt := congrArg Int32.toInt kpA_S3.2.2.2.2.2.2.1
    have npending_S3 : (f_pending S3).toInt = (f_pending S2).toInt := congrArg Int32.toInt kpA_S3.2.2.2.2.2.1
    have nlength_S3 : (f_length S3).toInt = (f_length S2).toInt := congrArg Int32.toInt kpA_S3.1
    have nat_S3 : (f_at S3).toInt = (f_at S2).toInt := congrArg Int32.toInt kpA_S3.2.1
    have qhw2 : (rv2.toInt = 0 ∨ (f_frames S3).toInt = 0) ∧ -1 ≤ rv2.toInt ∧ rv2.toInt ≤ 16 ∧ (f_frames S3).toInt ≤ (f_frames S2).toInt ∧ (f.toInt = 16 → (f_frames S3).toInt = 0) ∧ (f.toInt = 0 → rv2.toInt = 0) := qqhw2
    refine lv_istore_n (lv' := [(1, .int rv2), (2, .int i), (0, .ref h0)]) hx hb d_Mo_work_19 rfl hl (by decide) rfl (fun ls hl => ?_)
    refine lv_iload_n hx hb d_Mo_work_20 rfl (lv_at hl 0 rfl) ?_
    refine lv_if_ne (tgt := 31) hx hb d_Mo_work_21 (by decide) (fun c21_1 => ?_) (fun c21_1 => ?_)
    · have fc21_1 : ¬ rv2.toInt = 0 := zt_ne (show rv2.toInt = _ from rfl) tI_0 c21_1
      refine lv_iload_n hx hb d_Mo_work_31 rfl (lv_at hl 0 rfl) ?_
      exact j_iret F hr hlocks hK hS S3 ⟨⟨i_size, i_taken, i_vals, i_room, i_dicts, i_deep, i_open, i_cells, i_points, i_part, i_length, i_knows, i_page, i_text, i_pats, i_fuel, i_fr, i_ink⟩, kST_S3, (show -1 ≤ rv2.toInt ∧ rv2.toInt ≤ 16 ∧ (f_frames S3).toInt = 0 by omega)⟩ hP hD d_Mo_work_32
    · have fc21_1 : rv2.toInt = 0 := zt_eq (show rv2.toInt = _ from rfl) tI_0 c21_1
      refine lv_aload_n hx hb d_Mo_work_24 rfl (lv_at hl 2 rfl) ?_
      refine va_get (D := D) (ci := 11) (v := .int (f_frames S3)) (C := "PageScribeModel") (T := F_Mo) (N := 45) hx hb hts i_Mo hown hK hP 0 mW_0 cl_11 15 (by decide) (hts _ k_6_175) (fun _ h9 => h9) (mg_frames _ _) d_Mo_work_25 ?_
      refine lv_if_ne (tgt := 33) hx hb d_Mo_work_28 (by decide) (fun c28_1 => ?_) (fun c28_1 => ?_)
      · have fc28_1 : ¬ (f_frames S3).toInt = 0 := zt_ne (show (f_frames S3).toInt = _ from rfl) tI_0 c28_1
        refine lv_aload_n hx hb d_Mo_work_33 rfl (lv_at hl 2 rfl) ?_
        refine jm_ci (w := (fun u => u)) hK hP hD hS hA (va_runV (As := []) (rest := []) F (m_advance l D T h0 ar S3  H.size ⟨i_size, i_taken, i_vals, i_room, i_dicts, i_deep, i_open, i_cells, i_points, i_part, i_length, i_knows, i_page, i_text, i_pats, i_fuel, i_fr, i_ink⟩ (show 0 < (f_frames S3).toInt by omega)) (j_cV (k := 0) (C := "PageScribeModel") hts k_8_116 k_1_12 k_8_113 k_8_115 k_0_142 (by decide +kernel) ⟨Nat.le_of_ble_eq_true rfl, Nat.le_of_ble_eq_true rfl⟩) (jm_pre hK hP hD) rfl rfl hl.1 rfl (lv_room (Nat.le_of_ble_eq_true rfl)) d_Mo_work_34 ⟨Nat.le_of_ble_eq_true rfl, Nat.le_of_ble_eq_true rfl⟩) (fun rv3 S4 H locs hw3 hP hD hS => ?_)
        have hP : va_P D classes (mW T h0 ar S4) H := hP
        have hD : va_D A (mW T h0 ar S4) := hD
        obtain ⟨⟨i_size, i_taken, i_vals, i_room, i_dicts, i_deep, i_open, i_cells, i_points, i_part, i_length, i_knows, i_page, i_text, i_pats, i_fuel, i_fr, i_ink⟩, kpT_S4, qqhw3⟩ := hw3
        have kST_S4 : kT S S4 := kT_t (show kT S S3 from kST_S3) kpT_S4
        have nfuel_S4 : (f_fuel S4).toInt = (f_fuel S3).toInt := congrArg Int32.toInt kpT_S4.2.2.2.2.2.2
        have nlevel_S4 : (f_level S4).toInt = (f_level S3).toInt := congrArg Int32.toInt kpT_S4.2.2.2.2.1
        have npending_S4 : (f_pending S4).toInt = (f_pending S3).toInt := congrArg Int32.toInt kpT_S4.2.2.2.1
        have nlength_S4 : (f_length S4).toInt = (f_length S3).toInt := congrArg Int32.toInt kpT_S4.1
        have nat_S4 : (f_at S4).toInt = (f_at S3).toInt := congrArg Int32.toInt kpT_S4.2.1
        have qhw3 : -1 ≤ rv3.toInt ∧ rv3.toInt ≤ 16 ∧ (rv3.toInt = 16 ∨ (f_frames S4).toInt + 3 * (f_fuel S4).toInt - 3 * (f_steps S4).toInt + 1 ≤ (f_frames S3).toInt + 3 * (f_fuel S3).toInt - 3 * (f_steps S3).toInt) := qqhw3
        refine lv_istore_n (lv' := [(1, .int rv3), (2, .int i), (0, .ref h0)]) hx hb d_Mo_work_37 rfl hl (by decide) rfl (fun ls hl => ?_)
        refine lv_iinc (v := (i + 1)) (lv' := [(2, .int (i + 1)), (1, .int rv3), (0, .ref h0)]) hx hb d_Mo_work_38 hl (k := 1) rfl (by first | rfl | decide) (by decide) rfl (fun ls hl => ?_)
        obtain ⟨x1, ex1⟩ : ∃ z, z = (i + 1) := ⟨_, rfl⟩
        rw [← ex1] at hl
        have fx1 : x1.toInt = (i.toInt + 1) := by rw [ex1]; exact (zt_add (show i.toInt = _ from rfl) tI_1 (by omega) (by omega)).trans (by omega)
        have hl : lv_has ls 3 [(2, .int x1), (1, .int rv3), (0, .ref h0)] := hl
        refine lv_goto (tgt := 7) hx hb d_Mo_work_41 (by decide) ?_
        exact ih (k - 1) (S4, rv3, x1) _ _ _ (by omega) ⟨(show 0 ≤ x1.toInt ∧ x1.toInt ≤ 2001 ∧ 2002 ≤ x1.toInt + (((k - 1) : Nat) : Int) ∧ -1 ≤ rv3.toInt ∧ rv3.toInt ≤ 16 ∧ (rv3.toInt = 16 ∨ (f_frames S4).toInt + 3 * (f_fuel S4).toInt - 3 * (f_steps S4).toInt + x1.toInt ≤ 2000) by omega), ⟨i_size, i_taken, i_vals, i_room, i_dicts, i_deep, i_open, i_cells, i_points, i_part, i_length, i_knows, i_page, i_text, i_pats, i_fuel, i_fr, i_ink⟩, (show kT S S4 from kST_S4), hP, hD, hS, lv_sub hl [0, 1, 2] rfl⟩
      · have fc28_1 : (f_frames S3).toInt = 0 := zt_eq (show (f_frames S3).toInt = _ from rfl) tI_0 c28_1
        refine lv_iload_n hx hb d_Mo_work_31 rfl (lv_at hl 0 rfl) ?_
        exact j_iret F hr hlocks hK hS S3 ⟨⟨i_size, i_taken, i_vals, i_room, i_dicts, i_deep, i_open, i_cells, i_points, i_part, i_length, i_knows, i_page, i_text, i_pats, i_fuel, i_fr, i_ink⟩, kST_S3, (show -1 ≤ rv2.toInt ∧ rv2.toInt ≤ 16 ∧ (f_frames S3).toInt = 0 by omega)⟩ hP hD d_Mo_work_32
theorem d_Mo_run_0 : decode prog_15_method_38_code 0 = .ok (.aload_n 0, 1) := by decide +kernel
theorem k_6_160 : Cond.fieldLink "PageScribeModel" 242 "PageScribeModel" "thrown" "I" ∈ gw := gw_of (tb_6 (List.mem_of_getElem? (i := 160) (by decide +kernel))) (by decide +kernel)
theorem d_Mo_run_18 : decode prog_15_method_38_code 18 = .ok (.putfield 242, 3) := by decide +kernel
theorem d_Mo_run_21 : decode prog_15_method_38_code 21 = .ok (.aload_n 0, 1) := by decide +kernel
theorem d_Mo_run_22 : decode prog_15_method_38_code 22 = .ok (.getfield 242, 3) := by decide +kernel
theorem d_Mo_run_25 : decode prog_15_method_38_code 25 = .ok (.ifCond .le 5, 3) := by decide +kernel
theorem d_Mo_run_30 : decode prog_15_method_38_code 30 = .ok (.aload_n 0, 1) := by decide +kernel
theorem d_Mo_run_31 : decode prog_15_method_38_code 31 = .ok (.iload_n 1, 1) := by decide +kernel
theorem d_Mo_run_32 : decode prog_15_method_38_code 32 = .ok (.putfield 359, 3) := by decide +kernel
theorem d_Mo_run_35 : decode prog_15_method_38_code 35 = .ok (.aload_n 0, 1) := by decide +kernel
theorem d_Mo_run_36 : decode prog_15_method_38_code 36 = .ok (.iconst 0, 1) := by decide +kernel
theorem d_Mo_run_37 : decode prog_15_method_38_code 37 = .ok (.putfield 356, 3) := by decide +kernel
theorem d_Mo_run_40 : decode prog_15_method_38_code 40 = .ok (.aload_n 0, 1) := by decide +kernel
theorem d_Mo_run_41 : decode prog_15_method_38_code 41 = .ok (.iconst 0, 1) := by decide +kernel
theorem d_Mo_run_42 : decode prog_15_method_38_code 42 = .ok (.putfield 281, 3) := by decide +kernel
theorem d_Mo_run_45 : decode prog_15_method_38_code 45 = .ok (.iconst 0, 1) := by decide +kernel
theorem d_Mo_run_46 : decode prog_15_method_38_code 46 = .ok (.istore_n 2, 1) := by decide +kernel
theorem d_Mo_run_47 : decode prog_15_method_38_code 47 = .ok (.iconst 0, 1) := by decide +kernel
theorem d_Mo_run_48 : decode prog_15_method_38_code 48 = .ok (.istore_n 3, 1) := by decide +kernel
theorem d_Mo_run_49 : decode prog_15_method_38_code 49 = .ok (.iload_n 3, 1) := by decide +kernel
theorem d_Mo_run_50 : decode prog_15_method_38_code 50 = .ok (.sipush 130, 3) := by decide +kernel
theorem d_Mo_run_53 : decode prog_15_method_38_code 53 = .ok (.if_icmp .ge 40, 3) := by decide +kernel
theorem tI_130 : (130 : Int32).toInt = 130 := by decide +kernel
theorem d_Mo_run_93 : decode prog_15_method_38_code 93 = .ok (.aload_n 0, 1) := by decide +kernel
theorem d_Mo_run_94 : decode prog_15_method_38_code 94 = .ok (.iconst 0, 1) := by decide +kernel
theorem d_Mo_run_95 : decode prog_15_method_38_code 95 = .ok (.putfield 270, 3) := by decide +kernel
theorem d_Mo_run_108 : decode prog_15_method_38_code 108 = .ok (.ireturn, 1) := by decide +kernel
theorem d_Mo_run_98 : decode prog_15_method_38_code 98 = .ok (.iload_n 2, 1) := by decide +kernel
theorem d_Mo_run_99 : decode prog_15_method_38_code 99 = .ok (.iconst (-1), 1) := by decide +kernel
theorem d_Mo_run_100 : decode prog_15_method_38_code 100 = .ok (.if_icmp .ne 7, 3) := by decide +kernel
theorem d_Mo_run_107 : decode prog_15_method_38_code 107 = .ok (.iload_n 2, 1) := by decide +kernel
theorem d_Mo_run_103 : decode prog_15_method_38_code 103 = .ok (.iconst 0, 1) := by decide +kernel
theorem d_Mo_run_104 : decode prog_15_method_38_code 104 = .ok (.goto 4, 3) := by decide +kernel
theorem d_Mo_run_56 : decode prog_15_method_38_code 56 = .ok (.iload_n 2, 1) := by decide +kernel
theorem d_Mo_run_57 : decode prog_15_method_38_code 57 = .ok (.ifCond .ne 36, 3) := by decide +kernel
theorem d_Mo_run_60 : decode prog_15_method_38_code 60 = .ok (.aload_n 0, 1) := by decide +kernel
theorem d_Mo_run_61 : decode prog_15_method_38_code 61 = .ok (.invokevirtual 412, 3) := by decide +kernel
theorem k_7_64 : Cond.code ⟨"PageScribeModel", "token", "()I"⟩ prog_15_method_27_code 3 (some .int) ∈ gw := gw_of (tb_7 (List.mem_of_getElem? (i := 64) (by decide +kernel))) (by decide +kernel)
theorem k_7_61 : Cond.methodLink "PageScribeModel" 412 ⟨"PageScribeModel", "token", "()I"⟩ ∈ gw := gw_of (tb_7 (List.mem_of_getElem? (i := 61) (by decide +kernel))) (by decide +kernel)
theorem k_7_63 : Cond.instanceMethod ⟨"PageScribeModel", "token", "()I"⟩ ∈ gw := gw_of (tb_7 (List.mem_of_getElem? (i := 63) (by decide +kernel))) (by decide +kernel)
theorem k_0_79 : Cond.selects "PageScribeModel" ⟨"PageScribeModel", "token", "()I"⟩ ⟨"PageScribeModel", "token", "()I"⟩ ∈ gw := gw_of (tb_0 (List.mem_of_getElem? (i := 79) (by decide +kernel))) (by decide +kernel)
theorem d_Mo_run_64 : decode prog_15_method_38_code 64 = .ok (.istore_n 2, 1) := by decide +kernel
theorem d_Mo_run_65 : decode prog_15_method_38_code 65 = .ok (.iload_n 2, 1) := by decide +kernel
theorem d_Mo_run_66 : decode prog_15_method_38_code 66 = .ok (.ifCond .ne 11, 3) := by decide +kernel
theorem d_Mo_run_77 : decode prog_15_method_38_code 77 = .ok (.iload_n 2, 1) := by decide +kernel
theorem d_Mo_run_78 : decode prog_15_method_38_code 78 = .ok (.iconst (-1), 1) := by decide +kernel
theorem d_Mo_run_79 : decode prog_15_method_38_code 79 = .ok (.if_icmp .eq 8, 3) := by decide +kernel
theorem d_Mo_run_87 : decode prog_15_method_38_code 87 = .ok (.iinc 3 1, 3) := by decide +kernel
theorem d_Mo_run_90 : decode prog_15_method_38_code 90 = .ok (.goto (-41), 3) := by decide +kernel
theorem d_Mo_run_82 : decode prog_15_method_38_code 82 = .ok (.aload_n 0, 1) := by decide +kernel
theorem d_Mo_run_83 : decode prog_15_method_38_code 83 = .ok (.iload_n 2, 1) := by decide +kernel
theorem d_Mo_run_84 : decode prog_15_method_38_code 84 = .ok (.putfield 402, 3) := by decide +kernel
theorem d_Mo_run_69 : decode prog_15_method_38_code 69 = .ok (.aload_n 0, 1) := by decide +kernel
theorem d_Mo_run_70 : decode prog_15_method_38_code 70 = .ok (.invokevirtual 415, 3) := by decide +kernel
theorem k_7_127 : Cond.code ⟨"PageScribeModel", "work", "()I"⟩ prog_15_method_37_code 3 (some .int) ∈ gw := gw_of (tb_7 (List.mem_of_getElem? (i := 127) (by decide +kernel))) (by decide +kernel)
theorem k_7_124 : Cond.methodLink "PageScribeModel" 415 ⟨"PageScribeModel", "work", "()I"⟩ ∈ gw := gw_of (tb_7 (List.mem_of_getElem? (i := 124) (by decide +kernel))) (by decide +kernel)
theorem k_7_126 : Cond.instanceMethod ⟨"PageScribeModel", "work", "()I"⟩ ∈ gw := gw_of (tb_7 (List.mem_of_getElem? (i := 126) (by decide +kernel))) (by decide +kernel)
theorem k_0_91 : Cond.selects "PageScribeModel" ⟨"PageScribeModel", "work", "()I"⟩ ⟨"PageScribeModel", "work", "()I"⟩ ∈ gw := gw_of (tb_0 (List.mem_of_getElem? (i := 91) (by decide +kernel))) (by decide +kernel)
theorem d_Mo_run_73 : decode prog_15_method_38_code 73 = .ok (.istore_n 2, 1) := by decide +kernel
theorem d_Mo_run_74 : decode prog_15_method_38_code 74 = .ok (.goto 13, 3) := by decide +kernel
theorem d_Mo_run_28 : decode prog_15_method_38_code 28 = .ok (.iconst 0, 1) := by decide +kernel
theorem d_Mo_run_29 : decode prog_15_method_38_code 29 = .ok (.ireturn, 1) := by decide +kernel
theorem d_Mo_run_1 : decode prog_15_method_38_code 1 = .ok (.iload_n 1, 1) := by decide +kernel
theorem d_Mo_run_2 : decode prog_15_method_38_code 2 = .ok (.iconst 1, 1) := by decide +kernel
theorem d_Mo_run_3 : decode prog_15_method_38_code 3 = .ok (.if_icmp .lt 10, 3) := by decide +kernel
theorem d_Mo_run_13 : decode prog_15_method_38_code 13 = .ok (.iconst 1, 1) := by decide +kernel
theorem d_Mo_run_14 : decode prog_15_method_38_code 14 = .ok (.goto 4, 3) := by decide +kernel
theorem d_Mo_run_6 : decode prog_15_method_38_code 6 = .ok (.iload_n 1, 1) := by decide +kernel
theorem d_Mo_run_7 : decode prog_15_method_38_code 7 = .ok (.sipush 500, 3) := by decide +kernel
theorem d_Mo_run_10 : decode prog_15_method_38_code 10 = .ok (.if_icmp .le 7, 3) := by decide +kernel
theorem tI_500 : (500 : Int32).toInt = 500 := by decide +kernel
theorem d_Mo_run_17 : decode prog_15_method_38_code 17 = .ok (.iconst 0, 1) := by decide +kernel
set_option maxHeartbeats 4000000 in
set_option maxRecDepth 100000 in
theorem m_run (l : Launch) (D : va_G) (T : Nat → ClassId) (h0 : Nat) (ar : Nat → Nat) (S : MS) (p0 : Int32) (sz : Nat) (hI : MI S) (h1 : (f_frames S).toInt = 0) : Met l ⟨"PageScribeModel", "run", "(I)I"⟩ (wy ⟨"PageScribeModel", "run", "(I)I"⟩ prog_15_method_38_code 4 (some .int)) ({ frames := 8, cells := 0, slots := 0, locals := 560 }) (va_Pc [.ref h0, .int p0] (Pw D T (mW T h0 ar S) sz E0)) (va_Qi (fun (r : Int32) (u : MS) => MI u ∧ ((f_frames u).toInt = 0 ∧ ((1 ≤ p0.toInt ∧ p0.toInt ≤ 500) → (f_length u).toInt = 0) ∧ ((p0.toInt < 1 ∨ 500 < p0.toInt) → (f_length u).toInt = (f_length S).toInt))) (fun u t => Bw D T (va_A (mW T h0 ar S) sz) (mW T h0 ar u) t) (va_A (mW T h0 ar S) sz)) 0 0 (va_A (mW T h0 ar S) sz) := by
  refine j_met (y := ⟨"PageScribeModel", "run", "(I)I"⟩) (b := prog_15_method_38_code) (n := 4) (ret := (some .int)) (av := [.ref h0, .int p0]) (Qc := fun A => va_Qi (fun (r : Int32) (u : MS) => MI u ∧ ((f_frames u).toInt = 0 ∧ ((1 ≤ p0.toInt ∧ p0.toInt ≤ 500) → (f_length u).toInt = 0) ∧ ((p0.toInt < 1 ∨ 500 < p0.toInt) → (f_length u).toInt = (f_length S).toInt))) (fun u t => Bw D T A (mW T h0 ar u) t) A) (by decide +kernel) (Nat.le_of_ble_eq_true rfl) (fun p e s m args below meth c A ls F hr hlocks hnm hK hP hD hS hA hN hE hl => ?_)
  obtain ⟨hx, hb, hml, hown, hts⟩ := id F
  have hl : lv_has ls 4 [(0, .ref h0), (1, .int p0)] := hl
  obtain ⟨i_size, i_taken, i_vals, i_room, i_dicts, i_deep, i_open, i_cells, i_points, i_part, i_length, i_knows, i_page, i_text, i_pats, i_fuel, i_fr, i_ink⟩ := id hI
  refine lv_aload_n hx hb d_Mo_run_0 rfl (lv_at hl 0 rfl) ?_
  refine j_joinH (α := Int32) (fun x H locs ls => ((x.toInt = 1 ∧ (p0.toInt < 1 ∨ 500 < p0.toInt)) ∨ (x.toInt = 0 ∧ 1 ≤ p0.toInt ∧ p0.toInt ≤ 500)) ∧ va_P D classes (mW T h0 ar S) H ∧ va_D A (mW T h0 ar S) ∧ va_S A s.heap H locs ∧ lv_has ls 4 [(0, .ref h0), (1, .int p0)]) (fun x ls => F0 m 18 ls (.int x :: [.ref h0])) (fun x H locs ls hI9 => ?_) (fun key1 => ?_)
  · obtain ⟨j1, rfl⟩ : ∃ z, z = x := ⟨_, rfl⟩
    obtain ⟨hj1, hP, hD, hS, hl⟩ := hI9
    have hj1 : (j1.toInt = 1 ∧ (p0.toInt < 1 ∨ 500 < p0.toInt)) ∨ (j1.toInt = 0 ∧ 1 ≤ p0.toInt ∧ p0.toInt ≤ 500) := hj1
    have hP : va_P D classes (mW T h0 ar S) H := hP
    have hD : va_D A (mW T h0 ar S) := hD
    have hl : lv_has ls 4 [(0, .ref h0), (1, .int p0)] := hl
    refine va_put (D := D) (ci := 11) (v := .int j1) (ty := .int) (C := "PageScribeModel") (T := F_Mo) (N := 45) hx hb hts i_Mo t_Mo t_Mo_ok n_Mo hown hK hP hD hS 0 mW_0 cl_11 0 (by decide) (hts _ k_6_160) (fun _ h9 => h9) rfl (by decide +kernel) rfl rfl (Nat.le_of_ble_eq_true rfl) d_Mo_run_18 (fun H locs hP hD hS => ?_)
    rw [mp_thrown] at hP hD
    have hP : va_P D classes (mW T h0 ar (((j1, (a_kinds S), (a_codes S), (a_reals S), (f_size S), (f_taken S), (a_words S), (a_many S)), S.2.1, S.2.2.1, S.2.2.2.1, S.2.2.2.2.1, S.2.2.2.2.2) : MS)) H := hP
    have hD : va_D A (mW T h0 ar (((j1, (a_kinds S), (a_codes S), (a_reals S), (f_size S), (f_taken S), (a_words S), (a_many S)), S.2.1, S.2.2.1, S.2.2.2.1, S.2.2.2.2.1, S.2.2.2.2.2) : MS)) := hD
    refine lv_aload_n hx hb d_Mo_run_21 rfl (lv_at hl 0 rfl) ?_
    refine va_get (D := D) (ci := 11) (v := .int j1) (C := "PageScribeModel") (T := F_Mo) (N := 45) hx hb hts i_Mo hown hK hP 0 mW_0 cl_11 0 (by decide) (hts _ k_6_160) (fun _ h9 => h9) (mg_thrown _ _) d_Mo_run_22 ?_
    refine lv_if_le (tgt := 30) hx hb d_Mo_run_25 (by decide) (fun c25_1 => ?_) (fun c25_1 => ?_)
    · have fc25_1 : j1.toInt ≤ 0 := zt_le (show j1.toInt = _ from rfl) tI_0 c25_1
      refine lv_aload_n hx hb d_Mo_run_30 rfl (lv_at hl 0 rfl) ?_
      refine lv_iload_n hx hb d_Mo_run_31 rfl (lv_at hl 1 rfl) ?_
      refine va_put (D := D) (ci := 11) (v := .int p0) (ty := .int) (C := "PageScribeModel") (T := F_Mo) (N := 45) hx hb hts i_Mo t_Mo t_Mo_ok n_Mo hown hK hP hD hS 0 mW_0 cl_11 31 (by decide) (hts _ k_6_191) (fun _ h9 => h9) rfl (by decide +kernel) rfl rfl (Nat.le_of_ble_eq_true rfl) d_Mo_run_32 (fun H locs hP hD hS => ?_)
      rw [mp_fuel] at hP hD
      have hP : va_P D classes (mW T h0 ar (((j1, (a_kinds S), (a_codes S), (a_reals S), (f_size S), (f_taken S), (a_words S), (a_many S)), S.2.1, S.2.2.1, ((f_length S), (f_at S), (f_pending S), (f_level S), (a_starts S), (a_known S), (f_knows S), p0), S.2.2.2.2.1, S.2.2.2.2.2) : MS)) H := hP
      have hD : va_D A (mW T h0 ar (((j1, (a_kinds S), (a_codes S), (a_reals S), (f_size S), (f_taken S), (a_words S), (a_many S)), S.2.1, S.2.2.1, ((f_length S), (f_at S), (f_pending S), (f_level S), (a_starts S), (a_known S), (f_knows S), p0), S.2.2.2.2.1, S.2.2.2.2.2) : MS)) := hD
      refine lv_aload_n hx hb d_Mo_run_35 rfl (lv_at hl 0 rfl) ?_
      refine lv_iconst (v := 0) hx hb d_Mo_run_36 (by decide) ?_
      refine va_put (D := D) (ci := 11) (v := .int 0) (ty := .int) (C := "PageScribeModel") (T := F_Mo) (N := 45) hx hb hts i_Mo t_Mo t_Mo_ok n_Mo hown hK hP hD hS 0 mW_0 cl_11 32 (by decide) (hts _ k_6_192) (fun _ h9 => h9) rfl (by decide +kernel) rfl rfl (Nat.le_of_ble_eq_true rfl) d_Mo_run_37 (fun H locs hP hD hS => ?_)
      rw [mp_steps] at hP hD
      have hP : va_P D classes (mW T h0 ar (((j1, (a_kinds S), (a_codes S), (a_reals S), (f_size S), (f_taken S), (a_words S), (a_many S)), S.2.1, S.2.2.1, ((f_length S), (f_at S), (f_pending S), (f_level S), (a_starts S), (a_known S), (f_knows S), p0), (0, (f_failure S), (f_columns S), (f_rows S), (a_pixels S), (f_gray S), (a_across S), (a_along S)), S.2.2.2.2.2) : MS)) H := hP
      have hD : va_D A (mW T h0 ar (((j1, (a_kinds S), (a_codes S), (a_reals S), (f_size S), (f_taken S), (a_words S), (a_many S)), S.2.1, S.2.2.1, ((f_length S), (f_at S), (f_pending S), (f_level S), (a_starts S), (a_known S), (f_knows S), p0), (0, (f_failure S), (f_columns S), (f_rows S), (a_pixels S), (f_gray S), (a_across S), (a_along S)), S.2.2.2.2.2) : MS)) := hD
      refine lv_aload_n hx hb d_Mo_run_40 rfl (lv_at hl 0 rfl) ?_
      refine lv_iconst (v := 0) hx hb d_Mo_run_41 (by decide) ?_
      refine va_put (D := D) (ci := 11) (v := .int 0) (ty := .int) (C := "PageScribeModel") (T := F_Mo) (N := 45) hx hb hts i_Mo t_Mo t_Mo_ok n_Mo hown hK hP hD hS 0 mW_0 cl_11 25 (by decide) (hts _ k_6_185) (fun _ h9 => h9) rfl (by decide +kernel) rfl rfl (Nat.le_of_ble_eq_true rfl) d_Mo_run_42 (fun H locs hP hD hS => ?_)
      rw [mp_at] at hP hD
      have hP : va_P D classes (mW T h0 ar (((j1, (a_kinds S), (a_codes S), (a_reals S), (f_size S), (f_taken S), (a_words S), (a_many S)), S.2.1, S.2.2.1, ((f_length S), 0, (f_pending S), (f_level S), (a_starts S), (a_known S), (f_knows S), p0), (0, (f_failure S), (f_columns S), (f_rows S), (a_pixels S), (f_gray S), (a_across S), (a_along S)), S.2.2.2.2.2) : MS)) H := hP
      have hD : va_D A (mW T h0 ar (((j1, (a_kinds S), (a_codes S), (a_reals S), (f_size S), (f_taken S), (a_words S), (a_many S)), S.2.1, S.2.2.1, ((f_length S), 0, (f_pending S), (f_level S), (a_starts S), (a_known S), (f_knows S), p0), (0, (f_failure S), (f_columns S), (f_rows S), (a_pixels S), (f_gray S), (a_across S), (a_along S)), S.2.2.2.2.2) : MS)) := hD
      refine lv_iconst (v := 0) hx hb d_Mo_run_45 (by decide) ?_
      refine lv_istore_n (lv' := [(2, .int 0), (0, .ref h0), (1, .int p0)]) hx hb d_Mo_run_46 rfl hl (by decide) rfl (fun ls hl => ?_)
      refine lv_iconst (v := 0) hx hb d_Mo_run_47 (by decide) ?_
      refine lv_istore_n (lv' := [(3, .int 0), (2, .int 0), (0, .ref h0), (1, .int p0)]) hx hb d_Mo_run_48 rfl hl (by decide) rfl (fun ls hl => ?_)
      refine j_loop (α := MS × Int32 × Int32) (fun k x H locs ls => (0 ≤ x.2.2.toInt ∧ x.2.2.toInt ≤ 130 ∧ 130 ≤ x.2.2.toInt + ((k : Nat) : Int) ∧ -1 ≤ x.2.1.toInt ∧ x.2.1.toInt ≤ 16 ∧ (f_frames x.1).toInt = 0 ∧ 0 ≤ (f_at x.1).toInt ∧ (f_at x.1).toInt ≤ (f_length x.1).toInt) ∧ MI x.1 ∧ va_P D classes (mW T h0 ar x.1) H ∧ va_D A (mW T h0 ar x.1) ∧ va_S A s.heap H locs ∧ lv_has ls 4 [(3, .int x.2.2), (2, .int x.2.1), (0, .ref h0), (1, .int p0)]) (fun _ _ ls => F0 m 49 ls []) (fun k x H locs ls hI9 ih => ?_) 130 ((((j1, (a_kinds S), (a_codes S), (a_reals S), (f_size S), (f_taken S), (a_words S), (a_many S)), S.2.1, S.2.2.1, ((f_length S), 0, (f_pending S), (f_level S), (a_starts S), (a_known S), (f_knows S), p0), (0, (f_failure S), (f_columns S), (f_rows S), (a_pixels S), (f_gray S), (a_across S), (a_along S)), S.2.2.2.2.2) : MS), (0 : Int32), (0 : Int32)) _ _ _ ⟨(show 0 ≤ (0 : Int32).toInt ∧ (0 : Int32).toInt ≤ 130 ∧ 130 ≤ (0 : Int32).toInt + ((130 : Nat) : Int) ∧ -1 ≤ (0 : Int32).toInt ∧ (0 : Int32).toInt ≤ 16 ∧ (f_frames S).toInt = 0 ∧ 0 ≤ (0 : Int32).toInt ∧ (0 : Int32).toInt ≤ (f_length S).toInt by have := tI_0; have := tI_0; have := tI_0; have := tI_0; omega), ⟨i_size, i_taken, i_vals, i_room, i_dicts, i_deep, i_open, i_cells, i_points, i_part, i_length, i_knows, i_page, i_text, i_pats, (show 0 ≤ (0 : Int32).toInt ∧ (0 : Int32).toInt ≤ p0.toInt ∧ p0.toInt ≤ 500 by have := tI_0; have := tI_0; omega), i_fr, i_ink⟩, hP, hD, hS, lv_sub hl [0, 1, 2, 3] rfl⟩
      obtain ⟨S1, f, i⟩ := x
      obtain ⟨hf1, hIx, hP, hD, hS, hl⟩ := hI9
      obtain ⟨i_size, i_taken, i_vals, i_room, i_dicts, i_deep, i_open, i_cells, i_points, i_part, i_length, i_knows, i_page, i_text, i_pats, i_fuel, i_fr, i_ink⟩ := (show MI S1 from hIx)
      have hf1 : 0 ≤ i.toInt ∧ i.toInt ≤ 130 ∧ 130 ≤ i.toInt + ((k : Nat) : Int) ∧ -1 ≤ f.toInt ∧ f.toInt ≤ 16 ∧ (f_frames S1).toInt = 0 ∧ 0 ≤ (f_at S1).toInt ∧ (f_at S1).toInt ≤ (f_length S1).toInt := hf1
      have hP : va_P D classes (mW T h0 ar S1) H := hP
      have hD : va_D A (mW T h0 ar S1) := hD
      have hl : lv_has ls 4 [(3, .int i), (2, .int f), (0, .ref h0), (1, .int p0)] := hl
      refine lv_iload_n hx hb d_Mo_run_49 rfl (lv_at hl 0 rfl) ?_
      refine lv_sipush (v := 130) hx hb d_Mo_run_50 (by decide) ?_
      refine lv_icmp_ge (tgt := 93) hx hb d_Mo_run_53 (by decide) (fun c53_1 => ?_) (fun c53_1 => ?_)
      · have fc53_1 : 130 ≤ i.toInt := zt_le tI_130 (show i.toInt = _ from rfl) c53_1
        refine lv_aload_n hx hb d_Mo_run_93 rfl (lv_at hl 2 rfl) ?_
        refine lv_iconst (v := 0) hx hb d_Mo_run_94 (by decide) ?_
        refine va_put (D := D) (ci := 11) (v := .int 0) (ty := .int) (C := "PageScribeModel") (T := F_Mo) (N := 45) hx hb hts i_Mo t_Mo t_Mo_ok n_Mo hown hK hP hD hS 0 mW_0 cl_11 24 (by decide) (hts _ k_6_184) (fun _ h9 => h9) rfl (by decide +kernel) rfl rfl (Nat.le_of_ble_eq_true rfl) d_Mo_run_95 (fun H locs hP hD hS => ?_)
        rw [mp_length] at hP hD
        have hP : va_P D classes (mW T h0 ar ((S1.1, S1.2.1, S1.2.2.1, (0, (f_at S1), (f_pending S1), (f_level S1), (a_starts S1), (a_known S1), (f_knows S1), (f_fuel S1)), S1.2.2.2.2.1, S1.2.2.2.2.2) : MS)) H := hP
        have hD : va_D A (mW T h0 ar ((S1.1, S1.2.1, S1.2.2.1, (0, (f_at S1), (f_pending S1), (f_level S1), (a_starts S1), (a_known S1), (f_knows S1), (f_fuel S1)), S1.2.2.2.2.1, S1.2.2.2.2.2) : MS)) := hD
        refine j_joinH (α := Int32) (fun x H locs ls => (True) ∧ va_P D classes (mW T h0 ar ((S1.1, S1.2.1, S1.2.2.1, (0, (f_at S1), (f_pending S1), (f_level S1), (a_starts S1), (a_known S1), (f_knows S1), (f_fuel S1)), S1.2.2.2.2.1, S1.2.2.2.2.2) : MS)) H ∧ va_D A (mW T h0 ar ((S1.1, S1.2.1, S1.2.2.1, (0, (f_at S1), (f_pending S1), (f_level S1), (a_starts S1), (a_known S1), (f_knows S1), (f_fuel S1)), S1.2.2.2.2.1, S1.2.2.2.2.2) : MS)) ∧ va_S A s.heap H locs ∧ lv_has ls 4 [(3, .int i), (2, .int f), (0, .ref h0), (1, .int p0)]) (fun x ls => F0 m 108 ls (.int x :: [])) (fun x H locs ls hI9 => ?_) (fun key2 => ?_)
        · obtain ⟨j2, rfl⟩ : ∃ z, z = x := ⟨_, rfl⟩
          obtain ⟨hj2, hP, hD, hS, hl⟩ := hI9
          have hP : va_P D classes (mW T h0 ar ((S1.1, S1.2.1, S1.2.2.1, (0, (f_at S1), (f_pending S1), (f_level S1), (a_starts S1), (a_known S1), (f_knows S1), (f_fuel S1)), S1.2.2.2.2.1, S1.2.2.2.2.2) : MS)) H := hP
          have hD : va_D A (mW T h0 ar ((S1.1, S1.2.1, S1.2.2.1, (0, (f_at S1), (f_pending S1), (f_level S1), (a_starts S1), (a_known S1), (f_knows S1), (f_fuel S1)), S1.2.2.2.2.1, S1.2.2.2.2.2) : MS)) := hD
          have hl : lv_has ls 4 [(3, .int i), (2, .int f), (0, .ref h0), (1, .int p0)] := hl
          exact j_iret F hr hlocks hK hS ((S1.1, S1.2.1, S1.2.2.1, (0, (f_at S1), (f_pending S1), (f_level S1), (a_starts S1), (a_known S1), (f_knows S1), (f_fuel S1)), S1.2.2.2.2.1, S1.2.2.2.2.2) : MS) ⟨⟨i_size, i_taken, i_vals, i_room, i_dicts, i_deep, i_open, i_cells, i_points, i_part, (show 0 ≤ (0 : Int32).toInt ∧ (0 : Int32).toInt ≤ 120 by have := tI_0; omega), i_knows, i_page, i_text, i_pats, i_fuel, i_fr, i_ink⟩, (show (f_frames S1).toInt = 0 ∧ ((1 ≤ p0.toInt ∧ p0.toInt ≤ 500) → (0 : Int32).toInt = 0) ∧ ((p0.toInt < 1 ∨ 500 < p0.toInt) → (0 : Int32).toInt = (f_length S).toInt) by (have := tI_0; omega))⟩ hP hD d_Mo_run_108
        · refine lv_iload_n hx hb d_Mo_run_98 rfl (lv_at hl 1 rfl) ?_
          refine lv_iconst (v := (-1)) hx hb d_Mo_run_99 (by decide) ?_
          refine lv_icmp_ne (tgt := 107) hx hb d_Mo_run_100 (by decide) (fun c100_1 => ?_) (fun c100_1 => ?_)
          · first | have fc100_1 : f.toInt < (-1) := (by have := zt_ne (show f.toInt = _ from rfl) tI_m1 c100_1; omega) | have fc100_1 : (-1) < f.toInt := (by have := zt_ne (show f.toInt = _ from rfl) tI_m1 c100_1; omega) | skip
            refine lv_iload_n hx hb d_Mo_run_107 rfl (lv_at hl 1 rfl) ?_
            exact key2 (f) _ _ _ ⟨trivial, hP, hD, hS, lv_sub hl [0, 1, 2, 3] rfl⟩
          · have fc100_1 : f.toInt = (-1) := zt_eq (show f.toInt = _ from rfl) tI_m1 c100_1
            refine lv_iconst (v := 0) hx hb d_Mo_run_103 (by decide) ?_
            refine lv_goto (tgt := 108) hx hb d_Mo_run_104 (by decide) ?_
            exact key2 (0 : Int32) _ _ _ ⟨trivial, hP, hD, hS, lv_sub hl [0, 1, 2, 3] rfl⟩
      · have fc53_1 : i.toInt < 130 := Int.not_le.mp (zt_nle tI_130 (show i.toInt = _ from rfl) c53_1)
        refine lv_iload_n hx hb d_Mo_run_56 rfl (lv_at hl 1 rfl) ?_
        refine lv_if_ne (tgt := 93) hx hb d_Mo_run_57 (by decide) (fun c57_1 => ?_) (fun c57_1 => ?_)
        · first | have fc57_1 : f.toInt < 0 := (by have := zt_ne (show f.toInt = _ from rfl) tI_0 c57_1; omega) | have fc57_1 : 0 < f.toInt := (by have := zt_ne (show f.toInt = _ from rfl) tI_0 c57_1; omega) | skip
          refine lv_aload_n hx hb d_Mo_run_93 rfl (lv_at hl 2 rfl) ?_
          refine lv_iconst (v := 0) hx hb d_Mo_run_94 (by decide) ?_
          refine va_put (D := D) (ci := 11) (v := .int 0) (ty := .int) (C := "PageScribeModel") (T := F_Mo) (N := 45) hx hb hts i_Mo t_Mo t_Mo_ok n_Mo hown hK hP hD hS 0 mW_0 cl_11 24 (by decide) (hts _ k_6_184) (fun _ h9 => h9) rfl (by decide +kernel) rfl rfl (Nat.le_of_ble_eq_true rfl) d_Mo_run_95 (fun H locs hP hD hS => ?_)
          rw [mp_length] at hP hD
          have hP : va_P D classes (mW T h0 ar ((S1.1, S1.2.1, S1.2.2.1, (0, (f_at S1), (f_pending S1), (f_level S1), (a_starts S1), (a_known S1), (f_knows S1), (f_fuel S1)), S1.2.2.2.2.1, S1.2.2.2.2.2) : MS)) H := hP
          have hD : va_D A (mW T h0 ar ((S1.1, S1.2.1, S1.2.2.1, (0, (f_at S1), (f_pending S1), (f_level S1), (a_starts S1), (a_known S1), (f_knows S1), (f_fuel S1)), S1.2.2.2.2.1, S1.2.2.2.2.2) : MS)) := hD
          refine j_joinH (α := Int32) (fun x H locs ls => (True) ∧ va_P D classes (mW T h0 ar ((S1.1, S1.2.1, S1.2.2.1, (0, (f_at S1), (f_pending S1), (f_level S1), (a_starts S1), (a_known S1), (f_knows S1), (f_fuel S1)), S1.2.2.2.2.1, S1.2.2.2.2.2) : MS)) H ∧ va_D A (mW T h0 ar ((S1.1, S1.2.1, S1.2.2.1, (0, (f_at S1), (f_pending S1), (f_level S1), (a_starts S1), (a_known S1), (f_knows S1), (f_fuel S1)), S1.2.2.2.2.1, S1.2.2.2.2.2) : MS)) ∧ va_S A s.heap H locs ∧ lv_has ls 4 [(3, .int i), (2, .int f), (0, .ref h0), (1, .int p0)]) (fun x ls => F0 m 108 ls (.int x :: [])) (fun x H locs ls hI9 => ?_) (fun key3 => ?_)
          · obtain ⟨j3, rfl⟩ : ∃ z, z = x := ⟨_, rfl⟩
            obtain ⟨hj3, hP, hD, hS, hl⟩ := hI9
            have hP : va_P D classes (mW T h0 ar ((S1.1, S1.2.1, S1.2.2.1, (0, (f_at S1), (f_pending S1), (f_level S1), (a_starts S1), (a_known S1), (f_knows S1), (f_fuel S1)), S1.2.2.2.2.1, S1.2.2.2.2.2) : MS)) H := hP
            have hD : va_D A (mW T h0 ar ((S1.1, S1.2.1, S1.2.2.1, (0, (f_at S1), (f_pending S1), (f_level S1), (a_starts S1), (a_known S1), (f_knows S1), (f_fuel S1)), S1.2.2.2.2.1, S1.2.2.2.2.2) : MS)) := hD
            have hl : lv_has ls 4 [(3, .int i), (2, .int f), (0, .ref h0), (1, .int p0)] := hl
            exact j_iret F hr hlocks hK hS ((S1.1, S1.2.1, S1.2.2.1, (0, (f_at S1), (f_pending S1), (f_level S1), (a_starts S1), (a_known S1), (f_knows S1), (f_fuel S1)), S1.2.2.2.2.1, S1.2.2.2.2.2) : MS) ⟨⟨i_size, i_taken, i_vals, i_room, i_dicts, i_deep, i_open, i_cells, i_points, i_part, (show 0 ≤ (0 : Int32).toInt ∧ (0 : Int32).toInt ≤ 120 by have := tI_0; omega), i_knows, i_page, i_text, i_pats, i_fuel, i_fr, i_ink⟩, (show (f_frames S1).toInt = 0 ∧ ((1 ≤ p0.toInt ∧ p0.toInt ≤ 500) → (0 : Int32).toInt = 0) ∧ ((p0.toInt < 1 ∨ 500 < p0.toInt) → (0 : Int32).toInt = (f_length S).toInt) by (have := tI_0; omega))⟩ hP hD d_Mo_run_108
          · refine lv_iload_n hx hb d_Mo_run_98 rfl (lv_at hl 1 rfl) ?_
            refine lv_iconst (v := (-1)) hx hb d_Mo_run_99 (by decide) ?_
            refine lv_icmp_ne (tgt := 107) hx hb d_Mo_run_100 (by decide) (fun c100_2 => ?_) (fun c100_2 => ?_)
            · first | have fc100_2 : f.toInt < (-1) := (by have := zt_ne (show f.toInt = _ from rfl) tI_m1 c100_2; omega) | have fc100_2 : (-1) < f.toInt := (by have := zt_ne (show f.toInt = _ from rfl) tI_m1 c100_2; omega) | skip
              refine lv_iload_n hx hb d_Mo_run_107 rfl (lv_at hl 1 rfl) ?_
              exact key3 (f) _ _ _ ⟨trivial, hP, hD, hS, lv_sub hl [0, 1, 2, 3] rfl⟩
            · have fc100_2 : f.toInt = (-1) := zt_eq (show f.toInt = _ from rfl) tI_m1 c100_2
              refine lv_iconst (v := 0) hx hb d_Mo_run_103 (by decide) ?_
              refine lv_goto (tgt := 108) hx hb d_Mo_run_104 (by decide) ?_
              exact key3 (0 : Int32) _ _ _ ⟨trivial, hP, hD, hS, lv_sub hl [0, 1, 2, 3] rfl⟩
        · have fc57_1 : f.toInt = 0 := zt_eq (show f.toInt = _ from rfl) tI_0 c57_1
          refine lv_aload_n hx hb d_Mo_run_60 rfl (lv_at hl 2 rfl) ?_
          refine jm_ci (w := (fun u => u)) hK hP hD hS hA (va_runV (As := []) (rest := []) F (m_token l D T h0 ar S1  H.size ⟨i_size, i_taken, i_vals, i_room, i_dicts, i_deep, i_open, i_cells, i_points, i_part, i_length, i_knows, i_page, i_text, i_pats, i_fuel, i_fr, i_ink⟩ (show 0 ≤ (f_at S1).toInt ∧ (f_at S1).toInt ≤ (f_length S1).toInt by omega)) (j_cV (k := 0) (C := "PageScribeModel") hts k_7_64 k_1_12 k_7_61 k_7_63 k_0_79 (by decide +kernel) ⟨Nat.le_of_ble_eq_true rfl, Nat.le_of_ble_eq_true rfl⟩) (jm_pre hK hP hD) rfl rfl hl.1 rfl (lv_room (Nat.le_of_ble_eq_true rfl)) d_Mo_run_61 ⟨Nat.le_of_ble_eq_true rfl, Nat.le_of_ble_eq_true rfl⟩) (fun rv1 S2 H locs hw1 hP hD hS => ?_)
          have hP : va_P D classes (mW T h0 ar S2) H := hP
          have hD : va_D A (mW T h0 ar S2) := hD
          obtain ⟨⟨i_size, i_taken, i_vals, i_room, i_dicts, i_deep, i_open, i_cells, i_points, i_part, i_length, i_knows, i_page, i_text, i_pats, i_fuel, i_fr, i_ink⟩, kpC_S2, kpF_S2, qqhw1⟩ := hw1
          have nframes_S2 : (f_frames S2).toInt = (f_frames S1).toInt := congrArg Int32.toInt kpF_S2.1
          have nunder_S2 : (f_under S2).toInt = (f_under S1).toInt := congrArg Int32.toInt kpF_S2.2.1
          have nsteps_S2 : (f_steps S2).toInt = (f_steps S1).toInt := congrArg Int32.toInt kpC_S2.2.2.2
          have nfuel_S2 : (f_fuel S2).toInt = (f_fuel S1).toInt := congrArg Int32.toInt kpC_S2.2.2.1
          have nlength_S2 : (f_length S2).toInt = (f_length S1).toInt := congrArg Int32.toInt kpC_S2.1
          have qhw1 : -1 ≤ rv1.toInt ∧ rv1.toInt ≤ 15 ∧ 0 ≤ (f_at S2).toInt ∧ (f_at S2).toInt ≤ (f_length S1).toInt := qqhw1
          refine lv_istore_n (lv' := [(2, .int rv1), (3, .int i), (0, .ref h0), (1, .int p0)]) hx hb d_Mo_run_64 rfl hl (by decide) rfl (fun ls hl => ?_)
          refine lv_iload_n hx hb d_Mo_run_65 rfl (lv_at hl 0 rfl) ?_
          refine lv_if_ne (tgt := 77) hx hb d_Mo_run_66 (by decide) (fun c66_1 => ?_) (fun c66_1 => ?_)
          · first | have fc66_1 : rv1.toInt < 0 := (by have := zt_ne (show rv1.toInt = _ from rfl) tI_0 c66_1; omega) | have fc66_1 : 0 < rv1.toInt := (by have := zt_ne (show rv1.toInt = _ from rfl) tI_0 c66_1; omega) | skip
            refine lv_iload_n hx hb d_Mo_run_77 rfl (lv_at hl 0 rfl) ?_
            refine lv_iconst (v := (-1)) hx hb d_Mo_run_78 (by decide) ?_
            refine lv_icmp_eq (tgt := 87) hx hb d_Mo_run_79 (by decide) (fun c79_1 => ?_) (fun c79_1 => ?_)
            · have fc79_1 : rv1.toInt = (-1) := zt_eq (show rv1.toInt = _ from rfl) tI_m1 c79_1
              refine lv_iinc (v := (i + 1)) (lv' := [(3, .int (i + 1)), (2, .int rv1), (0, .ref h0), (1, .int p0)]) hx hb d_Mo_run_87 hl (k := 1) rfl (by first | rfl | decide) (by decide) rfl (fun ls hl => ?_)
              obtain ⟨x1, ex1⟩ : ∃ z, z = (i + 1) := ⟨_, rfl⟩
              rw [← ex1] at hl
              have fx1 : x1.toInt = (i.toInt + 1) := by rw [ex1]; exact (zt_add (show i.toInt = _ from rfl) tI_1 (by omega) (by omega)).trans (by omega)
              have hl : lv_has ls 4 [(3, .int x1), (2, .int rv1), (0, .ref h0), (1, .int p0)] := hl
              refine lv_goto (tgt := 49) hx hb d_Mo_run_90 (by decide) ?_
              exact ih (k - 1) (S2, rv1, x1) _ _ _ (by omega) ⟨(show 0 ≤ x1.toInt ∧ x1.toInt ≤ 130 ∧ 130 ≤ x1.toInt + (((k - 1) : Nat) : Int) ∧ -1 ≤ rv1.toInt ∧ rv1.toInt ≤ 16 ∧ (f_frames S2).toInt = 0 ∧ 0 ≤ (f_at S2).toInt ∧ (f_at S2).toInt ≤ (f_length S2).toInt by omega), ⟨i_size, i_taken, i_vals, i_room, i_dicts, i_deep, i_open, i_cells, i_points, i_part, i_length, i_knows, i_page, i_text, i_pats, i_fuel, i_fr, i_ink⟩, hP, hD, hS, lv_sub hl [0, 1, 2, 3] rfl⟩
            · first | have fc79_1 : rv1.toInt < (-1) := (by have := zt_ne (show rv1.toInt = _ from rfl) tI_m1 c79_1; omega) | have fc79_1 : (-1) < rv1.toInt := (by have := zt_ne (show rv1.toInt = _ from rfl) tI_m1 c79_1; omega) | skip
              refine lv_aload_n hx hb d_Mo_run_82 rfl (lv_at hl 2 rfl) ?_
              refine lv_iload_n hx hb d_Mo_run_83 rfl (lv_at hl 0 rfl) ?_
              refine va_put (D := D) (ci := 11) (v := .int rv1) (ty := .int) (C := "PageScribeModel") (T := F_Mo) (N := 45) hx hb hts i_Mo t_Mo t_Mo_ok n_Mo hown hK hP hD hS 0 mW_0 cl_11 33 (by decide) (hts _ k_6_193) (fun _ h9 => h9) rfl (by decide +kernel) rfl rfl (Nat.le_of_ble_eq_true rfl) d_Mo_run_84 (fun H locs hP hD hS => ?_)
              rw [mp_failure] at hP hD
              have hP : va_P D classes (mW T h0 ar ((S2.1, S2.2.1, S2.2.2.1, S2.2.2.2.1, ((f_steps S2), rv1, (f_columns S2), (f_rows S2), (a_pixels S2), (f_gray S2), (a_across S2), (a_along S2)), S2.2.2.2.2.2) : MS)) H := hP
              have hD : va_D A (mW T h0 ar ((S2.1, S2.2.1, S2.2.2.1, S2.2.2.2.1, ((f_steps S2), rv1, (f_columns S2), (f_rows S2), (a_pixels S2), (f_gray S2), (a_across S2), (a_along S2)), S2.2.2.2.2.2) : MS)) := hD
              refine lv_iinc (v := (i + 1)) (lv' := [(3, .int (i + 1)), (2, .int rv1), (0, .ref h0), (1, .int p0)]) hx hb d_Mo_run_87 hl (k := 1) rfl (by first | rfl | decide) (by decide) rfl (fun ls hl => ?_)
              obtain ⟨x2, ex2⟩ : ∃ z, z = (i + 1) := ⟨_, rfl⟩
              rw [← ex2] at hl
              have fx2 : x2.toInt = (i.toInt + 1) := by rw [ex2]; exact (zt_add (show i.toInt = _ from rfl) tI_1 (by omega) (by omega)).trans (by omega)
              have hl : lv_has ls 4 [(3, .int x2), (2, .int rv1), (0, .ref h0), (1, .int p0)] := hl
              refine lv_goto (tgt := 49) hx hb d_Mo_run_90 (by decide) ?_
              exact ih (k - 1) (((S2.1, S2.2.1, S2.2.2.1, S2.2.2.2.1, ((f_steps S2), rv1, (f_columns S2), (f_rows S2), (a_pixels S2), (f_gray S2), (a_across S2), (a_along S2)), S2.2.2.2.2.2) : MS), rv1, x2) _ _ _ (by omega) ⟨(show 0 ≤ x2.toInt ∧ x2.toInt ≤ 130 ∧ 130 ≤ x2.toInt + (((k - 1) : Nat) : Int) ∧ -1 ≤ rv1.toInt ∧ rv1.toInt ≤ 16 ∧ (f_frames S2).toInt = 0 ∧ 0 ≤ (f_at S2).toInt ∧ (f_at S2).toInt ≤ (f_length S2).toInt by omega), ⟨i_size, i_taken, i_vals, i_room, i_dicts, i_deep, i_open, i_cells, i_points, i_part, i_length, i_knows, i_page, i_text, i_pats, i_fuel, i_fr, i_ink⟩, hP, hD, hS, lv_sub hl [0, 1, 2, 3] rfl⟩
          · have fc66_1 : rv1.toInt = 0 := zt_eq (show rv1.toInt = _ from rfl) tI_0 c66_1
            refine lv_aload_n hx hb d_Mo_run_69 rfl (lv_at hl 2 rfl) ?_
            refine jm_ci (w := (fun u => u)) hK hP hD hS hA (va_runV (As := []) (rest := []) F (m_work l D T h0 ar S2  H.size ⟨i_size, i_taken, i_vals, i_room, i_dicts, i_deep, i_open, i_cells, i_points, i_part, i_length, i_knows, i_page, i_text, i_pats, i_fuel, i_fr, i_ink⟩ (show (f_frames S2).toInt = 0 by omega)) (j_cV (k := 0) (C := "PageScribeModel") hts k_7_127 k_1_12 k_7_124 k_7_126 k_0_91 (by decide +kernel) ⟨Nat.le_of_ble_eq_true rfl, Nat.le_of_ble_eq_true rfl⟩) (jm_pre hK hP hD) rfl rfl hl.1 rfl (lv_room (Nat.le_of_ble_eq_true rfl)) d_Mo_run_70 ⟨Nat.le_of_ble_eq_true rfl, Nat.le_of_ble_eq_true rfl⟩) (fun rv2 S3 H locs hw2 hP hD hS => ?_)
            have hP : va_P D classes (mW T h0 ar S3) H := hP
            have hD : va_D A (mW T h0 ar S3) := hD
            obtain ⟨⟨i_size, i_taken, i_vals, i_room, i_dicts, i_deep, i_open, i_cells, i_points, i_part, i_length, i_knows, i_page, i_text, i_pats, i_fuel, i_fr, i_ink⟩, kpT_S3, qqhw2⟩ := hw2
            have nfuel_S3 : (f_fuel S3).toInt = (f_fuel S2).toInt := congrArg Int32.toInt kpT_S3.2.2.2.2.2.2
            have nlevel_S3 : (f_level S3).toInt = (f_level S2).toInt := congrArg Int32.toInt kpT_S3.2.2.2.2.1
            have npending_S3 : (f_pending S3).toInt = (f_pending S2).toInt := congrArg Int32.toInt kpT_S3.2.2.2.1
            have nlength_S3 : (f_length S3).toInt = (f_length S2).toInt := congrArg Int32.toInt kpT_S3.1
            have nat_S3 : (f_at S3).toInt = (f_at S2).toInt := congrArg Int32.toInt kpT_S3.2.1
            have qhw2 : -1 ≤ rv2.toInt ∧ rv2.toInt ≤ 16 ∧ (f_frames S3).toInt = 0 := qqhw2
            refine lv_istore_n (lv' := [(2, .int rv2), (3, .int i), (0, .ref h0), (1, .int p0)]) hx hb d_Mo_run_73 rfl hl (by decide) rfl (fun ls hl => ?_)
            refine lv_goto (tgt := 87) hx hb d_Mo_run_74 (by decide) ?_
            refine lv_iinc (v := (i + 1)) (lv' := [(3, .int (i + 1)), (2, .int rv2), (0, .ref h0), (1, .int p0)]) hx hb d_Mo_run_87 hl (k := 1) rfl (by first | rfl | decide) (by decide) rfl (fun ls hl => ?_)
            obtain ⟨x3, ex3⟩ : ∃ z, z = (i + 1) := ⟨_, rfl⟩
            rw [← ex3] at hl
            have fx3 : x3.toInt = (i.toInt + 1) := by rw [ex3]; exact (zt_add (show i.toInt = _ from rfl) tI_1 (by omega) (by omega)).trans (by omega)
            have hl : lv_has ls 4 [(3, .int x3), (2, .int rv2), (0, .ref h0), (1, .int p0)] := hl
            refine lv_goto (tgt := 49) hx hb d_Mo_run_90 (by decide) ?_
            exact ih (k - 1) (S3, rv2, x3) _ _ _ (by omega) ⟨(show 0 ≤ x3.toInt ∧ x3.toInt ≤ 130 ∧ 130 ≤ x3.toInt + (((k - 1) : Nat) : Int) ∧ -1 ≤ rv2.toInt ∧ rv2.toInt ≤ 16 ∧ (f_frames S3).toInt = 0 ∧ 0 ≤ (f_at S3).toInt ∧ (f_at S3).toInt ≤ (f_length S3).toInt by omega), ⟨i_size, i_taken, i_vals, i_room, i_dicts, i_deep, i_open, i_cells, i_points, i_part, i_length, i_knows, i_page, i_text, i_pats, i_fuel, i_fr, i_ink⟩, hP, hD, hS, lv_sub hl [0, 1, 2, 3] rfl⟩
    · have fc25_1 : 0 < j1.toInt := Int.not_le.mp (zt_nle (show j1.toInt = _ from rfl) tI_0 c25_1)
      refine lv_iconst (v := 0) hx hb d_Mo_run_28 (by decide) ?_
      exact j_iret F hr hlocks hK hS (((j1, (a_kinds S), (a_codes S), (a_reals S), (f_size S), (f_taken S), (a_words S), (a_many S)), S.2.1, S.2.2.1, S.2.2.2.1, S.2.2.2.2.1, S.2.2.2.2.2) : MS) ⟨⟨i_size, i_taken, i_vals, i_room, i_dicts, i_deep, i_open, i_cells, i_points, i_part, i_length, i_knows, i_page, i_text, i_pats, i_fuel, i_fr, i_ink⟩, (show (f_frames S).toInt = 0 ∧ ((1 ≤ p0.toInt ∧ p0.toInt ≤ 500) → (f_length S).toInt = 0) ∧ ((p0.toInt < 1 ∨ 500 < p0.toInt) → (f_length S).toInt = (f_length S).toInt) by have := tI_0; (have := tI_0; omega))⟩ hP hD d_Mo_run_29
  · refine lv_iload_n hx hb d_Mo_run_1 rfl (lv_at hl 1 rfl) ?_
    refine lv_iconst (v := 1) hx hb d_Mo_run_2 (by decide) ?_
    refine lv_icmp_lt (tgt := 13) hx hb d_Mo_run_3 (by decide) (fun c3_1 => ?_) (fun c3_1 => ?_)
    · have fc3_1 : p0.toInt < 1 := zt_lt (show p0.toInt = _ from rfl) tI_1 c3_1
      refine lv_iconst (v := 1) hx hb d_Mo_run_13 (by decide) ?_
      refine lv_goto (tgt := 18) hx hb d_Mo_run_14 (by decide) ?_
      exact key1 (1 : Int32) _ _ _ ⟨(show ((1 : Int32).toInt = 1 ∧ (p0.toInt < 1 ∨ 500 < p0.toInt)) ∨ ((1 : Int32).toInt = 0 ∧ 1 ≤ p0.toInt ∧ p0.toInt ≤ 500) by have := tI_1; omega), hP, hD, hS, lv_sub hl [0, 1] rfl⟩
    · have fc3_1 : 1 ≤ p0.toInt := Int.not_lt.mp (zt_nlt (show p0.toInt = _ from rfl) tI_1 c3_1)
      refine lv_iload_n hx hb d_Mo_run_6 rfl (lv_at hl 1 rfl) ?_
      refine lv_sipush (v := 500) hx hb d_Mo_run_7 (by decide) ?_
      refine lv_icmp_le (tgt := 17) hx hb d_Mo_run_10 (by decide) (fun c10_1 => ?_) (fun c10_1 => ?_)
      · have fc10_1 : p0.toInt ≤ 500 := zt_le (show p0.toInt = _ from rfl) tI_500 c10_1
        refine lv_iconst (v := 0) hx hb d_Mo_run_17 (by decide) ?_
        exact key1 (0 : Int32) _ _ _ ⟨(show ((0 : Int32).toInt = 1 ∧ (p0.toInt < 1 ∨ 500 < p0.toInt)) ∨ ((0 : Int32).toInt = 0 ∧ 1 ≤ p0.toInt ∧ p0.toInt ≤ 500) by have := tI_0; omega), hP, hD, hS, lv_sub hl [0, 1] rfl⟩
      · have fc10_1 : 500 < p0.toInt := Int.not_le.mp (zt_nle (show p0.toInt = _ from rfl) tI_500 c10_1)
        refine lv_iconst (v := 1) hx hb d_Mo_run_13 (by decide) ?_
        refine lv_goto (tgt := 18) hx hb d_Mo_run_14 (by decide) ?_
        exact key1 (1 : Int32) _ _ _ ⟨(show ((1 : Int32).toInt = 1 ∧ (p0.toInt < 1 ∨ 500 < p0.toInt)) ∨ ((1 : Int32).toInt = 0 ∧ 1 ≤ p0.toInt ∧ p0.toInt ≤ 500) by have := tI_1; omega), hP, hD, hS, lv_sub hl [0, 1] rfl⟩
