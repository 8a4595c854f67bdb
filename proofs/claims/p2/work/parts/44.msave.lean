theorem d_Mo_save_0 : decode prog_15_method_68_code 0 = .ok (.aload_n 0, 1) := by decide +kernel
theorem k_6_172 : Cond.fieldLink "PageScribeModel" 534 "PageScribeModel" "open" "I" ∈ gw := gw_of (tb_6 (List.mem_of_getElem? (i := 172) (by decide +kernel))) (by decide +kernel)
theorem d_Mo_save_1 : decode prog_15_method_68_code 1 = .ok (.getfield 534, 3) := by decide +kernel
theorem d_Mo_save_4 : decode prog_15_method_68_code 4 = .ok (.iconst 3, 1) := by decide +kernel
theorem d_Mo_save_5 : decode prog_15_method_68_code 5 = .ok (.if_icmp .ne 6, 3) := by decide +kernel
theorem d_Mo_save_11 : decode prog_15_method_68_code 11 = .ok (.aload_n 0, 1) := by decide +kernel
theorem d_Mo_save_12 : decode prog_15_method_68_code 12 = .ok (.getfield 247, 3) := by decide +kernel
theorem d_Mo_save_15 : decode prog_15_method_68_code 15 = .ok (.bipush 40, 2) := by decide +kernel
theorem d_Mo_save_17 : decode prog_15_method_68_code 17 = .ok (.if_icmp .ne 5, 3) := by decide +kernel
theorem d_Mo_save_22 : decode prog_15_method_68_code 22 = .ok (.aload_n 0, 1) := by decide +kernel
theorem d_Mo_save_23 : decode prog_15_method_68_code 23 = .ok (.dup, 1) := by decide +kernel
theorem k_6_171 : Cond.fieldLink "PageScribeModel" 537 "PageScribeModel" "saves" "I" ∈ gw := gw_of (tb_6 (List.mem_of_getElem? (i := 171) (by decide +kernel))) (by decide +kernel)
theorem d_Mo_save_24 : decode prog_15_method_68_code 24 = .ok (.getfield 537, 3) := by decide +kernel
theorem d_Mo_save_27 : decode prog_15_method_68_code 27 = .ok (.iconst 1, 1) := by decide +kernel
theorem d_Mo_save_28 : decode prog_15_method_68_code 28 = .ok (.iadd, 1) := by decide +kernel
theorem d_Mo_save_29 : decode prog_15_method_68_code 29 = .ok (.putfield 537, 3) := by decide +kernel
theorem d_Mo_save_32 : decode prog_15_method_68_code 32 = .ok (.aload_n 0, 1) := by decide +kernel
theorem d_Mo_save_33 : decode prog_15_method_68_code 33 = .ok (.getfield 37, 3) := by decide +kernel
theorem d_Mo_save_36 : decode prog_15_method_68_code 36 = .ok (.aload_n 0, 1) := by decide +kernel
theorem d_Mo_save_37 : decode prog_15_method_68_code 37 = .ok (.getfield 534, 3) := by decide +kernel
theorem d_Mo_save_40 : decode prog_15_method_68_code 40 = .ok (.aload_n 0, 1) := by decide +kernel
theorem d_Mo_save_41 : decode prog_15_method_68_code 41 = .ok (.getfield 537, 3) := by decide +kernel
theorem d_Mo_save_44 : decode prog_15_method_68_code 44 = .ok (.iastore, 1) := by decide +kernel
theorem d_Mo_save_45 : decode prog_15_method_68_code 45 = .ok (.aload_n 0, 1) := by decide +kernel
theorem d_Mo_save_46 : decode prog_15_method_68_code 46 = .ok (.getfield 40, 3) := by decide +kernel
theorem d_Mo_save_49 : decode prog_15_method_68_code 49 = .ok (.aload_n 0, 1) := by decide +kernel
theorem d_Mo_save_50 : decode prog_15_method_68_code 50 = .ok (.getfield 534, 3) := by decide +kernel
theorem d_Mo_save_53 : decode prog_15_method_68_code 53 = .ok (.aload_n 0, 1) := by decide +kernel
theorem d_Mo_save_54 : decode prog_15_method_68_code 54 = .ok (.getfield 325, 3) := by decide +kernel
theorem d_Mo_save_57 : decode prog_15_method_68_code 57 = .ok (.iastore, 1) := by decide +kernel
theorem d_Mo_save_58 : decode prog_15_method_68_code 58 = .ok (.aload_n 0, 1) := by decide +kernel
theorem d_Mo_save_59 : decode prog_15_method_68_code 59 = .ok (.dup, 1) := by decide +kernel
theorem d_Mo_save_60 : decode prog_15_method_68_code 60 = .ok (.getfield 534, 3) := by decide +kernel
theorem d_Mo_save_63 : decode prog_15_method_68_code 63 = .ok (.iconst 1, 1) := by decide +kernel
theorem d_Mo_save_64 : decode prog_15_method_68_code 64 = .ok (.iadd, 1) := by decide +kernel
theorem d_Mo_save_65 : decode prog_15_method_68_code 65 = .ok (.putfield 534, 3) := by decide +kernel
theorem d_Mo_save_68 : decode prog_15_method_68_code 68 = .ok (.aload_n 0, 1) := by decide +kernel
theorem d_Mo_save_69 : decode prog_15_method_68_code 69 = .ok (.aload_n 0, 1) := by decide +kernel
theorem d_Mo_save_70 : decode prog_15_method_68_code 70 = .ok (.getfield 534, 3) := by decide +kernel
theorem d_Mo_save_73 : decode prog_15_method_68_code 73 = .ok (.iconst 0, 1) := by decide +kernel
theorem d_Mo_save_74 : decode prog_15_method_68_code 74 = .ok (.invokevirtual 540, 3) := by decide +kernel
theorem k_8_83 : Cond.code ⟨"PageScribeModel", "copyAll", "(II)V"⟩ prog_15_method_67_code 4 none ∈ gw := gw_of (tb_8 (List.mem_of_getElem? (i := 83) (by decide +kernel))) (by decide +kernel)
theorem k_8_80 : Cond.methodLink "PageScribeModel" 540 ⟨"PageScribeModel", "copyAll", "(II)V"⟩ ∈ gw := gw_of (tb_8 (List.mem_of_getElem? (i := 80) (by decide +kernel))) (by decide +kernel)
theorem k_8_82 : Cond.instanceMethod ⟨"PageScribeModel", "copyAll", "(II)V"⟩ ∈ gw := gw_of (tb_8 (List.mem_of_getElem? (i := 82) (by decide +kernel))) (by decide +kernel)
theorem k_0_135 : Cond.selects "PageScribeModel" ⟨"PageScribeModel", "copyAll", "(II)V"⟩ ⟨"PageScribeModel", "copyAll", "(II)V"⟩ ∈ gw := gw_of (tb_0 (List.mem_of_getElem? (i := 135) (by decide +kernel))) (by decide +kernel)
theorem d_Mo_save_77 : decode prog_15_method_68_code 77 = .ok (.aload_n 0, 1) := by decide +kernel
theorem d_Mo_save_78 : decode prog_15_method_68_code 78 = .ok (.bipush 7, 2) := by decide +kernel
theorem d_Mo_save_80 : decode prog_15_method_68_code 80 = .ok (.aload_n 0, 1) := by decide +kernel
theorem d_Mo_save_81 : decode prog_15_method_68_code 81 = .ok (.getfield 537, 3) := by decide +kernel
theorem d_Mo_save_84 : decode prog_15_method_68_code 84 = .ok (.i2l, 1) := by decide +kernel
theorem d_Mo_save_85 : decode prog_15_method_68_code 85 = .ok (.invokevirtual 388, 3) := by decide +kernel
theorem d_Mo_save_88 : decode prog_15_method_68_code 88 = .ok (.ireturn, 1) := by decide +kernel
theorem d_Mo_save_20 : decode prog_15_method_68_code 20 = .ok (.iconst 2, 1) := by decide +kernel
theorem d_Mo_save_21 : decode prog_15_method_68_code 21 = .ok (.ireturn, 1) := by decide +kernel
theorem d_Mo_save_8 : decode prog_15_method_68_code 8 = .ok (.bipush 7, 2) := by decide +kernel
theorem d_Mo_save_10 : decode prog_15_method_68_code 10 = .ok (.ireturn, 1) := by decide +kernel
set_option maxHeartbeats 4000000 in
set_option maxRecDepth 100000 in
theorem m_save (l : Launch) (D : va_G) (T : Nat → ClassId) (h0 : Nat) (ar : Nat → Nat) (S : MS)  (sz : Nat) (hI : MI S) : Met l ⟨"PageScribeModel", "save", "()I"⟩ (wy ⟨"PageScribeModel", "save", "()I"⟩ prog_15_method_68_code 1 (some .int)) ({ frames := 2, cells := 0, slots := 0, locals := 140 }) (va_Pc [.ref h0] (Pw D T (mW T h0 ar S) sz E0)) (va_Qi (fun (r : Int32) (u : MS) => MI u ∧ kA S u ∧ kF S u ∧ (r.toInt = 0 ∨ r.toInt = 2 ∨ r.toInt = 7)) (fun u t => Bw D T (va_A (mW T h0 ar S) sz) (mW T h0 ar u) t) (va_A (mW T h0 ar S) sz)) 0 0 (va_A (mW T h0 ar S) sz) := by
  refine j_met (y := ⟨"PageScribeModel", "save", "()I"⟩) (b := prog_15_method_68_code) (n := 1) (ret := (some .int)) (av := [.ref h0]) (Qc := fun A => va_Qi (fun (r : Int32) (u : MS) => MI u ∧ kA S u ∧ kF S u ∧ (r.toInt = 0 ∨ r.toInt = 2 ∨ r.toInt = 7)) (fun u t => Bw D T A (mW T h0 ar u) t) A) (by decide +kernel) (Nat.le_of_ble_eq_true rfl) (fun p e s m args below meth c A ls F hr hlocks hnm hK hP hD hS hA hN hE hl => ?_)
  obtain ⟨hx, hb, hml, hown, hts⟩ := id F
  have hl : lv_has ls 1 [(0, .ref h0)] := hl
  obtain ⟨i_size, i_taken, i_vals, i_room, i_dicts, i_deep, i_open, i_cells, i_points, i_part, i_length, i_knows, i_page, i_text, i_pats, i_fuel, i_fr, i_ink⟩ := id hI
  refine lv_aload_n hx hb d_Mo_save_0 rfl (lv_at hl 0 rfl) ?_
  refine va_get (D := D) (ci := 11) (v := .int (f_open S)) (C := "PageScribeModel") (T := F_Mo) (N := 45) hx hb hts i_Mo hown hK hP 0 mW_0 cl_11 12 (by decide) (hts _ k_6_172) (fun _ h9 => h9) (mg_open _ _) d_Mo_save_1 ?_
  refine lv_iconst (v := 3) hx hb d_Mo_save_4 (by decide) ?_
  refine lv_icmp_ne (tgt := 11) hx hb d_Mo_save_5 (by decide) (fun c5_1 => ?_) (fun c5_1 => ?_)
  · first | have fc5_1 : (f_open S).toInt < 3 := (by have := zt_ne (show (f_open S).toInt = _ from rfl) tI_3 c5_1; omega) | have fc5_1 : 3 < (f_open S).toInt := (by have := zt_ne (show (f_open S).toInt = _ from rfl) tI_3 c5_1; omega) | skip
    refine lv_aload_n hx hb d_Mo_save_11 rfl (lv_at hl 0 rfl) ?_
    refine va_get (D := D) (ci := 11) (v := .int (f_size S)) (C := "PageScribeModel") (T := F_Mo) (N := 45) hx hb hts i_Mo hown hK hP 0 mW_0 cl_11 4 (by decide) (hts _ k_6_164) (fun _ h9 => h9) (mg_size _ _) d_Mo_save_12 ?_
    refine lv_bipush (v := 40) hx hb d_Mo_save_15 (by decide) ?_
    refine lv_icmp_ne (tgt := 22) hx hb d_Mo_save_17 (by decide) (fun c17_1 => ?_) (fun c17_1 => ?_)
    · first | have fc17_1 : (f_size S).toInt < 40 := (by have := zt_ne (show (f_size S).toInt = _ from rfl) tI_40 c17_1; omega) | have fc17_1 : 40 < (f_size S).toInt := (by have := zt_ne (show (f_size S).toInt = _ from rfl) tI_40 c17_1; omega) | skip
      refine lv_aload_n hx hb d_Mo_save_22 rfl (lv_at hl 0 rfl) ?_
      refine lv_dup hx hb d_Mo_save_23 rfl ?_
      refine va_get (D := D) (ci := 11) (v := .int (f_saves S)) (C := "PageScribeModel") (T := F_Mo) (N := 45) hx hb hts i_Mo hown hK hP 0 mW_0 cl_11 11 (by decide) (hts _ k_6_171) (fun _ h9 => h9) (mg_saves _ _) d_Mo_save_24 ?_
      refine lv_iconst (v := 1) hx hb d_Mo_save_27 (by decide) ?_
      refine lv_iadd hx hb d_Mo_save_28 ?_
      refine lv_topi (fun x1 ex1 => ?_)
      refine va_put (D := D) (ci := 11) (v := .int x1) (ty := .int) (C := "PageScribeModel") (T := F_Mo) (N := 45) hx hb hts i_Mo t_Mo t_Mo_ok n_Mo hown hK hP hD hS 0 mW_0 cl_11 11 (by decide) (hts _ k_6_171) (fun _ h9 => h9) rfl (by decide +kernel) rfl rfl (Nat.le_of_ble_eq_true rfl) d_Mo_save_29 (fun H locs hP hD hS => ?_)
      rw [mp_saves] at hP hD
      have hP : va_P D classes (mW T h0 ar ((S.1, ((a_room S), (a_dicts S), (f_deep S), x1, (f_open S), (a_numbers S), (a_cells S), (f_frames S)), S.2.2.1, S.2.2.2.1, S.2.2.2.2.1, S.2.2.2.2.2) : MS)) H := hP
      have hD : va_D A (mW T h0 ar ((S.1, ((a_room S), (a_dicts S), (f_deep S), x1, (f_open S), (a_numbers S), (a_cells S), (f_frames S)), S.2.2.1, S.2.2.2.1, S.2.2.2.2.1, S.2.2.2.2.2) : MS)) := hD
      refine lv_aload_n hx hb d_Mo_save_32 rfl (lv_at hl 0 rfl) ?_
      refine va_get (D := D) (ci := 11) (v := .ref (ar 7)) (C := "PageScribeModel") (T := F_Mo) (N := 45) hx hb hts i_Mo hown hK hP 0 mW_0 cl_11 13 (by decide) (hts _ k_6_173) (fun _ h9 => h9) (mg_numbers _ _) d_Mo_save_33 ?_
      refine lv_aload_n hx hb d_Mo_save_36 rfl (lv_at hl 0 rfl) ?_
      refine va_get (D := D) (ci := 11) (v := .int (f_open S)) (C := "PageScribeModel") (T := F_Mo) (N := 45) hx hb hts i_Mo hown hK hP 0 mW_0 cl_11 12 (by decide) (hts _ k_6_172) (fun _ h9 => h9) (mg_open _ _) d_Mo_save_37 ?_
      refine lv_aload_n hx hb d_Mo_save_40 rfl (lv_at hl 0 rfl) ?_
      refine va_get (D := D) (ci := 11) (v := .int x1) (C := "PageScribeModel") (T := F_Mo) (N := 45) hx hb hts i_Mo hown hK hP 0 mW_0 cl_11 11 (by decide) (hts _ k_6_171) (fun _ h9 => h9) (mg_saves _ _) d_Mo_save_41 ?_
      refine va_iast hx hb hK hP hD hS 8 0 (ma_numbers _ _ _ _) rfl (zt_in (show (f_open S).toInt = _ from rfl) (by omega) (by omega)) d_Mo_save_44 (fun H locs hP hD hS => ?_)
      rw [ms_numbers] at hP hD
      rw [zt_ix (show (f_open S).toInt = _ from rfl)] at hP hD
      have hP : va_P D classes (mW T h0 ar ((S.1, ((a_room S), (a_dicts S), (f_deep S), x1, (f_open S), (upd (a_numbers S) ((f_open S).toInt.toNat) x1), (a_cells S), (f_frames S)), S.2.2.1, S.2.2.2.1, S.2.2.2.2.1, S.2.2.2.2.2) : MS)) H := hP
      have hD : va_D A (mW T h0 ar ((S.1, ((a_room S), (a_dicts S), (f_deep S), x1, (f_open S), (upd (a_numbers S) ((f_open S).toInt.toNat) x1), (a_cells S), (f_frames S)), S.2.2.1, S.2.2.2.1, S.2.2.2.2.1, S.2.2.2.2.2) : MS)) := hD
      refine lv_aload_n hx hb d_Mo_save_45 rfl (lv_at hl 0 rfl) ?_
      refine va_get (D := D) (ci := 11) (v := .ref (ar 8)) (C := "PageScribeModel") (T := F_Mo) (N := 45) hx hb hts i_Mo hown hK hP 0 mW_0 cl_11 14 (by decide) (hts _ k_6_174) (fun _ h9 => h9) (mg_cells _ _) d_Mo_save_46 ?_
      refine lv_aload_n hx hb d_Mo_save_49 rfl (lv_at hl 0 rfl) ?_
      refine va_get (D := D) (ci := 11) (v := .int (f_open S)) (C := "PageScribeModel") (T := F_Mo) (N := 45) hx hb hts i_Mo hown hK hP 0 mW_0 cl_11 12 (by decide) (hts _ k_6_172) (fun _ h9 => h9) (mg_open _ _) d_Mo_save_50 ?_
      refine lv_aload_n hx hb d_Mo_save_53 rfl (lv_at hl 0 rfl) ?_
      refine va_get (D := D) (ci := 11) (v := .int (f_taken S)) (C := "PageScribeModel") (T := F_Mo) (N := 45) hx hb hts i_Mo hown hK hP 0 mW_0 cl_11 5 (by decide) (hts _ k_6_165) (fun _ h9 => h9) (mg_taken _ _) d_Mo_save_54 ?_
      refine va_iast hx hb hK hP hD hS 9 0 (ma_cells _ _ _ _) rfl (zt_in (show (f_open S).toInt = _ from rfl) (by omega) (by omega)) d_Mo_save_57 (fun H locs hP hD hS => ?_)
      rw [ms_cells] at hP hD
      rw [zt_ix (show (f_open S).toInt = _ from rfl)] at hP hD
      have hP : va_P D classes (mW T h0 ar ((S.1, ((a_room S), (a_dicts S), (f_deep S), x1, (f_open S), (upd (a_numbers S) ((f_open S).toInt.toNat) x1), (upd (a_cells S) ((f_open S).toInt.toNat) (f_taken S)), (f_frames S)), S.2.2.1, S.2.2.2.1, S.2.2.2.2.1, S.2.2.2.2.2) : MS)) H := hP
      have hD : va_D A (mW T h0 ar ((S.1, ((a_room S), (a_dicts S), (f_deep S), x1, (f_open S), (upd (a_numbers S) ((f_open S).toInt.toNat) x1), (upd (a_cells S) ((f_open S).toInt.toNat) (f_taken S)), (f_frames S)), S.2.2.1, S.2.2.2.1, S.2.2.2.2.1, S.2.2.2.2.2) : MS)) := hD
      refine lv_aload_n hx hb d_Mo_save_58 rfl (lv_at hl 0 rfl) ?_
      refine lv_dup hx hb d_Mo_save_59 rfl ?_
      refine va_get (D := D) (ci := 11) (v := .int (f_open S)) (C := "PageScribeModel") (T := F_Mo) (N := 45) hx hb hts i_Mo hown hK hP 0 mW_0 cl_11 12 (by decide) (hts _ k_6_172) (fun _ h9 => h9) (mg_open _ _) d_Mo_save_60 ?_
      refine lv_iconst (v := 1) hx hb d_Mo_save_63 (by decide) ?_
      refine lv_iadd hx hb d_Mo_save_64 ?_
      refine lv_topi (fun x2 ex2 => ?_)
      have fx2 : x2.toInt = ((f_open S).toInt + 1) := by rw [ex2]; exact (zt_add (show (f_open S).toInt = _ from rfl) tI_1 (by omega) (by omega)).trans (by omega)
      refine va_put (D := D) (ci := 11) (v := .int x2) (ty := .int) (C := "PageScribeModel") (T := F_Mo) (N := 45) hx hb hts i_Mo t_Mo t_Mo_ok n_Mo hown hK hP hD hS 0 mW_0 cl_11 12 (by decide) (hts _ k_6_172) (fun _ h9 => h9) rfl (by decide +kernel) rfl rfl (Nat.le_of_ble_eq_true rfl) d_Mo_save_65 (fun H locs hP hD hS => ?_)
      rw [mp_open] at hP hD
      have hP : va_P D classes (mW T h0 ar ((S.1, ((a_room S), (a_dicts S), (f_deep S), x1, x2, (upd (a_numbers S) ((f_open S).toInt.toNat) x1), (upd (a_cells S) ((f_open S).toInt.toNat) (f_taken S)), (f_frames S)), S.2.2.1, S.2.2.2.1, S.2.2.2.2.1, S.2.2.2.2.2) : MS)) H := hP
      have hD : va_D A (mW T h0 ar ((S.1, ((a_room S), (a_dicts S), (f_deep S), x1, x2, (upd (a_numbers S) ((f_open S).toInt.toNat) x1), (upd (a_cells S) ((f_open S).toInt.toNat) (f_taken S)), (f_frames S)), S.2.2.1, S.2.2.2.1, S.2.2.2.2.1, S.2.2.2.2.2) : MS)) := hD
      refine lv_aload_n hx hb d_Mo_save_68 rfl (lv_at hl 0 rfl) ?_
      refine lv_aload_n hx hb d_Mo_save_69 rfl (lv_at hl 0 rfl) ?_
      refine va_get (D := D) (ci := 11) (v := .int x2) (C := "PageScribeModel") (T := F_Mo) (N := 45) hx hb hts i_Mo hown hK hP 0 mW_0 cl_11 12 (by decide) (hts _ k_6_172) (fun _ h9 => h9) (mg_open _ _) d_Mo_save_70 ?_
      refine lv_iconst (v := 0) hx hb d_Mo_save_73 (by decide) ?_
      refine jm_cv (w := (fun u => u)) hK hP hD hS hA (va_runV (As := [.int x2, .int 0]) (rest := []) F (m_copyAll l D T h0 ar ((S.1, ((a_room S), (a_dicts S), (f_deep S), x1, x2, (upd (a_numbers S) ((f_open S).toInt.toNat) x1), (upd (a_cells S) ((f_open S).toInt.toNat) (f_taken S)), (f_frames S)), S.2.2.1, S.2.2.2.1, S.2.2.2.2.1, S.2.2.2.2.2) : MS) x2 (0 : Int32) H.size ⟨i_size, i_taken, i_vals, i_room, i_dicts, i_deep, (show 0 ≤ x2.toInt ∧ x2.toInt ≤ 3 by omega), (ar_up (lo := 0) (hi := 160) (N := 3) i_cells (by omega)), i_points, i_part, i_length, i_knows, i_page, i_text, i_pats, i_fuel, i_fr, i_ink⟩ (show 0 ≤ x2.toInt ∧ x2.toInt ≤ 3 ∧ 0 ≤ (0 : Int32).toInt ∧ (0 : Int32).toInt ≤ 3 by have := tI_0; first | omega | (simp only [fx2]; omega))) (j_cV (k := 2) (C := "PageScribeModel") hts k_8_83 k_1_12 k_8_80 k_8_82 k_0_135 (by decide +kernel) ⟨Nat.le_of_ble_eq_true rfl, Nat.le_of_ble_eq_true rfl⟩) (jm_pre hK hP hD) rfl rfl hl.1 rfl (lv_room (Nat.le_of_ble_eq_true rfl)) d_Mo_save_74 ⟨Nat.le_of_ble_eq_true rfl, Nat.le_of_ble_eq_true rfl⟩) (fun S1 H locs hw1 hP hD hS => ?_)
      have hP : va_P D classes (mW T h0 ar S1) H := hP
      have hD : va_D A (mW T h0 ar S1) := hD
      obtain ⟨⟨i_size, i_taken, i_vals, i_room, i_dicts, i_deep, i_open, i_cells, i_points, i_part, i_length, i_knows, i_page, i_text, i_pats, i_fuel, i_fr, i_ink⟩, kpA_S1, kpF_S1⟩ := hw1
      have kSA_S1 : kA S S1 := kA_t (show kA S ((S.1, ((a_room S), (a_dicts S), (f_deep S), x1, x2, (upd (a_numbers S) ((f_open S).toInt.toNat) x1), (upd (a_cells S) ((f_open S).toInt.toNat) (f_taken S)), (f_frames S)), S.2.2.1, S.2.2.2.1, S.2.2.2.2.1, S.2.2.2.2.2) : MS) from (kA_r S)) kpA_S1
      have kSF_S1 : kF S S1 := kF_t (show kF S ((S.1, ((a_room S), (a_dicts S), (f_deep S), x1, x2, (upd (a_numbers S) ((f_open S).toInt.toNat) x1), (upd (a_cells S) ((f_open S).toInt.toNat) (f_taken S)), (f_frames S)), S.2.2.1, S.2.2.2.1, S.2.2.2.2.1, S.2.2.2.2.2) : MS) from (kF_r S)) kpF_S1
      have kST_S1 : kT S S1 := kT_t (show kT S ((S.1, ((a_room S), (a_dicts S), (f_deep S), x1, x2, (upd (a_numbers S) ((f_open S).toInt.toNat) x1), (upd (a_cells S) ((f_open S).toInt.toNat) (f_taken S)), (f_frames S)), S.2.2.1, S.2.2.2.1, S.2.2.2.2.1, S.2.2.2.2.2) : MS) from (kT_r S)) (kT_A kpA_S1)
      refine lv_aload_n hx hb d_Mo_save_77 rfl (lv_at hl 0 rfl) ?_
      refine lv_bipush (v := 7) hx hb d_Mo_save_78 (by decide) ?_
      refine lv_aload_n hx hb d_Mo_save_80 rfl (lv_at hl 0 rfl) ?_
      refine va_get (D := D) (ci := 11) (v := .int (f_saves S1)) (C := "PageScribeModel") (T := F_Mo) (N := 45) hx hb hts i_Mo hown hK hP 0 mW_0 cl_11 11 (by decide) (hts _ k_6_171) (fun _ h9 => h9) (mg_saves _ _) d_Mo_save_81 ?_
      refine lv_i2l (v := ((f_saves S1)).toInt64) hx hb d_Mo_save_84 rfl ?_
      refine lv_topl (fun x3 ex3 => ?_)
      have fx3 : x3.toInt = (f_saves S1).toInt := by rw [ex3]; exact zu_i2l (show (f_saves S1).toInt = _ from rfl)
      refine jm_ci (w := (fun u => u)) hK hP hD hS hA (va_runV (As := [.int 7, .long x3]) (rest := []) F (m_push l D T h0 ar S1 (7 : Int32) x3 H.size ⟨i_size, i_taken, i_vals, i_room, i_dicts, i_deep, i_open, i_cells, i_points, i_part, i_length, i_knows, i_page, i_text, i_pats, i_fuel, i_fr, i_ink⟩ (vO_of 7 tI_7 (by decide))) (j_cV (k := 2) (C := "PageScribeModel") hts k_7_191 k_1_12 k_7_188 k_7_190 k_0_106 (by decide +kernel) ⟨Nat.le_of_ble_eq_true rfl, Nat.le_of_ble_eq_true rfl⟩) (jm_pre hK hP hD) rfl rfl hl.1 rfl (lv_room (Nat.le_of_ble_eq_true rfl)) d_Mo_save_85 ⟨Nat.le_of_ble_eq_true rfl, Nat.le_of_ble_eq_true rfl⟩) (fun rv2 S2 H locs hw2 hP hD hS => ?_)
      have hP : va_P D classes (mW T h0 ar S2) H := hP
      have hD : va_D A (mW T h0 ar S2) := hD
      obtain ⟨⟨i_size, i_taken, i_vals, i_room, i_dicts, i_deep, i_open, i_cells, i_points, i_part, i_length, i_knows, i_page, i_text, i_pats, i_fuel, i_fr, i_ink⟩, kpA_S2, kpF_S2, qqhw2⟩ := hw2
      have kSA_S2 : kA S S2 := kA_t (show kA S S1 from kSA_S1) kpA_S2
      have kSF_S2 : kF S S2 := kF_t (show kF S S1 from kSF_S1) kpF_S2
      have kST_S2 : kT S S2 := kT_t (show kT S S1 from kST_S1) (kT_A kpA_S2)
      have qhw2 : rv2.toInt = 0 ∨ rv2.toInt = 2 := by simpa only [fx3, tI_7] using qqhw2
      exact j_iret F hr hlocks hK hS S2 ⟨⟨i_size, i_taken, i_vals, i_room, i_dicts, i_deep, i_open, i_cells, i_points, i_part, i_length, i_knows, i_page, i_text, i_pats, i_fuel, i_fr, i_ink⟩, kSA_S2, kSF_S2, (show rv2.toInt = 0 ∨ rv2.toInt = 2 ∨ rv2.toInt = 7 by omega)⟩ hP hD d_Mo_save_88
    · have fc17_1 : (f_size S).toInt = 40 := zt_eq (show (f_size S).toInt = _ from rfl) tI_40 c17_1
      refine lv_iconst (v := 2) hx hb d_Mo_save_20 (by decide) ?_
      exact j_iret F hr hlocks hK hS S ⟨⟨i_size, i_taken, i_vals, i_room, i_dicts, i_deep, i_open, i_cells, i_points, i_part, i_length, i_knows, i_page, i_text, i_pats, i_fuel, i_fr, i_ink⟩, (kA_r S), (kF_r S), (show (2 : Int32).toInt = 0 ∨ (2 : Int32).toInt = 2 ∨ (2 : Int32).toInt = 7 by have := tI_2; omega)⟩ hP hD d_Mo_save_21
  · have fc5_1 : (f_open S).toInt = 3 := zt_eq (show (f_open S).toInt = _ from rfl) tI_3 c5_1
    refine lv_bipush (v := 7) hx hb d_Mo_save_8 (by decide) ?_
    exact j_iret F hr hlocks hK hS S ⟨⟨i_size, i_taken, i_vals, i_room, i_dicts, i_deep, i_open, i_cells, i_points, i_part, i_length, i_knows, i_page, i_text, i_pats, i_fuel, i_fr, i_ink⟩, (kA_r S), (kF_r S), (show (7 : Int32).toInt = 0 ∨ (7 : Int32).toInt = 2 ∨ (7 : Int32).toInt = 7 by have := tI_7; omega)⟩ hP hD d_Mo_save_10
