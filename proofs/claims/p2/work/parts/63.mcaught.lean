theorem d_Mo_caught_0 : decode prog_15_method_36_code 0 = .ok (.iload_n 1, 1) := by decide +kernel
theorem d_Mo_caught_1 : decode prog_15_method_36_code 1 = .ok (.istore_n 2, 1) := by decide +kernel
theorem d_Mo_caught_2 : decode prog_15_method_36_code 2 = .ok (.iload_n 2, 1) := by decide +kernel
theorem d_Mo_caught_3 : decode prog_15_method_36_code 3 = .ok (.ifCond .eq 67, 3) := by decide +kernel
theorem d_Mo_caught_70 : decode prog_15_method_36_code 70 = .ok (.iconst 0, 1) := by decide +kernel
theorem d_Mo_caught_71 : decode prog_15_method_36_code 71 = .ok (.ireturn, 1) := by decide +kernel
theorem d_Mo_caught_6 : decode prog_15_method_36_code 6 = .ok (.aload_n 0, 1) := by decide +kernel
theorem d_Mo_caught_7 : decode prog_15_method_36_code 7 = .ok (.iload_n 2, 1) := by decide +kernel
theorem d_Mo_caught_8 : decode prog_15_method_36_code 8 = .ok (.putfield 402, 3) := by decide +kernel
theorem d_Mo_caught_11 : decode prog_15_method_36_code 11 = .ok (.aload_n 0, 1) := by decide +kernel
theorem d_Mo_caught_12 : decode prog_15_method_36_code 12 = .ok (.getfield 346, 3) := by decide +kernel
theorem d_Mo_caught_15 : decode prog_15_method_36_code 15 = .ok (.ifCond .le 32, 3) := by decide +kernel
theorem d_Mo_caught_47 : decode prog_15_method_36_code 47 = .ok (.aload_n 0, 1) := by decide +kernel
theorem d_Mo_caught_48 : decode prog_15_method_36_code 48 = .ok (.getfield 346, 3) := by decide +kernel
theorem d_Mo_caught_51 : decode prog_15_method_36_code 51 = .ok (.ifCond .ne 5, 3) := by decide +kernel
theorem d_Mo_caught_56 : decode prog_15_method_36_code 56 = .ok (.aload_n 0, 1) := by decide +kernel
theorem d_Mo_caught_57 : decode prog_15_method_36_code 57 = .ok (.invokevirtual 385, 3) := by decide +kernel
theorem d_Mo_caught_60 : decode prog_15_method_36_code 60 = .ok (.aload_n 0, 1) := by decide +kernel
theorem d_Mo_caught_61 : decode prog_15_method_36_code 61 = .ok (.iconst 2, 1) := by decide +kernel
theorem d_Mo_caught_62 : decode prog_15_method_36_code 62 = .ok (.lconst 1, 1) := by decide +kernel
theorem d_Mo_caught_63 : decode prog_15_method_36_code 63 = .ok (.invokevirtual 388, 3) := by decide +kernel
theorem d_Mo_caught_66 : decode prog_15_method_36_code 66 = .ok (.istore_n 2, 1) := by decide +kernel
theorem d_Mo_caught_67 : decode prog_15_method_36_code 67 = .ok (.goto (-65), 3) := by decide +kernel
theorem d_Mo_caught_54 : decode prog_15_method_36_code 54 = .ok (.iload_n 2, 1) := by decide +kernel
theorem d_Mo_caught_55 : decode prog_15_method_36_code 55 = .ok (.ireturn, 1) := by decide +kernel
theorem d_Mo_caught_18 : decode prog_15_method_36_code 18 = .ok (.iload_n 2, 1) := by decide +kernel
theorem d_Mo_caught_19 : decode prog_15_method_36_code 19 = .ok (.bipush 16, 2) := by decide +kernel
theorem d_Mo_caught_21 : decode prog_15_method_36_code 21 = .ok (.if_icmp .eq 19, 3) := by decide +kernel
theorem d_Mo_caught_40 : decode prog_15_method_36_code 40 = .ok (.aload_n 0, 1) := by decide +kernel
theorem d_Mo_caught_41 : decode prog_15_method_36_code 41 = .ok (.invokevirtual 385, 3) := by decide +kernel
theorem d_Mo_caught_44 : decode prog_15_method_36_code 44 = .ok (.goto (-33), 3) := by decide +kernel
theorem d_Mo_caught_24 : decode prog_15_method_36_code 24 = .ok (.aload_n 0, 1) := by decide +kernel
theorem d_Mo_caught_25 : decode prog_15_method_36_code 25 = .ok (.getfield 43, 3) := by decide +kernel
theorem d_Mo_caught_28 : decode prog_15_method_36_code 28 = .ok (.aload_n 0, 1) := by decide +kernel
theorem d_Mo_caught_29 : decode prog_15_method_36_code 29 = .ok (.getfield 346, 3) := by decide +kernel
theorem d_Mo_caught_32 : decode prog_15_method_36_code 32 = .ok (.iconst 1, 1) := by decide +kernel
theorem d_Mo_caught_33 : decode prog_15_method_36_code 33 = .ok (.isub, 1) := by decide +kernel
theorem d_Mo_caught_34 : decode prog_15_method_36_code 34 = .ok (.iaload, 1) := by decide +kernel
theorem d_Mo_caught_35 : decode prog_15_method_36_code 35 = .ok (.bipush 7, 2) := by decide +kernel
theorem d_Mo_caught_37 : decode prog_15_method_36_code 37 = .ok (.if_icmp .eq 10, 3) := by decide +kernel
set_option maxHeartbeats 4000000 in
set_option maxRecDepth 100000 in
theorem m_caught (l : Launch) (D : va_G) (T : Nat → ClassId) (h0 : Nat) (ar : Nat → Nat) (S : MS) (p0 : Int32) (sz : Nat) (hI : MI S) (h1 : -1 ≤ p0.toInt ∧ p0.toInt ≤ 16) : Met l ⟨"PageScribeModel", "caught", "(I)I"⟩ (wy ⟨"PageScribeModel", "caught", "(I)I"⟩ prog_15_method_36_code 3 (some .int)) ({ frames := 2, cells := 0, slots := 0, locals := 140 }) (va_Pc [.ref h0, .int p0] (Pw D T (mW T h0 ar S) sz E0)) (va_Qi (fun (r : Int32) (u : MS) => MI u ∧ kA S u ∧ ((r.toInt = 0 ∨ (f_frames u).toInt = 0) ∧ -1 ≤ r.toInt ∧ r.toInt ≤ 16 ∧ (f_frames u).toInt ≤ (f_frames S).toInt ∧ (p0.toInt = 16 → (f_frames u).toInt = 0) ∧ (p0.toInt = 0 → r.toInt = 0))) (fun u t => Bw D T (va_A (mW T h0 ar S) sz) (mW T h0 ar u) t) (va_A (mW T h0 ar S) sz)) 0 0 (va_A (mW T h0 ar S) sz) := by
  refine j_met (y := ⟨"PageScribeModel", "caught", "(I)I"⟩) (b := prog_15_method_36_code) (n := 3) (ret := (some .int)) (av := [.ref h0, .int p0]) (Qc := fun A => va_Qi (fun (r : Int32) (u : MS) => MI u ∧ kA S u ∧ ((r.toInt = 0 ∨ (f_frames u).toInt = 0) ∧ -1 ≤ r.toInt ∧ r.toInt ≤ 16 ∧ (f_frames u).toInt ≤ (f_frames S).toInt ∧ (p0.toInt = 16 → (f_frames u).toInt = 0) ∧ (p0.toInt = 0 → r.toInt = 0))) (fun u t => Bw D T A (mW T h0 ar u) t) A) (by decide +kernel) (Nat.le_of_ble_eq_true rfl) (fun p e s m args below meth c A ls F hr hlocks hnm hK hP hD hS hA hN hE hl => ?_)
  obtain ⟨hx, hb, hml, hown, hts⟩ := id F
  have hl : lv_has ls 3 [(0, .ref h0), (1, .int p0)] := hl
  obtain ⟨i_size, i_taken, i_vals, i_room, i_dicts, i_deep, i_open, i_cells, i_points, i_part, i_length, i_knows, i_page, i_text, i_pats, i_fuel, i_fr, i_ink⟩ := id hI
  refine lv_iload_n hx hb d_Mo_caught_0 rfl (lv_at hl 1 rfl) ?_
  refine lv_istore_n (lv' := [(2, .int p0), (0, .ref h0), (1, .int p0)]) hx hb d_Mo_caught_1 rfl hl (by decide) rfl (fun ls hl => ?_)
  refine j_loop (α := MS × Int32) (fun k x H locs ls => (-1 ≤ x.2.toInt ∧ x.2.toInt ≤ 16 ∧ (f_frames x.1).toInt ≤ ((k : Nat) : Int) ∧ (f_frames x.1).toInt ≤ (f_frames S).toInt ∧ (p0.toInt = 16 → x.2.toInt = 16) ∧ (p0.toInt = 0 → x.2.toInt = 0)) ∧ MI x.1 ∧ kA S x.1 ∧ va_P D classes (mW T h0 ar x.1) H ∧ va_D A (mW T h0 ar x.1) ∧ va_S A s.heap H locs ∧ lv_has ls 3 [(2, .int x.2), (0, .ref h0), (1, .int p0)]) (fun _ _ ls => F0 m 2 ls []) (fun k x H locs ls hI9 ih => ?_) 17 (S, p0) _ _ _ ⟨(show -1 ≤ p0.toInt ∧ p0.toInt ≤ 16 ∧ (f_frames S).toInt ≤ ((17 : Nat) : Int) ∧ (f_frames S).toInt ≤ (f_frames S).toInt ∧ (p0.toInt = 16 → p0.toInt = 16) ∧ (p0.toInt = 0 → p0.toInt = 0) by omega), ⟨i_size, i_taken, i_vals, i_room, i_dicts, i_deep, i_open, i_cells, i_points, i_part, i_length, i_knows, i_page, i_text, i_pats, i_fuel, i_fr, i_ink⟩, (show kA S S from (kA_r S)), hP, hD, hS, lv_sub hl [0, 1, 2] rfl⟩
  obtain ⟨S1, f⟩ := x
  obtain ⟨hf1, hIx, klA_S1, hP, hD, hS, hl⟩ := hI9
  obtain ⟨i_size, i_taken, i_vals, i_room, i_dicts, i_deep, i_open, i_cells, i_points, i_part, i_length, i_knows, i_page, i_text, i_pats, i_fuel, i_fr, i_ink⟩ := (show MI S1 from hIx)
  have klA_S1 : kA S S1 := klA_S1
  have hf1 : -1 ≤ f.toInt ∧ f.toInt ≤ 16 ∧ (f_frames S1).toInt ≤ ((k : Nat) : Int) ∧ (f_frames S1).toInt ≤ (f_frames S).toInt ∧ (p0.toInt = 16 → f.toInt = 16) ∧ (p0.toInt = 0 → f.toInt = 0) := hf1
  have hP : va_P D classes (mW T h0 ar S1) H := hP
  have hD : va_D A (mW T h0 ar S1) := hD
  have hl : lv_has ls 3 [(2, .int f), (0, .ref h0), (1, .int p0)] := hl
  refine lv_iload_n hx hb d_Mo_caught_2 rfl (lv_at hl 0 rfl) ?_
  refine lv_if_eq (tgt := 70) hx hb d_Mo_caught_3 (by decide) (fun c3_1 => ?_) (fun c3_1 => ?_)
  · have fc3_1 : f.toInt = 0 := zt_eq (show f.toInt = _ from rfl) tI_0 c3_1
    refine lv_iconst (v := 0) hx hb d_Mo_caught_70 (by decide) ?_
    exact j_iret F hr hlocks hK hS S1 ⟨⟨i_size, i_taken, i_vals, i_room, i_dicts, i_deep, i_open, i_cells, i_points, i_part, i_length, i_knows, i_page, i_text, i_pats, i_fuel, i_fr, i_ink⟩, klA_S1, (show ((0 : Int32).toInt = 0 ∨ (f_frames S1).toInt = 0) ∧ -1 ≤ (0 : Int32).toInt ∧ (0 : Int32).toInt ≤ 16 ∧ (f_frames S1).toInt ≤ (f_frames S).toInt ∧ (p0.toInt = 16 → (f_frames S1).toInt = 0) ∧ (p0.toInt = 0 → (0 : Int32).toInt = 0) by have := tI_0; omega)⟩ hP hD d_Mo_caught_71
  · have fc3_1 : ¬ f.toInt = 0 := zt_ne (show f.toInt = _ from rfl) tI_0 c3_1
    refine lv_aload_n hx hb d_Mo_caught_6 rfl (lv_at hl 1 rfl) ?_
    refine lv_iload_n hx hb d_Mo_caught_7 rfl (lv_at hl 0 rfl) ?_
    refine va_put (D := D) (ci := 11) (v := .int f) (ty := .int) (C := "PageScribeModel") (T := F_Mo) (N := 45) hx hb hts i_Mo t_Mo t_Mo_ok n_Mo hown hK hP hD hS 0 mW_0 cl_11 33 (by decide) (hts _ k_6_193) (fun _ h9 => h9) rfl (by decide +kernel) rfl rfl (Nat.le_of_ble_eq_true rfl) d_Mo_caught_8 (fun H locs hP hD hS => ?_)
    rw [mp_failure] at hP hD
    have hP : va_P D classes (mW T h0 ar ((S1.1, S1.2.1, S1.2.2.1, S1.2.2.2.1, ((f_steps S1), f, (f_columns S1), (f_rows S1), (a_pixels S1), (f_gray S1), (a_across S1), (a_along S1)), S1.2.2.2.2.2) : MS)) H := hP
    have hD : va_D A (mW T h0 ar ((S1.1, S1.2.1, S1.2.2.1, S1.2.2.2.1, ((f_steps S1), f, (f_columns S1), (f_rows S1), (a_pixels S1), (f_gray S1), (a_across S1), (a_along S1)), S1.2.2.2.2.2) : MS)) := hD
    refine j_loop (α := MS) (fun k x H locs ls => ((f_frames x).toInt ≤ ((k : Nat) : Int) ∧ (f_frames x).toInt ≤ (f_frames S1).toInt ∧ (f_frames x).toInt ≤ (f_frames S).toInt) ∧ MI x ∧ kA S x ∧ va_P D classes (mW T h0 ar x) H ∧ va_D A (mW T h0 ar x) ∧ va_S A s.heap H locs ∧ lv_has ls 3 [(2, .int f), (0, .ref h0), (1, .int p0)]) (fun _ _ ls => F0 m 11 ls []) (fun k2 x H locs ls hI9 ih2 => ?_) 17 ((S1.1, S1.2.1, S1.2.2.1, S1.2.2.2.1, ((f_steps S1), f, (f_columns S1), (f_rows S1), (a_pixels S1), (f_gray S1), (a_across S1), (a_along S1)), S1.2.2.2.2.2) : MS) _ _ _ ⟨(show (f_frames S1).toInt ≤ ((17 : Nat) : Int) ∧ (f_frames S1).toInt ≤ (f_frames S1).toInt ∧ (f_frames S1).toInt ≤ (f_frames S).toInt by omega), ⟨i_size, i_taken, i_vals, i_room, i_dicts, i_deep, i_open, i_cells, i_points, i_part, i_length, i_knows, i_page, i_text, i_pats, i_fuel, i_fr, i_ink⟩, (show kA S ((S1.1, S1.2.1, S1.2.2.1, S1.2.2.2.1, ((f_steps S1), f, (f_columns S1), (f_rows S1), (a_pixels S1), (f_gray S1), (a_across S1), (a_along S1)), S1.2.2.2.2.2) : MS) from klA_S1), hP, hD, hS, lv_sub hl [0, 1, 2] rfl⟩
    obtain ⟨S2, rfl⟩ : ∃ z, z = x := ⟨_, rfl⟩
    obtain ⟨hf2, hIx, klA_S2, hP, hD, hS, hl⟩ := hI9
    obtain ⟨i_size, i_taken, i_vals, i_room, i_dicts, i_deep, i_open, i_cells, i_points, i_part, i_length, i_knows, i_page, i_text, i_pats, i_fuel, i_fr, i_ink⟩ := (show MI S2 from hIx)
    have klA_S2 : kA S S2 := klA_S2
    have hf2 : (f_frames S2).toInt ≤ ((k2 : Nat) : Int) ∧ (f_frames S2).toInt ≤ (f_frames S1).toInt ∧ (f_frames S2).toInt ≤ (f_frames S).toInt := hf2
    have hP : va_P D classes (mW T h0 ar S2) H := hP
    have hD : va_D A (mW T h0 ar S2) := hD
    have hl : lv_has ls 3 [(2, .int f), (0, .ref h0), (1, .int p0)] := hl
    refine lv_aload_n hx hb d_Mo_caught_11 rfl (lv_at hl 1 rfl) ?_
    refine va_get (D := D) (ci := 11) (v := .int (f_frames S2)) (C := "PageScribeModel") (T := F_Mo) (N := 45) hx hb hts i_Mo hown hK hP 0 mW_0 cl_11 15 (by decide) (hts _ k_6_175) (fun _ h9 => h9) (mg_frames _ _) d_Mo_caught_12 ?_
    refine lv_if_le (tgt := 47) hx hb d_Mo_caught_15 (by decide) (fun c15_1 => ?_) (fun c15_1 => ?_)
    · have fc15_1 : (f_frames S2).toInt ≤ 0 := zt_le (show (f_frames S2).toInt = _ from rfl) tI_0 c15_1
      refine lv_aload_n hx hb d_Mo_caught_47 rfl (lv_at hl 1 rfl) ?_
      refine va_get (D := D) (ci := 11) (v := .int (f_frames S2)) (C := "PageScribeModel") (T := F_Mo) (N := 45) hx hb hts i_Mo hown hK hP 0 mW_0 cl_11 15 (by decide) (hts _ k_6_175) (fun _ h9 => h9) (mg_frames _ _) d_Mo_caught_48 ?_
      refine lv_if_ne (tgt := 56) hx hb d_Mo_caught_51 (by decide) (fun c51_1 => ?_) (fun c51_1 => ?_)
      · first | have fc51_1 : (f_frames S2).toInt < 0 := (by have := zt_ne (show (f_frames S2).toInt = _ from rfl) tI_0 c51_1; omega) | have fc51_1 : 0 < (f_frames S2).toInt := (by have := zt_ne (show (f_frames S2).toInt = _ from rfl) tI_0 c51_1; omega) | skip
        refine lv_aload_n hx hb d_Mo_caught_56 rfl (lv_at hl 1 rfl) ?_
        refine jm_cv (w := (fun u => u)) hK hP hD hS hA (va_runV (As := []) (rest := []) F (m_leave l D T h0 ar S2  H.size ⟨i_size, i_taken, i_vals, i_room, i_dicts, i_deep, i_open, i_cells, i_points, i_part, i_length, i_knows, i_page, i_text, i_pats, i_fuel, i_fr, i_ink⟩ (show 0 < (f_frames S2).toInt by omega)) (j_cV (k := 0) (C := "PageScribeModel") hts k_8_75 k_1_12 k_8_72 k_8_74 k_0_133 (by decide +kernel) ⟨Nat.le_of_ble_eq_true rfl, Nat.le_of_ble_eq_true rfl⟩) (jm_pre hK hP hD) rfl rfl hl.1 rfl (lv_room (Nat.le_of_ble_eq_true rfl)) d_Mo_caught_57 ⟨Nat.le_of_ble_eq_true rfl, Nat.le_of_ble_eq_true rfl⟩) (fun S3 H locs hw1 hP hD hS => ?_)
        have hP : va_P D classes (mW T h0 ar S3) H := hP
        have hD : va_D A (mW T h0 ar S3) := hD
        obtain ⟨⟨i_size, i_taken, i_vals, i_room, i_dicts, i_deep, i_open, i_cells, i_points, i_part, i_length, i_knows, i_page, i_text, i_pats, i_fuel, i_fr, i_ink⟩, kpA_S3, qqhw1⟩ := hw1
        have kSA_S3 : kA S S3 := kA_t (show kA S S2 from klA_S2) kpA_S3
        have kST_S3 : kT S S3 := kT_t (show kT S S2 from (kT_A klA_S2)) (kT_A kpA_S3)
        have kSR_S3 : kR S S3 := kR_t (show kR S S2 from (kR_A klA_S2)) (kR_A kpA_S3)
        have kSC_S3 : kC S S3 := kC_t (show kC S S2 from (kC_A klA_S2)) (kC_A kpA_S3)
        have nsteps_S3 : (f_steps S3).toInt = (f_steps S2).toInt := congrArg Int32.toInt kpA_S3.2.2.2.2.1
        have nfuel_S3 : (f_fuel S3).toInt = (f_fuel S2).toInt := congrArg Int32.toInt kpA_S3.2.2.2.1
        have nlevel_S3 : (f_level S3).toInt = (f_level S2).toInt := congrArg Int32.toInt kpA_S3.2.2.2.2.2.2.1
        have npending_S3 : (f_pending S3).toInt = (f_pending S2).toInt := congrArg Int32.toInt kpA_S3.2.2.2.2.2.1
        have nlength_S3 : (f_length S3).toInt = (f_length S2).toInt := congrArg Int32.toInt kpA_S3.1
        have nat_S3 : (f_at S3).toInt = (f_at S2).toInt := congrArg Int32.toInt kpA_S3.2.1
        have qhw1 : (f_frames S3).toInt = (f_frames S2).toInt - 1 ∧ (a_what S3) = (a_what S2) ∧ (f_size S3) = (f_size S2) ∧ (a_kinds S3) = (a_kinds S2) ∧ (a_codes S3) = (a_codes S2) := qqhw1
        refine lv_aload_n hx hb d_Mo_caught_60 rfl (lv_at hl 1 rfl) ?_
        refine lv_iconst (v := 2) hx hb d_Mo_caught_61 (by decide) ?_
        refine lv_lconst (v := 1) hx hb d_Mo_caught_62 (by decide) ?_
        refine jm_ci (w := (fun u => u)) hK hP hD hS hA (va_runV (As := [.int 2, .long 1]) (rest := []) F (m_push l D T h0 ar S3 (2 : Int32) (1 : Int64) H.size ⟨i_size, i_taken, i_vals, i_room, i_dicts, i_deep, i_open, i_cells, i_points, i_part, i_length, i_knows, i_page, i_text, i_pats, i_fuel, i_fr, i_ink⟩ (vO_of 2 tI_2 (by decide))) (j_cV (k := 2) (C := "PageScribeModel") hts k_7_191 k_1_12 k_7_188 k_7_190 k_0_106 (by decide +kernel) ⟨Nat.le_of_ble_eq_true rfl, Nat.le_of_ble_eq_true rfl⟩) (jm_pre hK hP hD) rfl rfl hl.1 rfl (lv_room (Nat.le_of_ble_eq_true rfl)) d_Mo_caught_63 ⟨Nat.le_of_ble_eq_true rfl, Nat.le_of_ble_eq_true rfl⟩) (fun rv2 S4 H locs hw2 hP hD hS => ?_)
        have hP : va_P D classes (mW T h0 ar S4) H := hP
        have hD : va_D A (mW T h0 ar S4) := hD
        obtain ⟨⟨i_size, i_taken, i_vals, i_room, i_dicts, i_deep, i_open, i_cells, i_points, i_part, i_length, i_knows, i_page, i_text, i_pats, i_fuel, i_fr, i_ink⟩, kpA_S4, kpF_S4, qqhw2⟩ := hw2
        have kSA_S4 : kA S S4 := kA_t (show kA S S3 from kSA_S3) kpA_S4
        have kST_S4 : kT S S4 := kT_t (show kT S S3 from kST_S3) (kT_A kpA_S4)
        have kSR_S4 : kR S S4 := kR_t (show kR S S3 from kSR_S3) (kR_A kpA_S4)
        have kSC_S4 : kC S S4 := kC_t (show kC S S3 from kSC_S3) (kC_A kpA_S4)
        have nframes_S4 : (f_frames S4).toInt = (f_frames S3).toInt := congrArg Int32.toInt kpF_S4.1
        have nunder_S4 : (f_under S4).toInt = (f_under S3).toInt := congrArg Int32.toInt kpF_S4.2.1
        have nsteps_S4 : (f_steps S4).toInt = (f_steps S3).toInt := congrArg Int32.toInt kpA_S4.2.2.2.2.1
        have nfuel_S4 : (f_fuel S4).toInt = (f_fuel S3).toInt := congrArg Int32.toInt kpA_S4.2.2.2.1
        have nlevel_S4 : (f_level S4).toInt = (f_level S3).toInt := congrArg Int32.toInt kpA_S4.2.2.2.2.2.2.1
        have npending_S4 : (f_pending S4).toInt = (f_pending S3).toInt := congrArg Int32.toInt kpA_S4.2.2.2.2.2.1
        have nlength_S4 : (f_length S4).toInt = (f_length S3).toInt := congrArg Int32.toInt kpA_S4.1
        have nat_S4 : (f_at S4).toInt = (f_at S3).toInt := congrArg Int32.toInt kpA_S4.2.1
        have qhw2 : rv2.toInt = 0 ∨ rv2.toInt = 2 := by simpa only [tI_2, tJ_1] using qqhw2
        refine lv_istore_n (lv' := [(2, .int rv2), (0, .ref h0), (1, .int p0)]) hx hb d_Mo_caught_66 rfl hl (by decide) rfl (fun ls hl => ?_)
        refine lv_goto (tgt := 2) hx hb d_Mo_caught_67 (by decide) ?_
        exact ih (k - 1) (S4, rv2) _ _ _ (by omega) ⟨(show -1 ≤ rv2.toInt ∧ rv2.toInt ≤ 16 ∧ (f_frames S4).toInt ≤ (((k - 1) : Nat) : Int) ∧ (f_frames S4).toInt ≤ (f_frames S).toInt ∧ (p0.toInt = 16 → rv2.toInt = 16) ∧ (p0.toInt = 0 → rv2.toInt = 0) by omega), ⟨i_size, i_taken, i_vals, i_room, i_dicts, i_deep, i_open, i_cells, i_points, i_part, i_length, i_knows, i_page, i_text, i_pats, i_fuel, i_fr, i_ink⟩, (show kA S S4 from kSA_S4), hP, hD, hS, lv_sub hl [0, 1, 2] rfl⟩
      · have fc51_1 : (f_frames S2).toInt = 0 := zt_eq (show (f_frames S2).toInt = _ from rfl) tI_0 c51_1
        refine lv_iload_n hx hb d_Mo_caught_54 rfl (lv_at hl 0 rfl) ?_
        exact j_iret F hr hlocks hK hS S2 ⟨⟨i_size, i_taken, i_vals, i_room, i_dicts, i_deep, i_open, i_cells, i_points, i_part, i_length, i_knows, i_page, i_text, i_pats, i_fuel, i_fr, i_ink⟩, klA_S2, (show (f.toInt = 0 ∨ (f_frames S2).toInt = 0) ∧ -1 ≤ f.toInt ∧ f.toInt ≤ 16 ∧ (f_frames S2).toInt ≤ (f_frames S).toInt ∧ (p0.toInt = 16 → (f_frames S2).toInt = 0) ∧ (p0.toInt = 0 → f.toInt = 0) by omega)⟩ hP hD d_Mo_caught_55
    · have fc15_1 : 0 < (f_frames S2).toInt := Int.not_le.mp (zt_nle (show (f_frames S2).toInt = _ from rfl) tI_0 c15_1)
      refine lv_iload_n hx hb d_Mo_caught_18 rfl (lv_at hl 0 rfl) ?_
      refine lv_bipush (v := 16) hx hb d_Mo_caught_19 (by decide) ?_
      refine lv_icmp_eq (tgt := 40) hx hb d_Mo_caught_21 (by decide) (fun c21_1 => ?_) (fun c21_1 => ?_)
      · have fc21_1 : f.toInt = 16 := zt_eq (show f.toInt = _ from rfl) tI_16 c21_1
        refine lv_aload_n hx hb d_Mo_caught_40 rfl (lv_at hl 1 rfl) ?_
        refine jm_cv (w := (fun u => u)) hK hP hD hS hA (va_runV (As := []) (rest := []) F (m_leave l D T h0 ar S2  H.size ⟨i_size, i_taken, i_vals, i_room, i_dicts, i_deep, i_open, i_cells, i_points, i_part, i_length, i_knows, i_page, i_text, i_pats, i_fuel, i_fr, i_ink⟩ (show 0 < (f_frames S2).toInt by omega)) (j_cV (k := 0) (C := "PageScribeModel") hts k_8_75 k_1_12 k_8_72 k_8_74 k_0_133 (by decide +kernel) ⟨Nat.le_of_ble_eq_true rfl, Nat.le_of_ble_eq_true rfl⟩) (jm_pre hK hP hD) rfl rfl hl.1 rfl (lv_room (Nat.le_of_ble_eq_true rfl)) d_Mo_caught_41 ⟨Nat.le_of_ble_eq_true rfl, Nat.le_of_ble_eq_true rfl⟩) (fun S5 H locs hw3 hP hD hS => ?_)
        have hP : va_P D classes (mW T h0 ar S5) H := hP
        have hD : va_D A (mW T h0 ar S5) := hD
        obtain ⟨⟨i_size, i_taken, i_vals, i_room, i_dicts, i_deep, i_open, i_cells, i_points, i_part, i_length, i_knows, i_page, i_text, i_pats, i_fuel, i_fr, i_ink⟩, kpA_S5, qqhw3⟩ := hw3
        have kSA_S5 : kA S S5 := kA_t (show kA S S2 from klA_S2) kpA_S5
        have kST_S5 : kT S S5 := kT_t (show kT S S2 from (kT_A klA_S2)) (kT_A kpA_S5)
        have kSR_S5 : kR S S5 := kR_t (show kR S S2 from (kR_A klA_S2)) (kR_A kpA_S5)
        have kSC_S5 : kC S S5 := kC_t (show kC S S2 from (kC_A klA_S2)) (kC_A kpA_S5)
        have nsteps_S5 : (f_steps S5).toInt = (f_steps S2).toInt := congrArg Int32.toInt kpA_S5.2.2.2.2.1
        have nfuel_S5 : (f_fuel S5).toInt = (f_fuel S2).toInt := congrArg Int32.toInt kpA_S5.2.2.2.1
        have nlevel_S5 : (f_level S5).toInt = (f_level S2).toInt := congrArg Int32.toInt kpA_S5.2.2.2.2.2.2.1
        have npending_S5 : (f_pending S5).toInt = (f_pending S2).toInt := congrArg Int32.toInt kpA_S5.2.2.2.2.2.1
        have nlength_S5 : (f_length S5).toInt = (f_length S2).toInt := congrArg Int32.toInt kpA_S5.1
        have nat_S5 : (f_at S5).toInt = (f_at S2).toInt := congrArg Int32.toInt kpA_S5.2.1
        have qhw3 : (f_frames S5).toInt = (f_frames S2).toInt - 1 ∧ (a_what S5) = (a_what S2) ∧ (f_size S5) = (f_size S2) ∧ (a_kinds S5) = (a_kinds S2) ∧ (a_codes S5) = (a_codes S2) := qqhw3
        refine lv_goto (tgt := 11) hx hb d_Mo_caught_44 (by decide) ?_
        exact ih2 (k2 - 1) S5 _ _ _ (by omega) ⟨(show (f_frames S5).toInt ≤ (((k2 - 1) : Nat) : Int) ∧ (f_frames S5).toInt ≤ (f_frames S1).toInt ∧ (f_frames S5).toInt ≤ (f_frames S).toInt by omega), ⟨i_size, i_taken, i_vals, i_room, i_dicts, i_deep, i_open, i_cells, i_points, i_part, i_length, i_knows, i_page, i_text, i_pats, i_fuel, i_fr, i_ink⟩, (show kA S S5 from kSA_S5), hP, hD, hS, lv_sub hl [0, 1, 2] rfl⟩
      · have fc21_1 : ¬ f.toInt = 16 := zt_ne (show f.toInt = _ from rfl) tI_16 c21_1
        refine lv_aload_n hx hb d_Mo_caught_24 rfl (lv_at hl 1 rfl) ?_
        refine va_get (D := D) (ci := 11) (v := .ref (ar 9)) (C := "PageScribeModel") (T := F_Mo) (N := 45) hx hb hts i_Mo hown hK hP 0 mW_0 cl_11 17 (by decide) (hts _ k_6_177) (fun _ h9 => h9) (mg_what _ _) d_Mo_caught_25 ?_
        refine lv_aload_n hx hb d_Mo_caught_28 rfl (lv_at hl 1 rfl) ?_
        refine va_get (D := D) (ci := 11) (v := .int (f_frames S2)) (C := "PageScribeModel") (T := F_Mo) (N := 45) hx hb hts i_Mo hown hK hP 0 mW_0 cl_11 15 (by decide) (hts _ k_6_175) (fun _ h9 => h9) (mg_frames _ _) d_Mo_caught_29 ?_
        refine lv_iconst (v := 1) hx hb d_Mo_caught_32 (by decide) ?_
        refine lv_isub hx hb d_Mo_caught_33 ?_
        refine lv_topi (fun x1 ex1 => ?_)
        have fx1 : x1.toInt = ((f_frames S2).toInt - 1) := by rw [ex1]; exact (zt_sub (show (f_frames S2).toInt = _ from rfl) tI_1 (by omega) (by omega)).trans (by omega)
        refine va_iald hx hb hK hP 10 0 (ma_what _ _ _ _) rfl (zt_in fx1 (by omega) (by omega)) d_Mo_caught_34 ?_
        refine lv_topi (fun x2 ex2 => ?_)
        have gx2 : x2 = (a_what S2) ((f_frames S2).toInt - 1).toNat := ex2.trans (congrArg _ (zt_ix fx1))
        have fx2 : x2.toInt = ((a_what S2) ((f_frames S2).toInt - 1).toNat).toInt := by rw [gx2]
        refine lv_bipush (v := 7) hx hb d_Mo_caught_35 (by decide) ?_
        refine lv_icmp_eq (tgt := 47) hx hb d_Mo_caught_37 (by decide) (fun c37_1 => ?_) (fun c37_1 => ?_)
        · have fc37_1 : x2.toInt = 7 := zt_eq (show x2.toInt = _ from rfl) tI_7 c37_1
          refine lv_aload_n hx hb d_Mo_caught_47 rfl (lv_at hl 1 rfl) ?_
          refine va_get (D := D) (ci := 11) (v := .int (f_frames S2)) (C := "PageScribeModel") (T := F_Mo) (N := 45) hx hb hts i_Mo hown hK hP 0 mW_0 cl_11 15 (by decide) (hts _ k_6_175) (fun _ h9 => h9) (mg_frames _ _) d_Mo_caught_48 ?_
          refine lv_if_ne (tgt := 56) hx hb d_Mo_caught_51 (by decide) (fun c51_2 => ?_) (fun c51_2 => ?_)
          · first | have fc51_2 : (f_frames S2).toInt < 0 := (by have := zt_ne (show (f_frames S2).toInt = _ from rfl) tI_0 c51_2; omega) | have fc51_2 : 0 < (f_frames S2).toInt := (by have := zt_ne (show (f_frames S2).toInt = _ from rfl) tI_0 c51_2; omega) | skip
            refine lv_aload_n hx hb d_Mo_caught_56 rfl (lv_at hl 1 rfl) ?_
            refine jm_cv (w := (fun u => u)) hK hP hD hS hA (va_runV (As := []) (rest := []) F (m_leave l D T h0 ar S2  H.size ⟨i_size, i_taken, i_vals, i_room, i_dicts, i_deep, i_open, i_cells, i_points, i_part, i_length, i_knows, i_page, i_text, i_pats, i_fuel, i_fr, i_ink⟩ (show 0 < (f_frames S2).toInt by omega)) (j_cV (k := 0) (C := "PageScribeModel") hts k_8_75 k_1_12 k_8_72 k_8_74 k_0_133 (by decide +kernel) ⟨Nat.le_of_ble_eq_true rfl, Nat.le_of_ble_eq_true rfl⟩) (jm_pre hK hP hD) rfl rfl hl.1 rfl (lv_room (Nat.le_of_ble_eq_true rfl)) d_Mo_caught_57 ⟨Nat.le_of_ble_eq_true rfl, Nat.le_of_ble_eq_true rfl⟩) (fun S6 H locs hw4 hP hD hS => ?_)
            have hP : va_P D classes (mW T h0 ar S6) H := hP
            have hD : va_D A (mW T h0 ar S6) := hD
            obtain ⟨⟨i_size, i_taken, i_vals, i_room, i_dicts, i_deep, i_open, i_cells, i_points, i_part, i_length, i_knows, i_page, i_text, i_pats, i_fuel, i_fr, i_ink⟩, kpA_S6, qqhw4⟩ := hw4
            have kSA_S6 : kA S S6 := kA_t (show kA S S2 from klA_S2) kpA_S6
            have kST_S6 : kT S S6 := kT_t (show kT S S2 from (kT_A klA_S2)) (kT_A kpA_S6)
            have kSR_S6 : kR S S6 := kR_t (show kR S S2 from (kR_A klA_S2)) (kR_A kpA_S6)
            have kSC_S6 : kC S S6 := kC_t (show kC S S2 from (kC_A klA_S2)) (kC_A kpA_S6)
            have nsteps_S6 : (f_steps S6).toInt = (f_steps S2).toInt := congrArg Int32.toInt kpA_S6.2.2.2.2.1
            have nfuel_S6 : (f_fuel S6).toInt = (f_fuel S2).toInt := congrArg Int32.toInt kpA_S6.2.2.2.1
            have nlevel_S6 : (f_level S6).toInt = (f_level S2).toInt := congrArg Int32.toInt kpA_S6.2.2.2.2.2.2.1
            have npending_S6 : (f_pending S6).toInt = (f_pending S2).toInt := congrArg Int32.toInt kpA_S6.2.2.2.2.2.1
            have nlength_S6 : (f_length S6).toInt = (f_length S2).toInt := congrArg Int32.toInt kpA_S6.1
            have nat_S6 : (f_at S6).toInt = (f_at S2).toInt := congrArg Int32.toInt kpA_S6.2.1
            have qhw4 : (f_frames S6).toInt = (f_frames S2).toInt - 1 ∧ (a_what S6) = (a_what S2) ∧ (f_size S6) = (f_size S2) ∧ (a_kinds S6) = (a_kinds S2) ∧ (a_codes S6) = (a_codes S2) := qqhw4
            refine lv_aload_n hx hb d_Mo_caught_60 rfl (lv_at hl 1 rfl) ?_
            refine lv_iconst (v := 2) hx hb d_Mo_caught_61 (by decide) ?_
            refine lv_lconst (v := 1) hx hb d_Mo_caught_62 (by decide) ?_
            refine jm_ci (w := (fun u => u)) hK hP hD hS hA (va_runV (As := [.int 2, .long 1]) (rest := []) F (m_push l D T h0 ar S6 (2 : Int32) (1 : Int64) H.size ⟨i_size, i_taken, i_vals, i_room, i_dicts, i_deep, i_open, i_cells, i_points, i_part, i_length, i_knows, i_page, i_text, i_pats, i_fuel, i_fr, i_ink⟩ (vO_of 2 tI_2 (by decide))) (j_cV (k := 2) (C := "PageScribeModel") hts k_7_191 k_1_12 k_7_188 k_7_190 k_0_106 (by decide +kernel) ⟨Nat.le_of_ble_eq_true rfl, Nat.le_of_ble_eq_true rfl⟩) (jm_pre hK hP hD) rfl rfl hl.1 rfl (lv_room (Nat.le_of_ble_eq_true rfl)) d_Mo_caught_63 ⟨Nat.le_of_ble_eq_true rfl, Nat.le_of_ble_eq_true rfl⟩) (fun rv5 S7 H locs hw5 hP hD hS => ?_)
            have hP : va_P D classes (mW T h0 ar S7) H := hP
            have hD : va_D A (mW T h0 ar S7) := hD
            obtain ⟨⟨i_size, i_taken, i_vals, i_room, i_dicts, i_deep, i_open, i_cells, i_points, i_part, i_length, i_knows, i_page, i_text, i_pats, i_fuel, i_fr, i_ink⟩, kpA_S7, kpF_S7, qqhw5⟩ := hw5
            have kSA_S7 : kA S S7 := kA_t (show kA S S6 from kSA_S6) kpA_S7
            have kST_S7 : kT S S7 := kT_t (show kT S S6 from kST_S6) (kT_A kpA_S7)
            have kSR_S7 : kR S S7 := kR_t (show kR S S6 from kSR_S6) (kR_A kpA_S7)
            have kSC_S7 : kC S S7 := kC_t (show kC S S6 from kSC_S6) (kC_A kpA_S7)
            have nframes_S7 : (f_frames S7).toInt = (f_frames S6).toInt := congrArg Int32.toInt kpF_S7.1
            have nunder_S7 : (f_under S7).toInt = (f_under S6).toInt := congrArg Int32.toInt kpF_S7.2.1
            have nsteps_S7 : (f_steps S7).toInt = (f_steps S6).toInt := congrArg Int32.toInt kpA_S7.2.2.2.2.1
            have nfuel_S7 : (f_fuel S7).toInt = (f_fuel S6).toInt := congrArg Int32.toInt kpA_S7.2.2.2.1
            have nlevel_S7 : (f_level S7).toInt = (f_level S6).toInt := congrArg Int32.toInt kpA_S7.2.2.2.2.2.2.1
            have npending_S7 : (f_pending S7).toInt = (f_pending S6).toInt := congrArg Int32.toInt kpA_S7.2.2.2.2.2.1
            have nlength_S7 : (f_length S7).toInt = (f_length S6).toInt := congrArg Int32.toInt kpA_S7.1
            have nat_S7 : (f_at S7).toInt = (f_at S6).toInt := congrArg Int32.toInt kpA_S7.2.1
            have qhw5 : rv5.toInt = 0 ∨ rv5.toInt = 2 := by simpa only [tI_2, tJ_1] using qqhw5
            refine lv_istore_n (lv' := [(2, .int rv5), (0, .ref h0), (1, .int p0)]) hx hb d_Mo_caught_66 rfl hl (by decide) rfl (fun ls hl => ?_)
            refine lv_goto (tgt := 2) hx hb d_Mo_caught_67 (by decide) ?_
            exact ih (k - 1) (S7, rv5) _ _ _ (by omega) ⟨(show -1 ≤ rv5.toInt ∧ rv5.toInt ≤ 16 ∧ (f_frames S7).toInt ≤ (((k - 1) : Nat) : Int) ∧ (f_frames S7).toInt ≤ (f_frames S).toInt ∧ (p0.toInt = 16 → rv5.toInt = 16) ∧ (p0.toInt = 0 → rv5.toInt = 0) by omega), ⟨i_size, i_taken, i_vals, i_room, i_dicts, i_deep, i_open, i_cells, i_points, i_part, i_length, i_knows, i_page, i_text, i_pats, i_fuel, i_fr, i_ink⟩, (show kA S S7 from kSA_S7), hP, hD, hS, lv_sub hl [0, 1, 2] rfl⟩
          · have fc51_2 : (f_frames S2).toInt = 0 := zt_eq (show (f_frames S2).toInt = _ from rfl) tI_0 c51_2
            refine lv_iload_n hx hb d_Mo_caught_54 rfl (lv_at hl 0 rfl) ?_
            exact j_iret F hr hlocks hK hS S2 ⟨⟨i_size, i_taken, i_vals, i_room, i_dicts, i_deep, i_open, i_cells, i_points, i_part, i_length, i_knows, i_page, i_text, i_pats, i_fuel, i_fr, i_ink⟩, klA_S2, (show (f.toInt = 0 ∨ (f_frames S2).toInt = 0) ∧ -1 ≤ f.toInt ∧ f.toInt ≤ 16 ∧ (f_frames S2).toInt ≤ (f_frames S).toInt ∧ (p0.toInt = 16 → (f_frames S2).toInt = 0) ∧ (p0.toInt = 0 → f.toInt = 0) by omega)⟩ hP hD d_Mo_caught_55
        · first | have fc37_1 : x2.toInt < 7 := (by have := zt_ne (show x2.toInt = _ from rfl) tI_7 c37_1; omega) | have fc37_1 : 7 < x2.toInt := (by have := zt_ne (show x2.toInt = _ from rfl) tI_7 c37_1; omega) | skip
          refine lv_aload_n hx hb d_Mo_caught_40 rfl (lv_at hl 1 rfl) ?_
          refine jm_cv (w := (fun u => u)) hK hP hD hS hA (va_runV (As := []) (rest := []) F (m_leave l D T h0 ar S2  H.size ⟨i_size, i_taken, i_vals, i_room, i_dicts, i_deep, i_open, i_cells, i_points, i_part, i_length, i_knows, i_page, i_text, i_pats, i_fuel, i_fr, i_ink⟩ (show 0 < (f_frames S2).toInt by omega)) (j_cV (k := 0) (C := "PageScribeModel") hts k_8_75 k_1_12 k_8_72 k_8_74 k_0_133 (by decide +kernel) ⟨Nat.le_of_ble_eq_true rfl, Nat.le_of_ble_eq_true rfl⟩) (jm_pre hK hP hD) rfl rfl hl.1 rfl (lv_room (Nat.le_of_ble_eq_true rfl)) d_Mo_caught_41 ⟨Nat.le_of_ble_eq_true rfl, Nat.le_of_ble_eq_true rfl⟩) (fun S8 H locs hw6 hP hD hS => ?_)
          have hP : va_P D classes (mW T h0 ar S8) H := hP
          have hD : va_D A (mW T h0 ar S8) := hD
          obtain ⟨⟨i_size, i_taken, i_vals, i_room, i_dicts, i_deep, i_open, i_cells, i_points, i_part, i_length, i_knows, i_page, i_text, i_pats, i_fuel, i_fr, i_ink⟩, kpA_S8, qqhw6⟩ := hw6
          have kSA_S8 : kA S S8 := kA_t (show kA S S2 from klA_S2) kpA_S8
          have kST_S8 : kT S S8 := kT_t (show kT S S2 from (kT_A klA_S2)) (kT_A kpA_S8)
          have kSR_S8 : kR S S8 := kR_t (show kR S S2 from (kR_A klA_S2)) (kR_A kpA_S8)
          have kSC_S8 : kC S S8 := kC_t (show kC S S2 from (kC_A klA_S2)) (kC_A kpA_S8)
          have nsteps_S8 : (f_steps S8).toInt = (f_steps S2).toInt := congrArg Int32.toInt kpA_S8.2.2.2.2.1
          have nfuel_S8 : (f_fuel S8).toInt = (f_fuel S2).toInt := congrArg Int32.toInt kpA_S8.2.2.2.1
          have nlevel_S8 : (f_level S8).toInt = (f_level S2).toInt := congrArg Int32.toInt kpA_S8.2.2.2.2.2.2.1
          have npending_S8 : (f_pending S8).toInt = (f_pending S2).toInt := congrArg Int32.toInt kpA_S8.2.2.2.2.2.1
          have nlength_S8 : (f_length S8).toInt = (f_length S2).toInt := congrArg Int32.toInt kpA_S8.1
          have nat_S8 : (f_at S8).toInt = (f_at S2).toInt := congrArg Int32.toInt kpA_S8.2.1
          have qhw6 : (f_frames S8).toInt = (f_frames S2).toInt - 1 ∧ (a_what S8) = (a_what S2) ∧ (f_size S8) = (f_size S2) ∧ (a_kinds S8) = (a_kinds S2) ∧ (a_codes S8) = (a_codes S2) := qqhw6
          refine lv_goto (tgt := 11) hx hb d_Mo_caught_44 (by decide) ?_
          exact ih2 (k2 - 1) S8 _ _ _ (by omega) ⟨(show (f_frames S8).toInt ≤ (((k2 - 1) : Nat) : Int) ∧ (f_frames S8).toInt ≤ (f_frames S1).toInt ∧ (f_frames S8).toInt ≤ (f_frames S).toInt by omega), ⟨i_size, i_taken, i_vals, i_room, i_dicts, i_deep, i_open, i_cells, i_points, i_part, i_length, i_knows, i_page, i_text, i_pats, i_fuel, i_fr, i_ink⟩, (show kA S S8 from kSA_S8), hP, hD, hS, lv_sub hl [0, 1, 2] rfl⟩
