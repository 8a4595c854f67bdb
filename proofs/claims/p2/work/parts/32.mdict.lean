theorem d_Mo_putEntry_0 : decode prog_15_method_61_code 0 = .ok (.aload_n 0, 1) := by decide +kernel
theorem d_Mo_putEntry_1 : decode prog_15_method_61_code 1 = .ok (.iload_n 1, 1) := by decide +kernel
theorem d_Mo_putEntry_2 : decode prog_15_method_61_code 2 = .ok (.lload_n 2, 1) := by decide +kernel
theorem d_Mo_putEntry_3 : decode prog_15_method_61_code 3 = .ok (.invokevirtual 362, 3) := by decide +kernel
theorem d_Mo_putEntry_6 : decode prog_15_method_61_code 6 = .ok (.istore 5, 2) := by decide +kernel
theorem d_Mo_putEntry_8 : decode prog_15_method_61_code 8 = .ok (.iload 5, 2) := by decide +kernel
theorem d_Mo_putEntry_10 : decode prog_15_method_61_code 10 = .ok (.iconst (-1), 1) := by decide +kernel
theorem d_Mo_putEntry_11 : decode prog_15_method_61_code 11 = .ok (.if_icmp .ne 21, 3) := by decide +kernel
theorem d_Mo_putEntry_32 : decode prog_15_method_61_code 32 = .ok (.iload 5, 2) := by decide +kernel
theorem d_Mo_putEntry_34 : decode prog_15_method_61_code 34 = .ok (.iconst (-1), 1) := by decide +kernel
theorem d_Mo_putEntry_35 : decode prog_15_method_61_code 35 = .ok (.if_icmp .ne 42, 3) := by decide +kernel
theorem d_Mo_putEntry_77 : decode prog_15_method_61_code 77 = .ok (.aload_n 0, 1) := by decide +kernel
theorem d_Mo_putEntry_78 : decode prog_15_method_61_code 78 = .ok (.iload 5, 2) := by decide +kernel
theorem d_Mo_putEntry_80 : decode prog_15_method_61_code 80 = .ok (.aload_n 0, 1) := by decide +kernel
theorem d_Mo_putEntry_81 : decode prog_15_method_61_code 81 = .ok (.getfield 247, 3) := by decide +kernel
theorem d_Mo_putEntry_84 : decode prog_15_method_61_code 84 = .ok (.iconst 1, 1) := by decide +kernel
theorem d_Mo_putEntry_85 : decode prog_15_method_61_code 85 = .ok (.isub, 1) := by decide +kernel
theorem d_Mo_putEntry_86 : decode prog_15_method_61_code 86 = .ok (.invokevirtual 254, 3) := by decide +kernel
theorem d_Mo_putEntry_89 : decode prog_15_method_61_code 89 = .ok (.aload_n 0, 1) := by decide +kernel
theorem d_Mo_putEntry_90 : decode prog_15_method_61_code 90 = .ok (.dup, 1) := by decide +kernel
theorem d_Mo_putEntry_91 : decode prog_15_method_61_code 91 = .ok (.getfield 247, 3) := by decide +kernel
theorem d_Mo_putEntry_94 : decode prog_15_method_61_code 94 = .ok (.iload 4, 2) := by decide +kernel
theorem d_Mo_putEntry_96 : decode prog_15_method_61_code 96 = .ok (.isub, 1) := by decide +kernel
theorem d_Mo_putEntry_97 : decode prog_15_method_61_code 97 = .ok (.putfield 247, 3) := by decide +kernel
theorem d_Mo_putEntry_100 : decode prog_15_method_61_code 100 = .ok (.iconst 0, 1) := by decide +kernel
theorem d_Mo_putEntry_101 : decode prog_15_method_61_code 101 = .ok (.ireturn, 1) := by decide +kernel
theorem d_Mo_putEntry_38 : decode prog_15_method_61_code 38 = .ok (.sipush 250, 3) := by decide +kernel
theorem d_Mo_putEntry_41 : decode prog_15_method_61_code 41 = .ok (.iload_n 1, 1) := by decide +kernel
theorem d_Mo_putEntry_42 : decode prog_15_method_61_code 42 = .ok (.invokestatic 516, 3) := by decide +kernel
theorem d_Mo_putEntry_45 : decode prog_15_method_61_code 45 = .ok (.iadd, 1) := by decide +kernel
theorem d_Mo_putEntry_46 : decode prog_15_method_61_code 46 = .ok (.aload_n 0, 1) := by decide +kernel
theorem d_Mo_putEntry_47 : decode prog_15_method_61_code 47 = .ok (.getfield 24, 3) := by decide +kernel
theorem d_Mo_putEntry_50 : decode prog_15_method_61_code 50 = .ok (.iload_n 1, 1) := by decide +kernel
theorem d_Mo_putEntry_51 : decode prog_15_method_61_code 51 = .ok (.iaload, 1) := by decide +kernel
theorem d_Mo_putEntry_52 : decode prog_15_method_61_code 52 = .ok (.iadd, 1) := by decide +kernel
theorem d_Mo_putEntry_53 : decode prog_15_method_61_code 53 = .ok (.istore 5, 2) := by decide +kernel
theorem d_Mo_putEntry_55 : decode prog_15_method_61_code 55 = .ok (.aload_n 0, 1) := by decide +kernel
theorem d_Mo_putEntry_56 : decode prog_15_method_61_code 56 = .ok (.getfield 21, 3) := by decide +kernel
theorem d_Mo_putEntry_59 : decode prog_15_method_61_code 59 = .ok (.iload 5, 2) := by decide +kernel
theorem d_Mo_putEntry_61 : decode prog_15_method_61_code 61 = .ok (.sipush 250, 3) := by decide +kernel
theorem d_Mo_putEntry_64 : decode prog_15_method_61_code 64 = .ok (.isub, 1) := by decide +kernel
theorem d_Mo_putEntry_65 : decode prog_15_method_61_code 65 = .ok (.lload_n 2, 1) := by decide +kernel
theorem d_Mo_putEntry_66 : decode prog_15_method_61_code 66 = .ok (.lastore, 1) := by decide +kernel
theorem d_Mo_putEntry_67 : decode prog_15_method_61_code 67 = .ok (.aload_n 0, 1) := by decide +kernel
theorem d_Mo_putEntry_68 : decode prog_15_method_61_code 68 = .ok (.getfield 24, 3) := by decide +kernel
theorem d_Mo_putEntry_71 : decode prog_15_method_61_code 71 = .ok (.iload_n 1, 1) := by decide +kernel
theorem d_Mo_putEntry_72 : decode prog_15_method_61_code 72 = .ok (.dup2, 1) := by decide +kernel
theorem d_Mo_putEntry_73 : decode prog_15_method_61_code 73 = .ok (.iaload, 1) := by decide +kernel
theorem d_Mo_putEntry_74 : decode prog_15_method_61_code 74 = .ok (.iconst 1, 1) := by decide +kernel
theorem d_Mo_putEntry_75 : decode prog_15_method_61_code 75 = .ok (.iadd, 1) := by decide +kernel
theorem d_Mo_putEntry_76 : decode prog_15_method_61_code 76 = .ok (.iastore, 1) := by decide +kernel
theorem d_Mo_putEntry_14 : decode prog_15_method_61_code 14 = .ok (.aload_n 0, 1) := by decide +kernel
theorem d_Mo_putEntry_15 : decode prog_15_method_61_code 15 = .ok (.getfield 24, 3) := by decide +kernel
theorem d_Mo_putEntry_18 : decode prog_15_method_61_code 18 = .ok (.iload_n 1, 1) := by decide +kernel
theorem d_Mo_putEntry_19 : decode prog_15_method_61_code 19 = .ok (.iaload, 1) := by decide +kernel
theorem d_Mo_putEntry_20 : decode prog_15_method_61_code 20 = .ok (.aload_n 0, 1) := by decide +kernel
theorem k_6_168 : Cond.fieldLink "PageScribeModel" 27 "PageScribeModel" "room" "[I" ∈ gw := gw_of (tb_6 (List.mem_of_getElem? (i := 168) (by decide +kernel))) (by decide +kernel)
theorem d_Mo_putEntry_21 : decode prog_15_method_61_code 21 = .ok (.getfield 27, 3) := by decide +kernel
theorem d_Mo_putEntry_24 : decode prog_15_method_61_code 24 = .ok (.iload_n 1, 1) := by decide +kernel
theorem d_Mo_putEntry_25 : decode prog_15_method_61_code 25 = .ok (.iaload, 1) := by decide +kernel
theorem d_Mo_putEntry_26 : decode prog_15_method_61_code 26 = .ok (.if_icmp .ne 6, 3) := by decide +kernel
theorem d_Mo_putEntry_29 : decode prog_15_method_61_code 29 = .ok (.bipush 8, 2) := by decide +kernel
theorem d_Mo_putEntry_31 : decode prog_15_method_61_code 31 = .ok (.ireturn, 1) := by decide +kernel
set_option maxHeartbeats 4000000 in
set_option maxRecDepth 100000 in
theorem m_putEntry (l : Launch) (D : va_G) (T : Nat → ClassId) (h0 : Nat) (ar : Nat → Nat) (S : MS) (p0 : Int32) (v0 : Int64) (p1 : Int32) (sz : Nat) (hI : MI S) (h1 : 0 ≤ p0.toInt ∧ p0.toInt ≤ 6) (h3 : 2 ≤ p1.toInt ∧ p1.toInt ≤ 3 ∧ p1.toInt ≤ (f_size S).toInt) : Met l ⟨"PageScribeModel", "putEntry", "(IJI)I"⟩ (wy ⟨"PageScribeModel", "putEntry", "(IJI)I"⟩ prog_15_method_61_code 6 (some .int)) ({ frames := 2, cells := 0, slots := 0, locals := 140 }) (va_Pc [.ref h0, .int p0, .long v0, .int p1] (Pw D T (mW T h0 ar S) sz E0)) (va_Qi (fun (r : Int32) (u : MS) => MI u ∧ kA S u ∧ kF S u ∧ (r.toInt = 0 ∨ r.toInt = 8)) (fun u t => Bw D T (va_A (mW T h0 ar S) sz) (mW T h0 ar u) t) (va_A (mW T h0 ar S) sz)) 0 0 (va_A (mW T h0 ar S) sz) := by
  refine j_met (y := ⟨"PageScribeModel", "putEntry", "(IJI)I"⟩) (b := prog_15_method_61_code) (n := 6) (ret := (some .int)) (av := [.ref h0, .int p0, .long v0, .int p1]) (Qc := fun A => va_Qi (fun (r : Int32) (u : MS) => MI u ∧ kA S u ∧ kF S u ∧ (r.toInt = 0 ∨ r.toInt = 8)) (fun u t => Bw D T A (mW T h0 ar u) t) A) (by decide +kernel) (Nat.le_of_ble_eq_true rfl) (fun p e s m args below meth c A ls F hr hlocks hnm hK hP hD hS hA hN hE hl => ?_)
  obtain ⟨hx, hb, hml, hown, hts⟩ := id F
  have hl : lv_has ls 6 [(0, .ref h0), (1, .int p0), (2, .long v0), (4, .int p1)] := hl
  obtain ⟨i_size, i_taken, i_vals, i_room, i_dicts, i_deep, i_open, i_cells, i_points, i_part, i_length, i_knows, i_page, i_text, i_pats, i_fuel, i_fr, i_ink⟩ := id hI
  refine lv_aload_n hx hb d_Mo_putEntry_0 rfl (lv_at hl 0 rfl) ?_
  refine lv_iload_n hx hb d_Mo_putEntry_1 rfl (lv_at hl 1 rfl) ?_
  refine lv_lload_n hx hb d_Mo_putEntry_2 rfl (lv_at hl 2 rfl) ?_
  refine jm_ci (w := (fun _ => S)) hK hP hD hS hA (va_runV (As := [.int p0, .long v0]) (rest := []) F (m_entry l D T h0 ar S p0 v0 s.heap.size ⟨i_size, i_taken, i_vals, i_room, i_dicts, i_deep, i_open, i_cells, i_points, i_part, i_length, i_knows, i_page, i_text, i_pats, i_fuel, i_fr, i_ink⟩ (show 0 ≤ p0.toInt ∧ p0.toInt ≤ 6 by omega)) (j_cV (k := 2) (C := "PageScribeModel") hts k_7_147 k_1_12 k_7_144 k_7_146 k_0_96 (by decide +kernel) ⟨Nat.le_of_ble_eq_true rfl, Nat.le_of_ble_eq_true rfl⟩) (jm_pre hK hP hD) rfl rfl hl.1 rfl (lv_room (Nat.le_of_ble_eq_true rfl)) d_Mo_putEntry_3 ⟨Nat.le_of_ble_eq_true rfl, Nat.le_of_ble_eq_true rfl⟩) (fun rv1 u1 H locs hw1 hP hD hS => ?_)
  have hP : va_P D classes (mW T h0 ar S) H := hP
  have hD : va_D A (mW T h0 ar S) := hD
  have qhw1 : rv1.toInt = -1 ∨ (250 ≤ rv1.toInt ∧ rv1.toInt ≤ 329) := hw1
  refine lv_istore (lv' := [(5, .int rv1), (0, .ref h0), (1, .int p0), (2, .long v0), (4, .int p1)]) hx hb d_Mo_putEntry_6 hl (by decide) rfl (fun ls hl => ?_)
  refine lv_iload hx hb d_Mo_putEntry_8 (lv_at hl 0 rfl) ?_
  refine lv_iconst (v := (-1)) hx hb d_Mo_putEntry_10 (by decide) ?_
  refine lv_icmp_ne (tgt := 32) hx hb d_Mo_putEntry_11 (by decide) (fun c11_1 => ?_) (fun c11_1 => ?_)
  · first | have fc11_1 : rv1.toInt < (-1) := (by have := zt_ne (show rv1.toInt = _ from rfl) tI_m1 c11_1; omega) | have fc11_1 : (-1) < rv1.toInt := (by have := zt_ne (show rv1.toInt = _ from rfl) tI_m1 c11_1; omega) | skip
    refine lv_iload hx hb d_Mo_putEntry_32 (lv_at hl 0 rfl) ?_
    refine lv_iconst (v := (-1)) hx hb d_Mo_putEntry_34 (by decide) ?_
    refine lv_icmp_ne (tgt := 77) hx hb d_Mo_putEntry_35 (by decide) (fun c35_1 => ?_) (fun c35_1 => ?_)
    · first | have fc35_1 : rv1.toInt < (-1) := (by have := zt_ne (show rv1.toInt = _ from rfl) tI_m1 c35_1; omega) | have fc35_1 : (-1) < rv1.toInt := (by have := zt_ne (show rv1.toInt = _ from rfl) tI_m1 c35_1; omega) | skip
      refine lv_aload_n hx hb d_Mo_putEntry_77 rfl (lv_at hl 1 rfl) ?_
      refine lv_iload hx hb d_Mo_putEntry_78 (lv_at hl 0 rfl) ?_
      refine lv_aload_n hx hb d_Mo_putEntry_80 rfl (lv_at hl 1 rfl) ?_
      refine va_get (D := D) (ci := 11) (v := .int (f_size S)) (C := "PageScribeModel") (T := F_Mo) (N := 45) hx hb hts i_Mo hown hK hP 0 mW_0 cl_11 4 (by decide) (hts _ k_6_164) (fun _ h9 => h9) (mg_size _ _) d_Mo_putEntry_81 ?_
      refine lv_iconst (v := 1) hx hb d_Mo_putEntry_84 (by decide) ?_
      refine lv_isub hx hb d_Mo_putEntry_85 ?_
      refine lv_topi (fun x1 ex1 => ?_)
      have fx1 : x1.toInt = ((f_size S).toInt - 1) := by rw [ex1]; exact (zt_sub (show (f_size S).toInt = _ from rfl) tI_1 (by omega) (by omega)).trans (by omega)
      refine jm_cv (w := (fun u => u)) hK hP hD hS hA (va_runV (As := [.int rv1, .int x1]) (rest := []) F (m_move l D T h0 ar S rv1 x1 H.size (show 0 ≤ rv1.toInt ∧ rv1.toInt < 1300 by first | omega | (simp only [fx1]; omega)) (show 0 ≤ x1.toInt ∧ x1.toInt < 1300 by first | omega | (simp only [fx1]; omega))) (j_cV (k := 2) (C := "PageScribeModel") hts k_7_76 k_1_12 k_7_73 k_7_75 k_0_82 (by decide +kernel) ⟨Nat.le_of_ble_eq_true rfl, Nat.le_of_ble_eq_true rfl⟩) (jm_pre hK hP hD) rfl rfl hl.1 rfl (lv_room (Nat.le_of_ble_eq_true rfl)) d_Mo_putEntry_86 ⟨Nat.le_of_ble_eq_true rfl, Nat.le_of_ble_eq_true rfl⟩) (fun S1 H locs hw2 hP hD hS => ?_)
      try simp only [fx1] at hw2
      obtain rfl := hw2
      have hP : va_P D classes (mW T h0 ar ((((f_thrown S), (upd (a_kinds S) (rv1.toInt.toNat) ((a_kinds S) (((f_size S).toInt - 1).toNat))), (vp_updL (a_codes S) (rv1.toInt.toNat) ((a_codes S) (((f_size S).toInt - 1).toNat))), (vf_upd (a_reals S) (rv1.toInt.toNat) ((a_reals S) (((f_size S).toInt - 1).toNat))), (f_size S), (f_taken S), (a_words S), (a_many S)), S.2.1, S.2.2.1, S.2.2.2.1, S.2.2.2.2.1, S.2.2.2.2.2) : MS)) H := hP
      have hD : va_D A (mW T h0 ar ((((f_thrown S), (upd (a_kinds S) (rv1.toInt.toNat) ((a_kinds S) (((f_size S).toInt - 1).toNat))), (vp_updL (a_codes S) (rv1.toInt.toNat) ((a_codes S) (((f_size S).toInt - 1).toNat))), (vf_upd (a_reals S) (rv1.toInt.toNat) ((a_reals S) (((f_size S).toInt - 1).toNat))), (f_size S), (f_taken S), (a_words S), (a_many S)), S.2.1, S.2.2.1, S.2.2.2.1, S.2.2.2.2.1, S.2.2.2.2.2) : MS)) := hD
      have i_vals : ∀ k, k < 1300 → vOk ((upd (a_kinds S) (rv1.toInt.toNat) ((a_kinds S) (((f_size S).toInt - 1).toNat))) k) ((vp_updL (a_codes S) (rv1.toInt.toNat) ((a_codes S) (((f_size S).toInt - 1).toNat))) k) ((vf_upd (a_reals S) (rv1.toInt.toNat) ((a_reals S) (((f_size S).toInt - 1).toNat))) k) := vOk_upd i_vals (i_vals (((f_size S).toInt - 1).toNat) (by omega))
      have fa1 : ((upd (a_kinds S) (rv1.toInt.toNat) ((a_kinds S) (((f_size S).toInt - 1).toNat))) (rv1.toInt.toNat)).toInt = ((a_kinds S) (((f_size S).toInt - 1).toNat)).toInt := congrArg Int32.toInt upd_s
      have fa2 : ((vp_updL (a_codes S) (rv1.toInt.toNat) ((a_codes S) (((f_size S).toInt - 1).toNat))) (rv1.toInt.toNat)).toInt = ((a_codes S) (((f_size S).toInt - 1).toNat)).toInt := congrArg Int64.toInt updL_s
      refine lv_aload_n hx hb d_Mo_putEntry_89 rfl (lv_at hl 1 rfl) ?_
      refine lv_dup hx hb d_Mo_putEntry_90 rfl ?_
      refine va_get (D := D) (ci := 11) (v := .int (f_size S)) (C := "PageScribeModel") (T := F_Mo) (N := 45) hx hb hts i_Mo hown hK hP 0 mW_0 cl_11 4 (by decide) (hts _ k_6_164) (fun _ h9 => h9) (mg_size _ _) d_Mo_putEntry_91 ?_
      refine lv_iload hx hb d_Mo_putEntry_94 (lv_at hl 4 rfl) ?_
      refine lv_isub hx hb d_Mo_putEntry_96 ?_
      refine lv_topi (fun x2 ex2 => ?_)
      have fx2 : x2.toInt = ((f_size S).toInt - p1.toInt) := by rw [ex2]; exact (zt_sub (show (f_size S).toInt = _ from rfl) (show p1.toInt = _ from rfl) (by omega) (by omega)).trans (by omega)
      refine va_put (D := D) (ci := 11) (v := .int x2) (ty := .int) (C := "PageScribeModel") (T := F_Mo) (N := 45) hx hb hts i_Mo t_Mo t_Mo_ok n_Mo hown hK hP hD hS 0 mW_0 cl_11 4 (by decide) (hts _ k_6_164) (fun _ h9 => h9) rfl (by decide +kernel) rfl rfl (Nat.le_of_ble_eq_true rfl) d_Mo_putEntry_97 (fun H locs hP hD hS => ?_)
      rw [mp_size] at hP hD
      have hP : va_P D classes (mW T h0 ar ((((f_thrown S), (upd (a_kinds S) (rv1.toInt.toNat) ((a_kinds S) (((f_size S).toInt - 1).toNat))), (vp_updL (a_codes S) (rv1.toInt.toNat) ((a_codes S) (((f_size S).toInt - 1).toNat))), (vf_upd (a_reals S) (rv1.toInt.toNat) ((a_reals S) (((f_size S).toInt - 1).toNat))), x2, (f_taken S), (a_words S), (a_many S)), S.2.1, S.2.2.1, S.2.2.2.1, S.2.2.2.2.1, S.2.2.2.2.2) : MS)) H := hP
      have hD : va_D A (mW T h0 ar ((((f_thrown S), (upd (a_kinds S) (rv1.toInt.toNat) ((a_kinds S) (((f_size S).toInt - 1).toNat))), (vp_updL (a_codes S) (rv1.toInt.toNat) ((a_codes S) (((f_size S).toInt - 1).toNat))), (vf_upd (a_reals S) (rv1.toInt.toNat) ((a_reals S) (((f_size S).toInt - 1).toNat))), x2, (f_taken S), (a_words S), (a_many S)), S.2.1, S.2.2.1, S.2.2.2.1, S.2.2.2.2.1, S.2.2.2.2.2) : MS)) := hD
      refine lv_iconst (v := 0) hx hb d_Mo_putEntry_100 (by decide) ?_
      exact j_iret F hr hlocks hK hS ((((f_thrown S), (upd (a_kinds S) (rv1.toInt.toNat) ((a_kinds S) (((f_size S).toInt - 1).toNat))), (vp_updL (a_codes S) (rv1.toInt.toNat) ((a_codes S) (((f_size S).toInt - 1).toNat))), (vf_upd (a_reals S) (rv1.toInt.toNat) ((a_reals S) (((f_size S).toInt - 1).toNat))), x2, (f_taken S), (a_words S), (a_many S)), S.2.1, S.2.2.1, S.2.2.2.1, S.2.2.2.2.1, S.2.2.2.2.2) : MS) ⟨⟨(show 0 ≤ x2.toInt ∧ x2.toInt ≤ 40 by omega), i_taken, i_vals, i_room, i_dicts, i_deep, i_open, i_cells, i_points, i_part, i_length, i_knows, i_page, i_text, i_pats, i_fuel, i_fr, i_ink⟩, (kA_r S), (kF_r S), (show (0 : Int32).toInt = 0 ∨ (0 : Int32).toInt = 8 by have := tI_0; omega)⟩ hP hD d_Mo_putEntry_101
    · have fc35_1 : rv1.toInt = (-1) := zt_eq (show rv1.toInt = _ from rfl) tI_m1 c35_1
      refine lv_sipush (v := 250) hx hb d_Mo_putEntry_38 (by decide) ?_
      refine lv_iload_n hx hb d_Mo_putEntry_41 rfl (lv_at hl 2 rfl) ?_
      refine j_ci (wc := []) (wr := (mW T h0 ar S)) hK hP hD hS hA [] isc rfl isc_all isc_nd (fun _ _ => List.not_mem_nil) (va_runS (As := [.int p0]) (rest := [.int 250]) F (m_base l D T p0 H.size (show 0 ≤ p0.toInt ∧ p0.toInt ≤ 6 by omega)) (j_cS (k := 1) hts k_7_150 k_1_12 k_7_148 k_7_149 (by decide +kernel) ⟨Nat.le_of_ble_eq_true rfl, Nat.le_of_ble_eq_true rfl⟩) (j_preS hK hP hD [] rfl (by decide) (fun _ _ _ _ h => h) (fun _ _ _ => trivial)) rfl rfl hl.1 rfl (lv_room (Nat.le_of_ble_eq_true rfl)) d_Mo_putEntry_42 ⟨Nat.le_of_ble_eq_true rfl, Nat.le_of_ble_eq_true rfl⟩) (fun rv3 u2 H locs hw3 hP hD hS => ?_)
      have hP : va_P D classes (mW T h0 ar S) H := hP
      have hD : va_D A (mW T h0 ar S) := hD
      have qhw3 : (p0.toInt = 0 → rv3.toInt = 0) ∧ (¬ p0.toInt = 0 → rv3.toInt = 10 + 10 * p0.toInt) := hw3
      refine lv_iadd hx hb d_Mo_putEntry_45 ?_
      refine lv_topi (fun x3 ex3 => ?_)
      have fx3 : x3.toInt = (rv3.toInt + 250) := by rw [ex3]; exact (zt_add tI_250 (show rv3.toInt = _ from rfl) (by omega) (by omega)).trans (by omega)
      refine lv_aload_n hx hb d_Mo_putEntry_46 rfl (lv_at hl 1 rfl) ?_
      refine va_get (D := D) (ci := 11) (v := .ref (ar 4)) (C := "PageScribeModel") (T := F_Mo) (N := 45) hx hb hts i_Mo hown hK hP 0 mW_0 cl_11 7 (by decide) (hts _ k_6_167) (fun _ h9 => h9) (mg_many _ _) d_Mo_putEntry_47 ?_
      refine lv_iload_n hx hb d_Mo_putEntry_50 rfl (lv_at hl 2 rfl) ?_
      refine va_iald hx hb hK hP 5 0 (ma_many _ _ _ _) rfl (zt_in (show p0.toInt = _ from rfl) (by omega) (by omega)) d_Mo_putEntry_51 ?_
      refine lv_topi (fun x4 ex4 => ?_)
      have gx4 : x4 = (a_many S) p0.toInt.toNat := ex4.trans (congrArg _ (zt_ix (show p0.toInt = _ from rfl)))
      have fx4 : x4.toInt = ((a_many S) p0.toInt.toNat).toInt := by rw [gx4]
      have kx4 := rm_at i_room (k := p0.toInt.toNat) (by omega)
      refine lv_iadd hx hb d_Mo_putEntry_52 ?_
      refine lv_topi (fun x5 ex5 => ?_)
      have fx5 : x5.toInt = (rv3.toInt + x4.toInt + 250) := by rw [ex5]; exact (zt_add fx3 (show x4.toInt = _ from rfl) (by omega) (by omega)).trans (by omega)
      refine lv_istore (lv' := [(5, .int x5), (0, .ref h0), (1, .int p0), (2, .long v0), (4, .int p1)]) hx hb d_Mo_putEntry_53 hl (by decide) rfl (fun ls hl => ?_)
      refine lv_aload_n hx hb d_Mo_putEntry_55 rfl (lv_at hl 1 rfl) ?_
      refine va_get (D := D) (ci := 11) (v := .ref (ar 3)) (C := "PageScribeModel") (T := F_Mo) (N := 45) hx hb hts i_Mo hown hK hP 0 mW_0 cl_11 6 (by decide) (hts _ k_6_166) (fun _ h9 => h9) (mg_words _ _) d_Mo_putEntry_56 ?_
      refine lv_iload hx hb d_Mo_putEntry_59 (lv_at hl 0 rfl) ?_
      refine lv_sipush (v := 250) hx hb d_Mo_putEntry_61 (by decide) ?_
      refine lv_isub hx hb d_Mo_putEntry_64 ?_
      refine lv_topi (fun x6 ex6 => ?_)
      have fx6 : x6.toInt = (rv3.toInt + x4.toInt) := by rw [ex6]; exact (zt_sub fx5 tI_250 (by omega) (by omega)).trans (by omega)
      refine lv_lload_n hx hb d_Mo_putEntry_65 rfl (lv_at hl 3 rfl) ?_
      refine va_last hx hb hK hP hD hS 4 1 (ma_words _ _ _ _) rfl (zt_in fx6 (by omega) (by omega)) d_Mo_putEntry_66 (fun H locs hP hD hS => ?_)
      rw [ms_words] at hP hD
      rw [zt_ix fx6] at hP hD
      have hP : va_P D classes (mW T h0 ar ((((f_thrown S), (a_kinds S), (a_codes S), (a_reals S), (f_size S), (f_taken S), (vp_updL (a_words S) ((rv3.toInt + x4.toInt).toNat) v0), (a_many S)), S.2.1, S.2.2.1, S.2.2.2.1, S.2.2.2.2.1, S.2.2.2.2.2) : MS)) H := hP
      have hD : va_D A (mW T h0 ar ((((f_thrown S), (a_kinds S), (a_codes S), (a_reals S), (f_size S), (f_taken S), (vp_updL (a_words S) ((rv3.toInt + x4.toInt).toNat) v0), (a_many S)), S.2.1, S.2.2.1, S.2.2.2.1, S.2.2.2.2.1, S.2.2.2.2.2) : MS)) := hD
      refine lv_aload_n hx hb d_Mo_putEntry_67 rfl (lv_at hl 1 rfl) ?_
      refine va_get (D := D) (ci := 11) (v := .ref (ar 4)) (C := "PageScribeModel") (T := F_Mo) (N := 45) hx hb hts i_Mo hown hK hP 0 mW_0 cl_11 7 (by decide) (hts _ k_6_167) (fun _ h9 => h9) (mg_many _ _) d_Mo_putEntry_68 ?_
      refine lv_iload_n hx hb d_Mo_putEntry_71 rfl (lv_at hl 2 rfl) ?_
      refine lv_dup2_11 hx hb d_Mo_putEntry_72 rfl rfl ?_
      refine va_iald hx hb hK hP 5 0 (ma_many _ _ _ _) rfl (zt_in (show p0.toInt = _ from rfl) (by omega) (by omega)) d_Mo_putEntry_73 ?_
      refine j_eqi (y := x4) ex4.symm ?_
      refine lv_iconst (v := 1) hx hb d_Mo_putEntry_74 (by decide) ?_
      refine lv_iadd hx hb d_Mo_putEntry_75 ?_
      refine lv_topi (fun x7 ex7 => ?_)
      have fx7 : x7.toInt = (x4.toInt + 1) := by rw [ex7]; exact (zt_add (show x4.toInt = _ from rfl) tI_1 (by omega) (by omega)).trans (by omega)
      refine va_iast hx hb hK hP hD hS 5 0 (ma_many _ _ _ _) rfl (zt_in (show p0.toInt = _ from rfl) (by omega) (by omega)) d_Mo_putEntry_76 (fun H locs hP hD hS => ?_)
      rw [ms_many] at hP hD
      rw [zt_ix (show p0.toInt = _ from rfl)] at hP hD
      have hP : va_P D classes (mW T h0 ar ((((f_thrown S), (a_kinds S), (a_codes S), (a_reals S), (f_size S), (f_taken S), (vp_updL (a_words S) ((rv3.toInt + x4.toInt).toNat) v0), (upd (a_many S) (p0.toInt.toNat) x7)), S.2.1, S.2.2.1, S.2.2.2.1, S.2.2.2.2.1, S.2.2.2.2.2) : MS)) H := hP
      have hD : va_D A (mW T h0 ar ((((f_thrown S), (a_kinds S), (a_codes S), (a_reals S), (f_size S), (f_taken S), (vp_updL (a_words S) ((rv3.toInt + x4.toInt).toNat) v0), (upd (a_many S) (p0.toInt.toNat) x7)), S.2.1, S.2.2.1, S.2.2.2.1, S.2.2.2.2.1, S.2.2.2.2.2) : MS)) := hD
      refine lv_aload_n hx hb d_Mo_putEntry_77 rfl (lv_at hl 1 rfl) ?_
      refine lv_iload hx hb d_Mo_putEntry_78 (lv_at hl 0 rfl) ?_
      refine lv_aload_n hx hb d_Mo_putEntry_80 rfl (lv_at hl 1 rfl) ?_
      refine va_get (D := D) (ci := 11) (v := .int (f_size S)) (C := "PageScribeModel") (T := F_Mo) (N := 45) hx hb hts i_Mo hown hK hP 0 mW_0 cl_11 4 (by decide) (hts _ k_6_164) (fun _ h9 => h9) (mg_size _ _) d_Mo_putEntry_81 ?_
      refine lv_iconst (v := 1) hx hb d_Mo_putEntry_84 (by decide) ?_
      refine lv_isub hx hb d_Mo_putEntry_85 ?_
      refine lv_topi (fun x8 ex8 => ?_)
      have fx8 : x8.toInt = ((f_size S).toInt - 1) := by rw [ex8]; exact (zt_sub (show (f_size S).toInt = _ from rfl) tI_1 (by omega) (by omega)).trans (by omega)
      refine jm_cv (w := (fun u => u)) hK hP hD hS hA (va_runV (As := [.int x5, .int x8]) (rest := []) F (m_move l D T h0 ar ((((f_thrown S), (a_kinds S), (a_codes S), (a_reals S), (f_size S), (f_taken S), (vp_updL (a_words S) ((rv3.toInt + x4.toInt).toNat) v0), (upd (a_many S) (p0.toInt.toNat) x7)), S.2.1, S.2.2.1, S.2.2.2.1, S.2.2.2.2.1, S.2.2.2.2.2) : MS) x5 x8 H.size (show 0 ≤ x5.toInt ∧ x5.toInt < 1300 by first | omega | (simp only [fx5, fx8]; omega)) (show 0 ≤ x8.toInt ∧ x8.toInt < 1300 by first | omega | (simp only [fx5, fx8]; omega))) (j_cV (k := 2) (C := "PageScribeModel") hts k_7_76 k_1_12 k_7_73 k_7_75 k_0_82 (by decide +kernel) ⟨Nat.le_of_ble_eq_true rfl, Nat.le_of_ble_eq_true rfl⟩) (jm_pre hK hP hD) rfl rfl hl.1 rfl (lv_room (Nat.le_of_ble_eq_true rfl)) d_Mo_putEntry_86 ⟨Nat.le_of_ble_eq_true rfl, Nat.le_of_ble_eq_true rfl⟩) (fun S2 H locs hw4 hP hD hS => ?_)
      try simp only [fx5, fx8] at hw4
      obtain rfl := hw4
      have hP : va_P D classes (mW T h0 ar ((((f_thrown S), (upd (a_kinds S) ((rv3.toInt + x4.toInt + 250).toNat) ((a_kinds S) (((f_size S).toInt - 1).toNat))), (vp_updL (a_codes S) ((rv3.toInt + x4.toInt + 250).toNat) ((a_codes S) (((f_size S).toInt - 1).toNat))), (vf_upd (a_reals S) ((rv3.toInt + x4.toInt + 250).toNat) ((a_reals S) (((f_size S).toInt - 1).toNat))), (f_size S), (f_taken S), (vp_updL (a_words S) ((rv3.toInt + x4.toInt).toNat) v0), (upd (a_many S) (p0.toInt.toNat) x7)), S.2.1, S.2.2.1, S.2.2.2.1, S.2.2.2.2.1, S.2.2.2.2.2) : MS)) H := hP
      have hD : va_D A (mW T h0 ar ((((f_thrown S), (upd (a_kinds S) ((rv3.toInt + x4.toInt + 250).toNat) ((a_kinds S) (((f_size S).toInt - 1).toNat))), (vp_updL (a_codes S) ((rv3.toInt + x4.toInt + 250).toNat) ((a_codes S) (((f_size S).toInt - 1).toNat))), (vf_upd (a_reals S) ((rv3.toInt + x4.toInt + 250).toNat) ((a_reals S) (((f_size S).toInt - 1).toNat))), (f_size S), (f_taken S), (vp_updL (a_words S) ((rv3.toInt + x4.toInt).toNat) v0), (upd (a_many S) (p0.toInt.toNat) x7)), S.2.1, S.2.2.1, S.2.2.2.1, S.2.2.2.2.1, S.2.2.2.2.2) : MS)) := hD
      have i_vals : ∀ k, k < 1300 → vOk ((upd (a_kinds S) ((rv3.toInt + x4.toInt + 250).toNat) ((a_kinds S) (((f_size S).toInt - 1).toNat))) k) ((vp_updL (a_codes S) ((rv3.toInt + x4.toInt + 250).toNat) ((a_codes S) (((f_size S).toInt - 1).toNat))) k) ((vf_upd (a_reals S) ((rv3.toInt + x4.toInt + 250).toNat) ((a_reals S) (((f_size S).toInt - 1).toNat))) k) := vOk_upd i_vals (i_vals (((f_size S).toInt - 1).toNat) (by omega))
      have fa3 : ((upd (a_kinds S) ((rv3.toInt + x4.toInt + 250).toNat) ((a_kinds S) (((f_size S).toInt - 1).toNat))) ((rv3.toInt + x4.toInt + 250).toNat)).toInt = ((a_kinds S) (((f_size S).toInt - 1).toNat)).toInt := congrArg Int32.toInt upd_s
      have fa4 : ((vp_updL (a_codes S) ((rv3.toInt + x4.toInt + 250).toNat) ((a_codes S) (((f_size S).toInt - 1).toNat))) ((rv3.toInt + x4.toInt + 250).toNat)).toInt = ((a_codes S) (((f_size S).toInt - 1).toNat)).toInt := congrArg Int64.toInt updL_s
      refine lv_aload_n hx hb d_Mo_putEntry_89 rfl (lv_at hl 1 rfl) ?_
      refine lv_dup hx hb d_Mo_putEntry_90 rfl ?_
      refine va_get (D := D) (ci := 11) (v := .int (f_size S)) (C := "PageScribeModel") (T := F_Mo) (N := 45) hx hb hts i_Mo hown hK hP 0 mW_0 cl_11 4 (by decide) (hts _ k_6_164) (fun _ h9 => h9) (mg_size _ _) d_Mo_putEntry_91 ?_
      refine lv_iload hx hb d_Mo_putEntry_94 (lv_at hl 4 rfl) ?_
      refine lv_isub hx hb d_Mo_putEntry_96 ?_
      refine lv_topi (fun x9 ex9 => ?_)
      have fx9 : x9.toInt = ((f_size S).toInt - p1.toInt) := by rw [ex9]; exact (zt_sub (show (f_size S).toInt = _ from rfl) (show p1.toInt = _ from rfl) (by omega) (by omega)).trans (by omega)
      refine va_put (D := D) (ci := 11) (v := .int x9) (ty := .int) (C := "PageScribeModel") (T := F_Mo) (N := 45) hx hb hts i_Mo t_Mo t_Mo_ok n_Mo hown hK hP hD hS 0 mW_0 cl_11 4 (by decide) (hts _ k_6_164) (fun _ h9 => h9) rfl (by decide +kernel) rfl rfl (Nat.le_of_ble_eq_true rfl) d_Mo_putEntry_97 (fun H locs hP hD hS => ?_)
      rw [mp_size] at hP hD
      have hP : va_P D classes (mW T h0 ar ((((f_thrown S), (upd (a_kinds S) ((rv3.toInt + x4.toInt + 250).toNat) ((a_kinds S) (((f_size S).toInt - 1).toNat))), (vp_updL (a_codes S) ((rv3.toInt + x4.toInt + 250).toNat) ((a_codes S) (((f_size S).toInt - 1).toNat))), (vf_upd (a_reals S) ((rv3.toInt + x4.toInt + 250).toNat) ((a_reals S) (((f_size S).toInt - 1).toNat))), x9, (f_taken S), (vp_updL (a_words S) ((rv3.toInt + x4.toInt).toNat) v0), (upd (a_many S) (p0.toInt.toNat) x7)), S.2.1, S.2.2.1, S.2.2.2.1, S.2.2.2.2.1, S.2.2.2.2.2) : MS)) H := hP
      have hD : va_D A (mW T h0 ar ((((f_thrown S), (upd (a_kinds S) ((rv3.toInt + x4.toInt + 250).toNat) ((a_kinds S) (((f_size S).toInt - 1).toNat))), (vp_updL (a_codes S) ((rv3.toInt + x4.toInt + 250).toNat) ((a_codes S) (((f_size S).toInt - 1).toNat))), (vf_upd (a_reals S) ((rv3.toInt + x4.toInt + 250).toNat) ((a_reals S) (((f_size S).toInt - 1).toNat))), x9, (f_taken S), (vp_updL (a_words S) ((rv3.toInt + x4.toInt).toNat) v0), (upd (a_many S) (p0.toInt.toNat) x7)), S.2.1, S.2.2.1, S.2.2.2.1, S.2.2.2.2.1, S.2.2.2.2.2) : MS)) := hD
      refine lv_iconst (v := 0) hx hb d_Mo_putEntry_100 (by decide) ?_
      exact j_iret F hr hlocks hK hS ((((f_thrown S), (upd (a_kinds S) ((rv3.toInt + x4.toInt + 250).toNat) ((a_kinds S) (((f_size S).toInt - 1).toNat))), (vp_updL (a_codes S) ((rv3.toInt + x4.toInt + 250).toNat) ((a_codes S) (((f_size S).toInt - 1).toNat))), (vf_upd (a_reals S) ((rv3.toInt + x4.toInt + 250).toNat) ((a_reals S) (((f_size S).toInt - 1).toNat))), x9, (f_taken S), (vp_updL (a_words S) ((rv3.toInt + x4.toInt).toNat) v0), (upd (a_many S) (p0.toInt.toNat) x7)), S.2.1, S.2.2.1, S.2.2.2.1, S.2.2.2.2.1, S.2.2.2.2.2) : MS) ⟨⟨(show 0 ≤ x9.toInt ∧ x9.toInt ≤ 40 by omega), i_taken, i_vals, (rm_up (r := (a_room S)) i_room (by omega)), i_dicts, i_deep, i_open, i_cells, i_points, i_part, i_length, i_knows, i_page, i_text, i_pats, i_fuel, i_fr, i_ink⟩, (kA_r S), (kF_r S), (show (0 : Int32).toInt = 0 ∨ (0 : Int32).toInt = 8 by have := tI_0; omega)⟩ hP hD d_Mo_putEntry_101
  · have fc11_1 : rv1.toInt = (-1) := zt_eq (show rv1.toInt = _ from rfl) tI_m1 c11_1
    refine lv_aload_n hx hb d_Mo_putEntry_14 rfl (lv_at hl 1 rfl) ?_
    refine va_get (D := D) (ci := 11) (v := .ref (ar 4)) (C := "PageScribeModel") (T := F_Mo) (N := 45) hx hb hts i_Mo hown hK hP 0 mW_0 cl_11 7 (by decide) (hts _ k_6_167) (fun _ h9 => h9) (mg_many _ _) d_Mo_putEntry_15 ?_
    refine lv_iload_n hx hb d_Mo_putEntry_18 rfl (lv_at hl 2 rfl) ?_
    refine va_iald hx hb hK hP 5 0 (ma_many _ _ _ _) rfl (zt_in (show p0.toInt = _ from rfl) (by omega) (by omega)) d_Mo_putEntry_19 ?_
    refine lv_topi (fun x10 ex10 => ?_)
    have gx10 : x10 = (a_many S) p0.toInt.toNat := ex10.trans (congrArg _ (zt_ix (show p0.toInt = _ from rfl)))
    have fx10 : x10.toInt = ((a_many S) p0.toInt.toNat).toInt := by rw [gx10]
    have kx10 := rm_at i_room (k := p0.toInt.toNat) (by omega)
    refine lv_aload_n hx hb d_Mo_putEntry_20 rfl (lv_at hl 1 rfl) ?_
    refine va_get (D := D) (ci := 11) (v := .ref (ar 5)) (C := "PageScribeModel") (T := F_Mo) (N := 45) hx hb hts i_Mo hown hK hP 0 mW_0 cl_11 8 (by decide) (hts _ k_6_168) (fun _ h9 => h9) (mg_room _ _) d_Mo_putEntry_21 ?_
    refine lv_iload_n hx hb d_Mo_putEntry_24 rfl (lv_at hl 2 rfl) ?_
    refine va_iald hx hb hK hP 6 0 (ma_room _ _ _ _) rfl (zt_in (show p0.toInt = _ from rfl) (by omega) (by omega)) d_Mo_putEntry_25 ?_
    refine lv_topi (fun x11 ex11 => ?_)
    have gx11 : x11 = (a_room S) p0.toInt.toNat := ex11.trans (congrArg _ (zt_ix (show p0.toInt = _ from rfl)))
    have fx11 : x11.toInt = ((a_room S) p0.toInt.toNat).toInt := by rw [gx11]
    have kx11 := rm_at i_room (k := p0.toInt.toNat) (by omega)
    refine lv_icmp_ne (tgt := 32) hx hb d_Mo_putEntry_26 (by decide) (fun c26_1 => ?_) (fun c26_1 => ?_)
    · first | have fc26_1 : x10.toInt < x11.toInt := (by have := zt_ne (show x10.toInt = _ from rfl) (show x11.toInt = _ from rfl) c26_1; omega) | have fc26_1 : x11.toInt < x10.toInt := (by have := zt_ne (show x10.toInt = _ from rfl) (show x11.toInt = _ from rfl) c26_1; omega) | skip
      refine lv_iload hx hb d_Mo_putEntry_32 (lv_at hl 0 rfl) ?_
      refine lv_iconst (v := (-1)) hx hb d_Mo_putEntry_34 (by decide) ?_
      refine lv_icmp_ne (tgt := 77) hx hb d_Mo_putEntry_35 (by decide) (fun c35_2 => ?_) (fun c35_2 => ?_)
      · first | have fc35_2 : rv1.toInt < (-1) := (by have := zt_ne (show rv1.toInt = _ from rfl) tI_m1 c35_2; omega) | have fc35_2 : (-1) < rv1.toInt := (by have := zt_ne (show rv1.toInt = _ from rfl) tI_m1 c35_2; omega) | skip
        refine lv_aload_n hx hb d_Mo_putEntry_77 rfl (lv_at hl 1 rfl) ?_
        refine lv_iload hx hb d_Mo_putEntry_78 (lv_at hl 0 rfl) ?_
        refine lv_aload_n hx hb d_Mo_putEntry_80 rfl (lv_at hl 1 rfl) ?_
        refine va_get (D := D) (ci := 11) (v := .int (f_size S)) (C := "PageScribeModel") (T := F_Mo) (N := 45) hx hb hts i_Mo hown hK hP 0 mW_0 cl_11 4 (by decide) (hts _ k_6_164) (fun _ h9 => h9) (mg_size _ _) d_Mo_putEntry_81 ?_
        refine lv_iconst (v := 1) hx hb d_Mo_putEntry_84 (by decide) ?_
        refine lv_isub hx hb d_Mo_putEntry_85 ?_
        refine lv_topi (fun x12 ex12 => ?_)
        have fx12 : x12.toInt = ((f_size S).toInt - 1) := by rw [ex12]; exact (zt_sub (show (f_size S).toInt = _ from rfl) tI_1 (by omega) (by omega)).trans (by omega)
        refine jm_cv (w := (fun u => u)) hK hP hD hS hA (va_runV (As := [.int rv1, .int x12]) (rest := []) F (m_move l D T h0 ar S rv1 x12 H.size (show 0 ≤ rv1.toInt ∧ rv1.toInt < 1300 by first | omega | (simp only [fx12]; omega)) (show 0 ≤ x12.toInt ∧ x12.toInt < 1300 by first | omega | (simp only [fx12]; omega))) (j_cV (k := 2) (C := "PageScribeModel") hts k_7_76 k_1_12 k_7_73 k_7_75 k_0_82 (by decide +kernel) ⟨Nat.le_of_ble_eq_true rfl, Nat.le_of_ble_eq_true rfl⟩) (jm_pre hK hP hD) rfl rfl hl.1 rfl (lv_room (Nat.le_of_ble_eq_true rfl)) d_Mo_putEntry_86 ⟨Nat.le_of_ble_eq_true rfl, Nat.le_of_ble_eq_true rfl⟩) (fun S3 H locs hw5 hP hD hS => ?_)
        try simp only [fx12] at hw5
        obtain rfl := hw5
        have hP : va_P D classes (mW T h0 ar ((((f_thrown S), (upd (a_kinds S) (rv1.toInt.toNat) ((a_kinds S) (((f_size S).toInt - 1).toNat))), (vp_updL (a_codes S) (rv1.toInt.toNat) ((a_codes S) (((f_size S).toInt - 1).toNat))), (vf_upd (a_reals S) (rv1.toInt.toNat) ((a_reals S) (((f_size S).toInt - 1).toNat))), (f_size S), (f_taken S), (a_words S), (a_many S)), S.2.1, S.2.2.1, S.2.2.2.1, S.2.2.2.2.1, S.2.2.2.2.2) : MS)) H := hP
        have hD : va_D A (mW T h0 ar ((((f_thrown S), (upd (a_kinds S) (rv1.toInt.toNat) ((a_kinds S) (((f_size S).toInt - 1).toNat))), (vp_updL (a_codes S) (rv1.toInt.toNat) ((a_codes S) (((f_size S).toInt - 1).toNat))), (vf_upd (a_reals S) (rv1.toInt.toNat) ((a_reals S) (((f_size S).toInt - 1).toNat))), (f_size S), (f_taken S), (a_words S), (a_many S)), S.2.1, S.2.2.1, S.2.2.2.1, S.2.2.2.2.1, S.2.2.2.2.2) : MS)) := hD
        have i_vals : ∀ k, k < 1300 → vOk ((upd (a_kinds S) (rv1.toInt.toNat) ((a_kinds S) (((f_size S).toInt - 1).toNat))) k) ((vp_updL (a_codes S) (rv1.toInt.toNat) ((a_codes S) (((f_size S).toInt - 1).toNat))) k) ((vf_upd (a_reals S) (rv1.toInt.toNat) ((a_reals S) (((f_size S).toInt - 1).toNat))) k) := vOk_upd i_vals (i_vals (((f_size S).toInt - 1).toNat) (by omega))
        have fa5 : ((upd (a_kinds S) (rv1.toInt.toNat) ((a_kinds S) (((f_size S).toInt - 1).toNat))) (rv1.toInt.toNat)).toInt = ((a_kinds S) (((f_size S).toInt - 1).toNat)).toInt := congrArg Int32.toInt upd_s
        have fa6 : ((vp_updL (a_codes S) (rv1.toInt.toNat) ((a_codes S) (((f_size S).toInt - 1).toNat))) (rv1.toInt.toNat)).toInt = ((a_codes S) (((f_size S).toInt - 1).toNat)).toInt := congrArg Int64.toInt updL_s
        refine lv_aload_n hx hb d_Mo_putEntry_89 rfl (lv_at hl 1 rfl) ?_
        refine lv_dup hx hb d_Mo_putEntry_90 rfl ?_
        refine va_get (D := D) (ci := 11) (v := .int (f_size S)) (C := "PageScribeModel") (T := F_Mo) (N := 45) hx hb hts i_Mo hown hK hP 0 mW_0 cl_11 4 (by decide) (hts _ k_6_164) (fun _ h9 => h9) (mg_size _ _) d_Mo_putEntry_91 ?_
        refine lv_iload hx hb d_Mo_putEntry_94 (lv_at hl 4 rfl) ?_
        refine lv_isub hx hb d_Mo_putEntry_96 ?_
        refine lv_topi (fun x13 ex13 => ?_)
        have fx13 : x13.toInt = ((f_size S).toInt - p1.toInt) := by rw [ex13]; exact (zt_sub (show (f_size S).toInt = _ from rfl) (show p1.toInt = _ from rfl) (by omega) (by omega)).trans (by omega)
        refine va_put (D := D) (ci := 11) (v := .int x13) (ty := .int) (C := "PageScribeModel") (T := F_Mo) (N := 45) hx hb hts i_Mo t_Mo t_Mo_ok n_Mo hown hK hP hD hS 0 mW_0 cl_11 4 (by decide) (hts _ k_6_164) (fun _ h9 => h9) rfl (by decide +kernel) rfl rfl (Nat.le_of_ble_eq_true rfl) d_Mo_putEntry_97 (fun H locs hP hD hS => ?_)
        rw [mp_size] at hP hD
        have hP : va_P D classes (mW T h0 ar ((((f_thrown S), (upd (a_kinds S) (rv1.toInt.toNat) ((a_kinds S) (((f_size S).toInt - 1).toNat))), (vp_updL (a_codes S) (rv1.toInt.toNat) ((a_codes S) (((f_size S).toInt - 1).toNat))), (vf_upd (a_reals S) (rv1.toInt.toNat) ((a_reals S) (((f_size S).toInt - 1).toNat))), x13, (f_taken S), (a_words S), (a_many S)), S.2.1, S.2.2.1, S.2.2.2.1, S.2.2.2.2.1, S.2.2.2.2.2) : MS)) H := hP
        have hD : va_D A (mW T h0 ar ((((f_thrown S), (upd (a_kinds S) (rv1.toInt.toNat) ((a_kinds S) (((f_size S).toInt - 1).toNat))), (vp_updL (a_codes S) (rv1.toInt.toNat) ((a_codes S) (((f_size S).toInt - 1).toNat))), (vf_upd (a_reals S) (rv1.toInt.toNat) ((a_reals S) (((f_size S).toInt - 1).toNat))), x13, (f_taken S), (a_words S), (a_many S)), S.2.1, S.2.2.1, S.2.2.2.1, S.2.2.2.2.1, S.2.2.2.2.2) : MS)) := hD
        refine lv_iconst (v := 0) hx hb d_Mo_putEntry_100 (by decide) ?_
        exact j_iret F hr hlocks hK hS ((((f_thrown S), (upd (a_kinds S) (rv1.toInt.toNat) ((a_kinds S) (((f_size S).toInt - 1).toNat))), (vp_updL (a_codes S) (rv1.toInt.toNat) ((a_codes S) (((f_size S).toInt - 1).toNat))), (vf_upd (a_reals S) (rv1.toInt.toNat) ((a_reals S) (((f_size S).toInt - 1).toNat))), x13, (f_taken S), (a_words S), (a_many S)), S.2.1, S.2.2.1, S.2.2.2.1, S.2.2.2.2.1, S.2.2.2.2.2) : MS) ⟨⟨(show 0 ≤ x13.toInt ∧ x13.toInt ≤ 40 by omega), i_taken, i_vals, i_room, i_dicts, i_deep, i_open, i_cells, i_points, i_part, i_length, i_knows, i_page, i_text, i_pats, i_fuel, i_fr, i_ink⟩, (kA_r S), (kF_r S), (show (0 : Int32).toInt = 0 ∨ (0 : Int32).toInt = 8 by have := tI_0; omega)⟩ hP hD d_Mo_putEntry_101
      · have fc35_2 : rv1.toInt = (-1) := zt_eq (show rv1.toInt = _ from rfl) tI_m1 c35_2
        refine lv_sipush (v := 250) hx hb d_Mo_putEntry_38 (by decide) ?_
        refine lv_iload_n hx hb d_Mo_putEntry_41 rfl (lv_at hl 2 rfl) ?_
        refine j_ci (wc := []) (wr := (mW T h0 ar S)) hK hP hD hS hA [] isc rfl isc_all isc_nd (fun _ _ => List.not_mem_nil) (va_runS (As := [.int p0]) (rest := [.int 250]) F (m_base l D T p0 H.size (show 0 ≤ p0.toInt ∧ p0.toInt ≤ 6 by omega)) (j_cS (k := 1) hts k_7_150 k_1_12 k_7_148 k_7_149 (by decide +kernel) ⟨Nat.le_of_ble_eq_true rfl, Nat.le_of_ble_eq_true rfl⟩) (j_preS hK hP hD [] rfl (by decide) (fun _ _ _ _ h => h) (fun _ _ _ => trivial)) rfl rfl hl.1 rfl (lv_room (Nat.le_of_ble_eq_true rfl)) d_Mo_putEntry_42 ⟨Nat.le_of_ble_eq_true rfl, Nat.le_of_ble_eq_true rfl⟩) (fun rv6 u3 H locs hw6 hP hD hS => ?_)
        have hP : va_P D classes (mW T h0 ar S) H := hP
        have hD : va_D A (mW T h0 ar S) := hD
        have qhw6 : (p0.toInt = 0 → rv6.toInt = 0) ∧ (¬ p0.toInt = 0 → rv6.toInt = 10 + 10 * p0.toInt) := hw6
        refine lv_iadd hx hb d_Mo_putEntry_45 ?_
        refine lv_topi (fun x14 ex14 => ?_)
        have fx14 : x14.toInt = (rv6.toInt + 250) := by rw [ex14]; exact (zt_add tI_250 (show rv6.toInt = _ from rfl) (by omega) (by omega)).trans (by omega)
        refine lv_aload_n hx hb d_Mo_putEntry_46 rfl (lv_at hl 1 rfl) ?_
        refine va_get (D := D) (ci := 11) (v := .ref (ar 4)) (C := "PageScribeModel") (T := F_Mo) (N := 45) hx hb hts i_Mo hown hK hP 0 mW_0 cl_11 7 (by decide) (hts _ k_6_167) (fun _ h9 => h9) (mg_many _ _) d_Mo_putEntry_47 ?_
        refine lv_iload_n hx hb d_Mo_putEntry_50 rfl (lv_at hl 2 rfl) ?_
        refine va_iald hx hb hK hP 5 0 (ma_many _ _ _ _) rfl (zt_in (show p0.toInt = _ from rfl) (by omega) (by omega)) d_Mo_putEntry_51 ?_
        refine j_eqi (y := x10) ex10.symm ?_
        refine lv_iadd hx hb d_Mo_putEntry_52 ?_
        refine lv_topi (fun x15 ex15 => ?_)
        have fx15 : x15.toInt = (rv6.toInt + x10.toInt + 250) := by rw [ex15]; exact (zt_add fx14 (show x10.toInt = _ from rfl) (by omega) (by omega)).trans (by omega)
        refine lv_istore (lv' := [(5, .int x15), (0, .ref h0), (1, .int p0), (2, .long v0), (4, .int p1)]) hx hb d_Mo_putEntry_53 hl (by decide) rfl (fun ls hl => ?_)
        refine lv_aload_n hx hb d_Mo_putEntry_55 rfl (lv_at hl 1 rfl) ?_
        refine va_get (D := D) (ci := 11) (v := .ref (ar 3)) (C := "PageScribeModel") (T := F_Mo) (N := 45) hx hb hts i_Mo hown hK hP 0 mW_0 cl_11 6 (by decide) (hts _ k_6_166) (fun _ h9 => h9) (mg_words _ _) d_Mo_putEntry_56 ?_
        refine lv_iload hx hb d_Mo_putEntry_59 (lv_at hl 0 rfl) ?_
        refine lv_sipush (v := 250) hx hb d_Mo_putEntry_61 (by decide) ?_
        refine lv_isub hx hb d_Mo_putEntry_64 ?_
        refine lv_topi (fun x16 ex16 => ?_)
        have fx16 : x16.toInt = (rv6.toInt + x10.toInt) := by rw [ex16]; exact (zt_sub fx15 tI_250 (by omega) (by omega)).trans (by omega)
        refine lv_lload_n hx hb d_Mo_putEntry_65 rfl (lv_at hl 3 rfl) ?_
        refine va_last hx hb hK hP hD hS 4 1 (ma_words _ _ _ _) rfl (zt_in fx16 (by omega) (by omega)) d_Mo_putEntry_66 (fun H locs hP hD hS => ?_)
        rw [ms_words] at hP hD
        rw [zt_ix fx16] at hP hD
        have hP : va_P D classes (mW T h0 ar ((((f_thrown S), (a_kinds S), (a_codes S), (a_reals S), (f_size S), (f_taken S), (vp_updL (a_words S) ((rv6.toInt + x10.toInt).toNat) v0), (a_many S)), S.2.1, S.2.2.1, S.2.2.2.1, S.2.2.2.2.1, S.2.2.2.2.2) : MS)) H := hP
        have hD : va_D A (mW T h0 ar ((((f_thrown S), (a_kinds S), (a_codes S), (a_reals S), (f_size S), (f_taken S), (vp_updL (a_words S) ((rv6.toInt + x10.toInt).toNat) v0), (a_many S)), S.2.1, S.2.2.1, S.2.2.2.1, S.2.2.2.2.1, S.2.2.2.2.2) : MS)) := hD
        refine lv_aload_n hx hb d_Mo_putEntry_67 rfl (lv_at hl 1 rfl) ?_
        refine va_get (D := D) (ci := 11) (v := .ref (ar 4)) (C := "PageScribeModel") (T := F_Mo) (N := 45) hx hb hts i_Mo hown hK hP 0 mW_0 cl_11 7 (by decide) (hts _ k_6_167) (fun _ h9 => h9) (mg_many _ _) d_Mo_putEntry_68 ?_
        refine lv_iload_n hx hb d_Mo_putEntry_71 rfl (lv_at hl 2 rfl) ?_
        refine lv_dup2_11 hx hb d_Mo_putEntry_72 rfl rfl ?_
        refine va_iald hx hb hK hP 5 0 (ma_many _ _ _ _) rfl (zt_in (show p0.toInt = _ from rfl) (by omega) (by omega)) d_Mo_putEntry_73 ?_
        refine j_eqi (y := x10) ex10.symm ?_
        refine lv_iconst (v := 1) hx hb d_Mo_putEntry_74 (by decide) ?_
        refine lv_iadd hx hb d_Mo_putEntry_75 ?_
        refine lv_topi (fun x17 ex17 => ?_)
        have fx17 : x17.toInt = (x10.toInt + 1) := by rw [ex17]; exact (zt_add (show x10.toInt = _ from rfl) tI_1 (by omega) (by omega)).trans (by omega)
        refine va_iast hx hb hK hP hD hS 5 0 (ma_many _ _ _ _) rfl (zt_in (show p0.toInt = _ from rfl) (by omega) (by omega)) d_Mo_putEntry_76 (fun H locs hP hD hS => ?_)
        rw [ms_many] at hP hD
        rw [zt_ix (show p0.toInt = _ from rfl)] at hP hD
        have hP : va_P D classes (mW T h0 ar ((((f_thrown S), (a_kinds S), (a_codes S), (a_reals S), (f_size S), (f_taken S), (vp_updL (a_words S) ((rv6.toInt + x10.toInt).toNat) v0), (upd (a_many S) (p0.toInt.toNat) x17)), S.2.1, S.2.2.1, S.2.2.2.1, S.2.2.2.2.1, S.2.2.2.2.2) : MS)) H := hP
        have hD : va_D A (mW T h0 ar ((((f_thrown S), (a_kinds S), (a_codes S), (a_reals S), (f_size S), (f_taken S), (vp_updL (a_words S) ((rv6.toInt + x10.toInt).toNat) v0), (upd (a_many S) (p0.toInt.toNat) x17)), S.2.1, S.2.2.1, S.2.2.2.1, S.2.2.2.2.1, S.2.2.2.2.2) : MS)) := hD
        refine lv_aload_n hx hb d_Mo_putEntry_77 rfl (lv_at hl 1 rfl) ?_
        refine lv_iload hx hb d_Mo_putEntry_78 (lv_at hl 0 rfl) ?_
        refine lv_aload_n hx hb d_Mo_putEntry_80 rfl (lv_at hl 1 rfl) ?_
        refine va_get (D := D) (ci := 11) (v := .int (f_size S)) (C := "PageScribeModel") (T := F_Mo) (N := 45) hx hb hts i_Mo hown hK hP 0 mW_0 cl_11 4 (by decide) (hts _ k_6_164) (fun _ h9 => h9) (mg_size _ _) d_Mo_putEntry_81 ?_
        refine lv_iconst (v := 1) hx hb d_Mo_putEntry_84 (by decide) ?_
        refine lv_isub hx hb d_Mo_putEntry_85 ?_
        refine lv_topi (fun x18 ex18 => ?_)
        have fx18 : x18.toInt = ((f_size S).toInt - 1) := by rw [ex18]; exact (zt_sub (show (f_size S).toInt = _ from rfl) tI_1 (by omega) (by omega)).trans (by omega)
        refine jm_cv (w := (fun u => u)) hK hP hD hS hA (va_runV (As := [.int x15, .int x18]) (rest := []) F (m_move l D T h0 ar ((((f_thrown S), (a_kinds S), (a_codes S), (a_reals S), (f_size S), (f_taken S), (vp_updL (a_words S) ((rv6.toInt + x10.toInt).toNat) v0), (upd (a_many S) (p0.toInt.toNat) x17)), S.2.1, S.2.2.1, S.2.2.2.1, S.2.2.2.2.1, S.2.2.2.2.2) : MS) x15 x18 H.size (show 0 ≤ x15.toInt ∧ x15.toInt < 1300 by first | omega | (simp only [fx15, fx18]; omega)) (show 0 ≤ x18.toInt ∧ x18.toInt < 1300 by first | omega | (simp only [fx15, fx18]; omega))) (j_cV (k := 2) (C := "PageScribeModel") hts k_7_76 k_1_12 k_7_73 k_7_75 k_0_82 (by decide +kernel) ⟨Nat.le_of_ble_eq_true rfl, Nat.le_of_ble_eq_true rfl⟩) (jm_pre hK hP hD) rfl rfl hl.1 rfl (lv_room (Nat.le_of_ble_eq_true rfl)) d_Mo_putEntry_86 ⟨Nat.le_of_ble_eq_true rfl, Nat.le_of_ble_eq_true rfl⟩) (fun S4 H locs hw7 hP hD hS => ?_)
        try simp only [fx15, fx18] at hw7
        obtain rfl := hw7
        have hP : va_P D classes (mW T h0 ar ((((f_thrown S), (upd (a_kinds S) ((rv6.toInt + x10.toInt + 250).toNat) ((a_kinds S) (((f_size S).toInt - 1).toNat))), (vp_updL (a_codes S) ((rv6.toInt + x10.toInt + 250).toNat) ((a_codes S) (((f_size S).toInt - 1).toNat))), (vf_upd (a_reals S) ((rv6.toInt + x10.toInt + 250).toNat) ((a_reals S) (((f_size S).toInt - 1).toNat))), (f_size S), (f_taken S), (vp_updL (a_words S) ((rv6.toInt + x10.toInt).toNat) v0), (upd (a_many S) (p0.toInt.toNat) x17)), S.2.1, S.2.2.1, S.2.2.2.1, S.2.2.2.2.1, S.2.2.2.2.2) : MS)) H := hP
        have hD : va_D A (mW T h0 ar ((((f_thrown S), (upd (a_kinds S) ((rv6.toInt + x10.toInt + 250).toNat) ((a_kinds S) (((f_size S).toInt - 1).toNat))), (vp_updL (a_codes S) ((rv6.toInt + x10.toInt + 250).toNat) ((a_codes S) (((f_size S).toInt - 1).toNat))), (vf_upd (a_reals S) ((rv6.toInt + x10.toInt + 250).toNat) ((a_reals S) (((f_size S).toInt - 1).toNat))), (f_size S), (f_taken S), (vp_updL (a_words S) ((rv6.toInt + x10.toInt).toNat) v0), (upd (a_many S) (p0.toInt.toNat) x17)), S.2.1, S.2.2.1, S.2.2.2.1, S.2.2.2.2.1, S.2.2.2.2.2) : MS)) := hD
        have i_vals : ∀ k, k < 1300 → vOk ((upd (a_kinds S) ((rv6.toInt + x10.toInt + 250).toNat) ((a_kinds S) (((f_size S).toInt - 1).toNat))) k) ((vp_updL (a_codes S) ((rv6.toInt + x10.toInt + 250).toNat) ((a_codes S) (((f_size S).toInt - 1).toNat))) k) ((vf_upd (a_reals S) ((rv6.toInt + x10.toInt + 250).toNat) ((a_reals S) (((f_size S).toInt - 1).toNat))) k) := vOk_upd i_vals (i_vals (((f_size S).toInt - 1).toNat) (by omega))
        have fa7 : ((upd (a_kinds S) ((rv6.toInt + x10.toInt + 250).toNat) ((a_kinds S) (((f_size S).toInt - 1).toNat))) ((rv6.toInt + x10.toInt + 250).toNat)).toInt = ((a_kinds S) (((f_size S).toInt - 1).toNat)).toInt := congrArg Int32.toInt upd_s
        have fa8 : ((vp_updL (a_codes S) ((rv6.toInt + x10.toInt + 250).toNat) ((a_codes S) (((f_size S).toInt - 1).toNat))) ((rv6.toInt + x10.toInt + 250).toNat)).toInt = ((a_codes S) (((f_size S).toInt - 1).toNat)).toInt := congrArg Int64.toInt updL_s
        refine lv_aload_n hx hb d_Mo_putEntry_89 rfl (lv_at hl 1 rfl) ?_
        refine lv_dup hx hb d_Mo_putEntry_90 rfl ?_
        refine va_get (D := D) (ci := 11) (v := .int (f_size S)) (C := "PageScribeModel") (T := F_Mo) (N := 45) hx hb hts i_Mo hown hK hP 0 mW_0 cl_11 4 (by decide) (hts _ k_6_164) (fun _ h9 => h9) (mg_size _ _) d_Mo_putEntry_91 ?_
        refine lv_iload hx hb d_Mo_putEntry_94 (lv_at hl 4 rfl) ?_
        refine lv_isub hx hb d_Mo_putEntry_96 ?_
        refine lv_topi (fun x19 ex19 => ?_)
        have fx19 : x19.toInt = ((f_size S).toInt - p1.toInt) := by rw [ex19]; exact (zt_sub (show (f_size S).toInt = _ from rfl) (show p1.toInt = _ from rfl) (by omega) (by omega)).trans (by omega)
        refine va_put (D := D) (ci := 11) (v := .int x19) (ty := .int) (C := "PageScribeModel") (T := F_Mo) (N := 45) hx hb hts i_Mo t_Mo t_Mo_ok n_Mo hown hK hP hD hS 0 mW_0 cl_11 4 (by decide) (hts _ k_6_164) (fun _ h9 => h9) rfl (by decide +kernel) rfl rfl (Nat.le_of_ble_eq_true rfl) d_Mo_putEntry_97 (fun H locs hP hD hS => ?_)
        rw [mp_size] at hP hD
        have hP : va_P D classes (mW T h0 ar ((((f_thrown S), (upd (a_kinds S) ((rv6.toInt + x10.toInt + 250).toNat) ((a_kinds S) (((f_size S).toInt - 1).toNat))), (vp_updL (a_codes S) ((rv6.toInt + x10.toInt + 250).toNat) ((a_codes S) (((f_size S).toInt - 1).toNat))), (vf_upd (a_reals S) ((rv6.toInt + x10.toInt + 250).toNat) ((a_reals S) (((f_size S).toInt - 1).toNat))), x19, (f_taken S), (vp_updL (a_words S) ((rv6.toInt + x10.toInt).toNat) v0), (upd (a_many S) (p0.toInt.toNat) x17)), S.2.1, S.2.2.1, S.2.2.2.1, S.2.2.2.2.1, S.2.2.2.2.2) : MS)) H := hP
        have hD : va_D A (mW T h0 ar ((((f_thrown S), (upd (a_kinds S) ((rv6.toInt + x10.toInt + 250).toNat) ((a_kinds S) (((f_size S).toInt - 1).toNat))), (vp_updL (a_codes S) ((rv6.toInt + x10.toInt + 250).toNat) ((a_codes S) (((f_size S).toInt - 1).toNat))), (vf_upd (a_reals S) ((rv6.toInt + x10.toInt + 250).toNat) ((a_reals S) (((f_size S).toInt - 1).toNat))), x19, (f_taken S), (vp_updL (a_words S) ((rv6.toInt + x10.toInt).toNat) v0), (upd (a_many S) (p0.toInt.toNat) x17)), S.2.1, S.2.2.1, S.2.2.2.1, S.2.2.2.2.1, S.2.2.2.2.2) : MS)) := hD
        refine lv_iconst (v := 0) hx hb d_Mo_putEntry_100 (by decide) ?_
        exact j_iret F hr hlocks hK hS ((((f_thrown S), (upd (a_kinds S) ((rv6.toInt + x10.toInt + 250).toNat) ((a_kinds S) (((f_size S).toInt - 1).toNat))), (vp_updL (a_codes S) ((rv6.toInt + x10.toInt + 250).toNat) ((a_codes S) (((f_size S).toInt - 1).toNat))), (vf_upd (a_reals S) ((rv6.toInt + x10.toInt + 250).toNat) ((a_reals S) (((f_size S).toInt - 1).toNat))), x19, (f_taken S), (vp_updL (a_words S) ((rv6.toInt + x10.toInt).toNat) v0), (upd (a_many S) (p0.toInt.toNat) x17)), S.2.1, S.2.2.1, S.2.2.2.1, S.2.2.2.2.1, S.2.2.2.2.2) : MS) ⟨⟨(show 0 ≤ x19.toInt ∧ x19.toInt ≤ 40 by omega), i_taken, i_vals, (rm_up (r := (a_room S)) i_room (by omega)), i_dicts, i_deep, i_open, i_cells, i_points, i_part, i_length, i_knows, i_page, i_text, i_pats, i_fuel, i_fr, i_ink⟩, (kA_r S), (kF_r S), (show (0 : Int32).toInt = 0 ∨ (0 : Int32).toInt = 8 by have := tI_0; omega)⟩ hP hD d_Mo_putEntry_101
    · have fc26_1 : x10.toInt = x11.toInt := zt_eq (show x10.toInt = _ from rfl) (show x11.toInt = _ from rfl) c26_1
      refine lv_bipush (v := 8) hx hb d_Mo_putEntry_29 (by decide) ?_
      exact j_iret F hr hlocks hK hS S ⟨⟨i_size, i_taken, i_vals, i_room, i_dicts, i_deep, i_open, i_cells, i_points, i_part, i_length, i_knows, i_page, i_text, i_pats, i_fuel, i_fr, i_ink⟩, (kA_r S), (kF_r S), (show (8 : Int32).toInt = 0 ∨ (8 : Int32).toInt = 8 by have := tI_8; omega)⟩ hP hD d_Mo_putEntry_31
theorem d_Mo_newDict_0 : decode prog_15_method_63_code 0 = .ok (.lload_n 1, 1) := by decide +kernel
theorem d_Mo_newDict_1 : decode prog_15_method_63_code 1 = .ok (.lconst 1, 1) := by decide +kernel
theorem d_Mo_newDict_2 : decode prog_15_method_63_code 2 = .ok (.lcmp, 1) := by decide +kernel
theorem d_Mo_newDict_3 : decode prog_15_method_63_code 3 = .ok (.ifCond .lt 11, 3) := by decide +kernel
theorem d_Mo_newDict_14 : decode prog_15_method_63_code 14 = .ok (.iconst 4, 1) := by decide +kernel
theorem d_Mo_newDict_15 : decode prog_15_method_63_code 15 = .ok (.ireturn, 1) := by decide +kernel
theorem d_Mo_newDict_6 : decode prog_15_method_63_code 6 = .ok (.lload_n 1, 1) := by decide +kernel
theorem d_Mo_newDict_7 : decode prog_15_method_63_code 7 = .ok (.ldc2_w 277, 3) := by decide +kernel
theorem k_7_101 : Cond.constantLong "PageScribeModel" 277 (10 : Int64) ∈ gw := gw_of (tb_7 (List.mem_of_getElem? (i := 101) (by decide +kernel))) (by decide +kernel)
theorem d_Mo_newDict_10 : decode prog_15_method_63_code 10 = .ok (.lcmp, 1) := by decide +kernel
theorem tJ_10 : (10 : Int64).toInt = 10 := by decide +kernel
theorem d_Mo_newDict_11 : decode prog_15_method_63_code 11 = .ok (.ifCond .le 5, 3) := by decide +kernel
theorem d_Mo_newDict_16 : decode prog_15_method_63_code 16 = .ok (.iconst 1, 1) := by decide +kernel
theorem d_Mo_newDict_17 : decode prog_15_method_63_code 17 = .ok (.istore_n 3, 1) := by decide +kernel
theorem d_Mo_newDict_18 : decode prog_15_method_63_code 18 = .ok (.iload_n 3, 1) := by decide +kernel
theorem d_Mo_newDict_19 : decode prog_15_method_63_code 19 = .ok (.bipush 7, 2) := by decide +kernel
theorem d_Mo_newDict_21 : decode prog_15_method_63_code 21 = .ok (.if_icmp .ge 18, 3) := by decide +kernel
theorem d_Mo_newDict_39 : decode prog_15_method_63_code 39 = .ok (.iload_n 3, 1) := by decide +kernel
theorem d_Mo_newDict_40 : decode prog_15_method_63_code 40 = .ok (.bipush 7, 2) := by decide +kernel
theorem d_Mo_newDict_42 : decode prog_15_method_63_code 42 = .ok (.if_icmp .ne 6, 3) := by decide +kernel
theorem d_Mo_newDict_48 : decode prog_15_method_63_code 48 = .ok (.aload_n 0, 1) := by decide +kernel
theorem d_Mo_newDict_49 : decode prog_15_method_63_code 49 = .ok (.getfield 27, 3) := by decide +kernel
theorem d_Mo_newDict_52 : decode prog_15_method_63_code 52 = .ok (.iload_n 3, 1) := by decide +kernel
theorem d_Mo_newDict_53 : decode prog_15_method_63_code 53 = .ok (.lload_n 1, 1) := by decide +kernel
theorem d_Mo_newDict_54 : decode prog_15_method_63_code 54 = .ok (.l2i, 1) := by decide +kernel
theorem d_Mo_newDict_55 : decode prog_15_method_63_code 55 = .ok (.iastore, 1) := by decide +kernel
theorem d_Mo_newDict_56 : decode prog_15_method_63_code 56 = .ok (.aload_n 0, 1) := by decide +kernel
theorem d_Mo_newDict_57 : decode prog_15_method_63_code 57 = .ok (.getfield 24, 3) := by decide +kernel
theorem d_Mo_newDict_60 : decode prog_15_method_63_code 60 = .ok (.iload_n 3, 1) := by decide +kernel
theorem d_Mo_newDict_61 : decode prog_15_method_63_code 61 = .ok (.iconst 0, 1) := by decide +kernel
theorem d_Mo_newDict_62 : decode prog_15_method_63_code 62 = .ok (.iastore, 1) := by decide +kernel
theorem d_Mo_newDict_63 : decode prog_15_method_63_code 63 = .ok (.aload_n 0, 1) := by decide +kernel
theorem d_Mo_newDict_64 : decode prog_15_method_63_code 64 = .ok (.iconst 1, 1) := by decide +kernel
theorem d_Mo_newDict_65 : decode prog_15_method_63_code 65 = .ok (.bipush 6, 2) := by decide +kernel
theorem d_Mo_newDict_67 : decode prog_15_method_63_code 67 = .ok (.iload_n 3, 1) := by decide +kernel
theorem d_Mo_newDict_68 : decode prog_15_method_63_code 68 = .ok (.i2l, 1) := by decide +kernel
theorem d_Mo_newDict_69 : decode prog_15_method_63_code 69 = .ok (.invokevirtual 262, 3) := by decide +kernel
theorem d_Mo_newDict_72 : decode prog_15_method_63_code 72 = .ok (.ireturn, 1) := by decide +kernel
theorem d_Mo_newDict_45 : decode prog_15_method_63_code 45 = .ok (.bipush 7, 2) := by decide +kernel
theorem d_Mo_newDict_47 : decode prog_15_method_63_code 47 = .ok (.ireturn, 1) := by decide +kernel
theorem d_Mo_newDict_24 : decode prog_15_method_63_code 24 = .ok (.aload_n 0, 1) := by decide +kernel
theorem d_Mo_newDict_25 : decode prog_15_method_63_code 25 = .ok (.getfield 27, 3) := by decide +kernel
theorem d_Mo_newDict_28 : decode prog_15_method_63_code 28 = .ok (.iload_n 3, 1) := by decide +kernel
theorem d_Mo_newDict_29 : decode prog_15_method_63_code 29 = .ok (.iaload, 1) := by decide +kernel
theorem d_Mo_newDict_30 : decode prog_15_method_63_code 30 = .ok (.ifCond .le 9, 3) := by decide +kernel
theorem d_Mo_newDict_33 : decode prog_15_method_63_code 33 = .ok (.iinc 3 1, 3) := by decide +kernel
theorem d_Mo_newDict_36 : decode prog_15_method_63_code 36 = .ok (.goto (-18), 3) := by decide +kernel
set_option maxHeartbeats 4000000 in
set_option maxRecDepth 100000 in
theorem m_newDict (l : Launch) (D : va_G) (T : Nat → ClassId) (h0 : Nat) (ar : Nat → Nat) (S : MS) (v0 : Int64) (sz : Nat) (hI : MI S) (h3 : 1 ≤ (f_size S).toInt) : Met l ⟨"PageScribeModel", "newDict", "(J)I"⟩ (wy ⟨"PageScribeModel", "newDict", "(J)I"⟩ prog_15_method_63_code 4 (some .int)) ({ frames := 2, cells := 0, slots := 0, locals := 140 }) (va_Pc [.ref h0, .long v0] (Pw D T (mW T h0 ar S) sz E0)) (va_Qi (fun (r : Int32) (u : MS) => MI u ∧ kA S u ∧ kF S u ∧ (r.toInt = 0 ∨ r.toInt = 4 ∨ r.toInt = 7)) (fun u t => Bw D T (va_A (mW T h0 ar S) sz) (mW T h0 ar u) t) (va_A (mW T h0 ar S) sz)) 0 0 (va_A (mW T h0 ar S) sz) := by
  refine j_met (y := ⟨"PageScribeModel", "newDict", "(J)I"⟩) (b := prog_15_method_63_code) (n := 4) (ret := (some .int)) (av := [.ref h0, .long v0]) (Qc := fun A => va_Qi (fun (r : Int32) (u : MS) => MI u ∧ kA S u ∧ kF S u ∧ (r.toInt = 0 ∨ r.toInt = 4 ∨ r.toInt = 7)) (fun u t => Bw D T A (mW T h0 ar u) t) A) (by decide +kernel) (Nat.le_of_ble_eq_true rfl) (fun p e s m args below meth c A ls F hr hlocks hnm hK hP hD hS hA hN hE hl => ?_)
  obtain ⟨hx, hb, hml, hown, hts⟩ := id F
  have hl : lv_has ls 4 [(0, .ref h0), (1, .long v0)] := hl
  obtain ⟨i_size, i_taken, i_vals, i_room, i_dicts, i_deep, i_open, i_cells, i_points, i_part, i_length, i_knows, i_page, i_text, i_pats, i_fuel, i_fr, i_ink⟩ := id hI
  refine lv_lload_n hx hb d_Mo_newDict_0 rfl (lv_at hl 1 rfl) ?_
  refine lv_lconst (v := 1) hx hb d_Mo_newDict_1 (by decide) ?_
  refine W.lcmp hx hb d_Mo_newDict_2 ?_
  refine lv_topi (fun x1 ex1 => ?_)
  refine lv_if_lt (tgt := 14) hx hb d_Mo_newDict_3 (by decide) (fun c3_1 => ?_) (fun c3_1 => ?_)
  · have fc3_1 : x1.toInt < 0 := zt_lt (show x1.toInt = _ from rfl) tI_0 c3_1
    have vc3_1 : v0.toInt < 1 := by have := zr_cmp ex1 (show v0.toInt = _ from rfl) tJ_1; have := zt_lt (show x1.toInt = _ from rfl) tI_0 c3_1; omega
    refine lv_iconst (v := 4) hx hb d_Mo_newDict_14 (by decide) ?_
    exact j_iret F hr hlocks hK hS S ⟨⟨i_size, i_taken, i_vals, i_room, i_dicts, i_deep, i_open, i_cells, i_points, i_part, i_length, i_knows, i_page, i_text, i_pats, i_fuel, i_fr, i_ink⟩, (kA_r S), (kF_r S), (show (4 : Int32).toInt = 0 ∨ (4 : Int32).toInt = 4 ∨ (4 : Int32).toInt = 7 by have := tI_4; omega)⟩ hP hD d_Mo_newDict_15
  · have fc3_1 : 0 ≤ x1.toInt := Int.not_lt.mp (zt_nlt (show x1.toInt = _ from rfl) tI_0 c3_1)
    have vc3_1 : v0.toInt ≥ 1 := by have := zr_cmp ex1 (show v0.toInt = _ from rfl) tJ_1; have := Int.not_lt.mp (zt_nlt (show x1.toInt = _ from rfl) tI_0 c3_1); omega
    refine lv_lload_n hx hb d_Mo_newDict_6 rfl (lv_at hl 1 rfl) ?_
    refine lv_ldc2 (v := (10)) hx hb hown (hts _ k_7_101) d_Mo_newDict_7 ?_
    refine W.lcmp hx hb d_Mo_newDict_10 ?_
    refine lv_topi (fun x2 ex2 => ?_)
    refine lv_if_le (tgt := 16) hx hb d_Mo_newDict_11 (by decide) (fun c11_1 => ?_) (fun c11_1 => ?_)
    · have fc11_1 : x2.toInt ≤ 0 := zt_le (show x2.toInt = _ from rfl) tI_0 c11_1
      have vc11_1 : v0.toInt ≤ 10 := by have := zr_cmp ex2 (show v0.toInt = _ from rfl) tJ_10; have := zt_le (show x2.toInt = _ from rfl) tI_0 c11_1; omega
      refine lv_iconst (v := 1) hx hb d_Mo_newDict_16 (by decide) ?_
      refine lv_istore_n (lv' := [(3, .int 1), (0, .ref h0), (1, .long v0)]) hx hb d_Mo_newDict_17 rfl hl (by decide) rfl (fun ls hl => ?_)
      refine j_loop (α := Int32) (fun k x H locs ls => (1 ≤ x.toInt ∧ x.toInt ≤ 7 ∧ 7 ≤ x.toInt + ((k : Nat) : Int)) ∧ va_P D classes (mW T h0 ar S) H ∧ va_D A (mW T h0 ar S) ∧ va_S A s.heap H locs ∧ lv_has ls 4 [(3, .int x), (0, .ref h0), (1, .long v0)]) (fun _ _ ls => F0 m 18 ls []) (fun k x H locs ls hI9 ih => ?_) 7 (1 : Int32) _ _ _ ⟨(show 1 ≤ (1 : Int32).toInt ∧ (1 : Int32).toInt ≤ 7 ∧ 7 ≤ (1 : Int32).toInt + ((7 : Nat) : Int) by have := tI_1; omega), hP, hD, hS, lv_sub hl [0, 1, 2] rfl⟩
      obtain ⟨i, rfl⟩ : ∃ z, z = x := ⟨_, rfl⟩
      obtain ⟨hf1, hP, hD, hS, hl⟩ := hI9
      have hf1 : 1 ≤ i.toInt ∧ i.toInt ≤ 7 ∧ 7 ≤ i.toInt + ((k : Nat) : Int) := hf1
      have hP : va_P D classes (mW T h0 ar S) H := hP
      have hD : va_D A (mW T h0 ar S) := hD
      have hl : lv_has ls 4 [(3, .int i), (0, .ref h0), (1, .long v0)] := hl
      refine lv_iload_n hx hb d_Mo_newDict_18 rfl (lv_at hl 0 rfl) ?_
      refine lv_bipush (v := 7) hx hb d_Mo_newDict_19 (by decide) ?_
      refine lv_icmp_ge (tgt := 39) hx hb d_Mo_newDict_21 (by decide) (fun c21_1 => ?_) (fun c21_1 => ?_)
      · have fc21_1 : 7 ≤ i.toInt := zt_le tI_7 (show i.toInt = _ from rfl) c21_1
        refine lv_iload_n hx hb d_Mo_newDict_39 rfl (lv_at hl 0 rfl) ?_
        refine lv_bipush (v := 7) hx hb d_Mo_newDict_40 (by decide) ?_
        refine lv_icmp_ne (tgt := 48) hx hb d_Mo_newDict_42 (by decide) (fun c42_1 => ?_) (fun c42_1 => ?_)
        · first | have fc42_1 : i.toInt < 7 := (by have := zt_ne (show i.toInt = _ from rfl) tI_7 c42_1; omega) | have fc42_1 : 7 < i.toInt := (by have := zt_ne (show i.toInt = _ from rfl) tI_7 c42_1; omega) | skip
          refine lv_aload_n hx hb d_Mo_newDict_48 rfl (lv_at hl 1 rfl) ?_
          refine va_get (D := D) (ci := 11) (v := .ref (ar 5)) (C := "PageScribeModel") (T := F_Mo) (N := 45) hx hb hts i_Mo hown hK hP 0 mW_0 cl_11 8 (by decide) (hts _ k_6_168) (fun _ h9 => h9) (mg_room _ _) d_Mo_newDict_49 ?_
          refine lv_iload_n hx hb d_Mo_newDict_52 rfl (lv_at hl 0 rfl) ?_
          refine lv_lload_n hx hb d_Mo_newDict_53 rfl (lv_at hl 2 rfl) ?_
          refine lv_l2i (v := (v0).toInt32) hx hb d_Mo_newDict_54 rfl ?_
          refine lv_topi (fun x3 ex3 => ?_)
          have wx3 := zt_rng x3
          have fx3 : x3.toInt = v0.toInt := by rw [ex3]; exact zt_l2i (show v0.toInt = _ from rfl) (by omega) (by omega)
          refine va_iast hx hb hK hP hD hS 6 0 (ma_room _ _ _ _) rfl (zt_in (show i.toInt = _ from rfl) (by omega) (by omega)) d_Mo_newDict_55 (fun H locs hP hD hS => ?_)
          rw [ms_room] at hP hD
          rw [zt_ix (show i.toInt = _ from rfl)] at hP hD
          have hP : va_P D classes (mW T h0 ar ((S.1, ((upd (a_room S) (i.toInt.toNat) x3), (a_dicts S), (f_deep S), (f_saves S), (f_open S), (a_numbers S), (a_cells S), (f_frames S)), S.2.2.1, S.2.2.2.1, S.2.2.2.2.1, S.2.2.2.2.2) : MS)) H := hP
          have hD : va_D A (mW T h0 ar ((S.1, ((upd (a_room S) (i.toInt.toNat) x3), (a_dicts S), (f_deep S), (f_saves S), (f_open S), (a_numbers S), (a_cells S), (f_frames S)), S.2.2.1, S.2.2.2.1, S.2.2.2.2.1, S.2.2.2.2.2) : MS)) := hD
          refine lv_aload_n hx hb d_Mo_newDict_56 rfl (lv_at hl 1 rfl) ?_
          refine va_get (D := D) (ci := 11) (v := .ref (ar 4)) (C := "PageScribeModel") (T := F_Mo) (N := 45) hx hb hts i_Mo hown hK hP 0 mW_0 cl_11 7 (by decide) (hts _ k_6_167) (fun _ h9 => h9) (mg_many _ _) d_Mo_newDict_57 ?_
          refine lv_iload_n hx hb d_Mo_newDict_60 rfl (lv_at hl 0 rfl) ?_
          refine lv_iconst (v := 0) hx hb d_Mo_newDict_61 (by decide) ?_
          refine va_iast hx hb hK hP hD hS 5 0 (ma_many _ _ _ _) rfl (zt_in (show i.toInt = _ from rfl) (by omega) (by omega)) d_Mo_newDict_62 (fun H locs hP hD hS => ?_)
          rw [ms_many] at hP hD
          rw [zt_ix (show i.toInt = _ from rfl)] at hP hD
          have hP : va_P D classes (mW T h0 ar ((((f_thrown S), (a_kinds S), (a_codes S), (a_reals S), (f_size S), (f_taken S), (a_words S), (upd (a_many S) (i.toInt.toNat) (0 : Int32))), ((upd (a_room S) (i.toInt.toNat) x3), (a_dicts S), (f_deep S), (f_saves S), (f_open S), (a_numbers S), (a_cells S), (f_frames S)), S.2.2.1, S.2.2.2.1, S.2.2.2.2.1, S.2.2.2.2.2) : MS)) H := hP
          have hD : va_D A (mW T h0 ar ((((f_thrown S), (a_kinds S), (a_codes S), (a_reals S), (f_size S), (f_taken S), (a_words S), (upd (a_many S) (i.toInt.toNat) (0 : Int32))), ((upd (a_room S) (i.toInt.toNat) x3), (a_dicts S), (f_deep S), (f_saves S), (f_open S), (a_numbers S), (a_cells S), (f_frames S)), S.2.2.1, S.2.2.2.1, S.2.2.2.2.1, S.2.2.2.2.2) : MS)) := hD
          refine lv_aload_n hx hb d_Mo_newDict_63 rfl (lv_at hl 1 rfl) ?_
          refine lv_iconst (v := 1) hx hb d_Mo_newDict_64 (by decide) ?_
          refine lv_bipush (v := 6) hx hb d_Mo_newDict_65 (by decide) ?_
          refine lv_iload_n hx hb d_Mo_newDict_67 rfl (lv_at hl 0 rfl) ?_
          refine lv_i2l (v := (i).toInt64) hx hb d_Mo_newDict_68 rfl ?_
          refine lv_topl (fun x4 ex4 => ?_)
          have fx4 : x4.toInt = i.toInt := by rw [ex4]; exact zu_i2l (show i.toInt = _ from rfl)
          refine jm_ci (w := (fun u => u)) hK hP hD hS hA (va_runV (As := [.int 1, .int 6, .long x4]) (rest := []) F (m_give l D T h0 ar ((((f_thrown S), (a_kinds S), (a_codes S), (a_reals S), (f_size S), (f_taken S), (a_words S), (upd (a_many S) (i.toInt.toNat) (0 : Int32))), ((upd (a_room S) (i.toInt.toNat) x3), (a_dicts S), (f_deep S), (f_saves S), (f_open S), (a_numbers S), (a_cells S), (f_frames S)), S.2.2.1, S.2.2.2.1, S.2.2.2.2.1, S.2.2.2.2.2) : MS) (1 : Int32) (6 : Int32) x4 H.size ⟨i_size, i_taken, i_vals, (rm_new i_room (by have := tI_0; omega)), i_dicts, i_deep, i_open, i_cells, i_points, i_part, i_length, i_knows, i_page, i_text, i_pats, i_fuel, i_fr, i_ink⟩ (show 0 ≤ (1 : Int32).toInt ∧ (1 : Int32).toInt ≤ (f_size S).toInt ∧ (f_size S).toInt - (1 : Int32).toInt ≤ 39 by have := tI_1; have := tI_6; first | omega | (simp only [fx4]; omega)) (vO_dict tI_6 (by omega))) (j_cV (k := 3) (C := "PageScribeModel") hts k_7_221 k_1_12 k_7_218 k_7_220 k_0_113 (by decide +kernel) ⟨Nat.le_of_ble_eq_true rfl, Nat.le_of_ble_eq_true rfl⟩) (jm_pre hK hP hD) rfl rfl hl.1 rfl (lv_room (Nat.le_of_ble_eq_true rfl)) d_Mo_newDict_69 ⟨Nat.le_of_ble_eq_true rfl, Nat.le_of_ble_eq_true rfl⟩) (fun rv1 S1 H locs hw1 hP hD hS => ?_)
          have hP : va_P D classes (mW T h0 ar S1) H := hP
          have hD : va_D A (mW T h0 ar S1) := hD
          obtain ⟨⟨i_size, i_taken, i_vals, i_room, i_dicts, i_deep, i_open, i_cells, i_points, i_part, i_length, i_knows, i_page, i_text, i_pats, i_fuel, i_fr, i_ink⟩, kpA_S1, kpF_S1, qqhw1⟩ := hw1
          have kSA_S1 : kA S S1 := kA_t (show kA S ((((f_thrown S), (a_kinds S), (a_codes S), (a_reals S), (f_size S), (f_taken S), (a_words S), (upd (a_many S) (i.toInt.toNat) (0 : Int32))), ((upd (a_room S) (i.toInt.toNat) x3), (a_dicts S), (f_deep S), (f_saves S), (f_open S), (a_numbers S), (a_cells S), (f_frames S)), S.2.2.1, S.2.2.2.1, S.2.2.2.2.1, S.2.2.2.2.2) : MS) from (kA_r S)) kpA_S1
          have kSF_S1 : kF S S1 := kF_t (show kF S ((((f_thrown S), (a_kinds S), (a_codes S), (a_reals S), (f_size S), (f_taken S), (a_words S), (upd (a_many S) (i.toInt.toNat) (0 : Int32))), ((upd (a_room S) (i.toInt.toNat) x3), (a_dicts S), (f_deep S), (f_saves S), (f_open S), (a_numbers S), (a_cells S), (f_frames S)), S.2.2.1, S.2.2.2.1, S.2.2.2.2.1, S.2.2.2.2.2) : MS) from (kF_r S)) kpF_S1
          have kST_S1 : kT S S1 := kT_t (show kT S ((((f_thrown S), (a_kinds S), (a_codes S), (a_reals S), (f_size S), (f_taken S), (a_words S), (upd (a_many S) (i.toInt.toNat) (0 : Int32))), ((upd (a_room S) (i.toInt.toNat) x3), (a_dicts S), (f_deep S), (f_saves S), (f_open S), (a_numbers S), (a_cells S), (f_frames S)), S.2.2.1, S.2.2.2.1, S.2.2.2.2.1, S.2.2.2.2.2) : MS) from (kT_r S)) (kT_A kpA_S1)
          have qhw1 : rv1.toInt = 0 ∧ (f_taken S1).toInt = (f_taken S).toInt := by simpa only [fx4, tI_1, tI_6] using qqhw1
          exact j_iret F hr hlocks hK hS S1 ⟨⟨i_size, i_taken, i_vals, i_room, i_dicts, i_deep, i_open, i_cells, i_points, i_part, i_length, i_knows, i_page, i_text, i_pats, i_fuel, i_fr, i_ink⟩, kSA_S1, kSF_S1, (show rv1.toInt = 0 ∨ rv1.toInt = 4 ∨ rv1.toInt = 7 by omega)⟩ hP hD d_Mo_newDict_72
        · have fc42_1 : i.toInt = 7 := zt_eq (show i.toInt = _ from rfl) tI_7 c42_1
          refine lv_bipush (v := 7) hx hb d_Mo_newDict_45 (by decide) ?_
          exact j_iret F hr hlocks hK hS S ⟨⟨i_size, i_taken, i_vals, i_room, i_dicts, i_deep, i_open, i_cells, i_points, i_part, i_length, i_knows, i_page, i_text, i_pats, i_fuel, i_fr, i_ink⟩, (kA_r S), (kF_r S), (show (7 : Int32).toInt = 0 ∨ (7 : Int32).toInt = 4 ∨ (7 : Int32).toInt = 7 by have := tI_7; omega)⟩ hP hD d_Mo_newDict_47
      · have fc21_1 : i.toInt < 7 := Int.not_le.mp (zt_nle tI_7 (show i.toInt = _ from rfl) c21_1)
        refine lv_aload_n hx hb d_Mo_newDict_24 rfl (lv_at hl 1 rfl) ?_
        refine va_get (D := D) (ci := 11) (v := .ref (ar 5)) (C := "PageScribeModel") (T := F_Mo) (N := 45) hx hb hts i_Mo hown hK hP 0 mW_0 cl_11 8 (by decide) (hts _ k_6_168) (fun _ h9 => h9) (mg_room _ _) d_Mo_newDict_25 ?_
        refine lv_iload_n hx hb d_Mo_newDict_28 rfl (lv_at hl 0 rfl) ?_
        refine va_iald hx hb hK hP 6 0 (ma_room _ _ _ _) rfl (zt_in (show i.toInt = _ from rfl) (by omega) (by omega)) d_Mo_newDict_29 ?_
        refine lv_topi (fun x5 ex5 => ?_)
        have gx5 : x5 = (a_room S) i.toInt.toNat := ex5.trans (congrArg _ (zt_ix (show i.toInt = _ from rfl)))
        have fx5 : x5.toInt = ((a_room S) i.toInt.toNat).toInt := by rw [gx5]
        have kx5 := rm_at i_room (k := i.toInt.toNat) (by omega)
        refine lv_if_le (tgt := 39) hx hb d_Mo_newDict_30 (by decide) (fun c30_1 => ?_) (fun c30_1 => ?_)
        · have fc30_1 : x5.toInt ≤ 0 := zt_le (show x5.toInt = _ from rfl) tI_0 c30_1
          refine lv_iload_n hx hb d_Mo_newDict_39 rfl (lv_at hl 0 rfl) ?_
          refine lv_bipush (v := 7) hx hb d_Mo_newDict_40 (by decide) ?_
          refine lv_icmp_ne (tgt := 48) hx hb d_Mo_newDict_42 (by decide) (fun c42_2 => ?_) (fun c42_2 => ?_)
          · first | have fc42_2 : i.toInt < 7 := (by have := zt_ne (show i.toInt = _ from rfl) tI_7 c42_2; omega) | have fc42_2 : 7 < i.toInt := (by have := zt_ne (show i.toInt = _ from rfl) tI_7 c42_2; omega) | skip
            refine lv_aload_n hx hb d_Mo_newDict_48 rfl (lv_at hl 1 rfl) ?_
            refine va_get (D := D) (ci := 11) (v := .ref (ar 5)) (C := "PageScribeModel") (T := F_Mo) (N := 45) hx hb hts i_Mo hown hK hP 0 mW_0 cl_11 8 (by decide) (hts _ k_6_168) (fun _ h9 => h9) (mg_room _ _) d_Mo_newDict_49 ?_
            refine lv_iload_n hx hb d_Mo_newDict_52 rfl (lv_at hl 0 rfl) ?_
            refine lv_lload_n hx hb d_Mo_newDict_53 rfl (lv_at hl 2 rfl) ?_
            refine lv_l2i (v := (v0).toInt32) hx hb d_Mo_newDict_54 rfl ?_
            refine lv_topi (fun x6 ex6 => ?_)
            have wx6 := zt_rng x6
            have fx6 : x6.toInt = v0.toInt := by rw [ex6]; exact zt_l2i (show v0.toInt = _ from rfl) (by omega) (by omega)
            refine va_iast hx hb hK hP hD hS 6 0 (ma_room _ _ _ _) rfl (zt_in (show i.toInt = _ from rfl) (by omega) (by omega)) d_Mo_newDict_55 (fun H locs hP hD hS => ?_)
            rw [ms_room] at hP hD
            rw [zt_ix (show i.toInt = _ from rfl)] at hP hD
            have hP : va_P D classes (mW T h0 ar ((S.1, ((upd (a_room S) (i.toInt.toNat) x6), (a_dicts S), (f_deep S), (f_saves S), (f_open S), (a_numbers S), (a_cells S), (f_frames S)), S.2.2.1, S.2.2.2.1, S.2.2.2.2.1, S.2.2.2.2.2) : MS)) H := hP
            have hD : va_D A (mW T h0 ar ((S.1, ((upd (a_room S) (i.toInt.toNat) x6), (a_dicts S), (f_deep S), (f_saves S), (f_open S), (a_numbers S), (a_cells S), (f_frames S)), S.2.2.1, S.2.2.2.1, S.2.2.2.2.1, S.2.2.2.2.2) : MS)) := hD
            refine lv_aload_n hx hb d_Mo_newDict_56 rfl (lv_at hl 1 rfl) ?_
            refine va_get (D := D) (ci := 11) (v := .ref (ar 4)) (C := "PageScribeModel") (T := F_Mo) (N := 45) hx hb hts i_Mo hown hK hP 0 mW_0 cl_11 7 (by decide) (hts _ k_6_167) (fun _ h9 => h9) (mg_many _ _) d_Mo_newDict_57 ?_
            refine lv_iload_n hx hb d_Mo_newDict_60 rfl (lv_at hl 0 rfl) ?_
            refine lv_iconst (v := 0) hx hb d_Mo_newDict_61 (by decide) ?_
            refine va_iast hx hb hK hP hD hS 5 0 (ma_many _ _ _ _) rfl (zt_in (show i.toInt = _ from rfl) (by omega) (by omega)) d_Mo_newDict_62 (fun H locs hP hD hS => ?_)
            rw [ms_many] at hP hD
            rw [zt_ix (show i.toInt = _ from rfl)] at hP hD
            have hP : va_P D classes (mW T h0 ar ((((f_thrown S), (a_kinds S), (a_codes S), (a_reals S), (f_size S), (f_taken S), (a_words S), (upd (a_many S) (i.toInt.toNat) (0 : Int32))), ((upd (a_room S) (i.toInt.toNat) x6), (a_dicts S), (f_deep S), (f_saves S), (f_open S), (a_numbers S), (a_cells S), (f_frames S)), S.2.2.1, S.2.2.2.1, S.2.2.2.2.1, S.2.2.2.2.2) : MS)) H := hP
            have hD : va_D A (mW T h0 ar ((((f_thrown S), (a_kinds S), (a_codes S), (a_reals S), (f_size S), (f_taken S), (a_words S), (upd (a_many S) (i.toInt.toNat) (0 : Int32))), ((upd (a_room S) (i.toInt.toNat) x6), (a_dicts S), (f_deep S), (f_saves S), (f_open S), (a_numbers S), (a_cells S), (f_frames S)), S.2.2.1, S.2.2.2.1, S.2.2.2.2.1, S.2.2.2.2.2) : MS)) := hD
            refine lv_aload_n hx hb d_Mo_newDict_63 rfl (lv_at hl 1 rfl) ?_
            refine lv_iconst (v := 1) hx hb d_Mo_newDict_64 (by decide) ?_
            refine lv_bipush (v := 6) hx hb d_Mo_newDict_65 (by decide) ?_
            refine lv_iload_n hx hb d_Mo_newDict_67 rfl (lv_at hl 0 rfl) ?_
            refine lv_i2l (v := (i).toInt64) hx hb d_Mo_newDict_68 rfl ?_
            refine lv_topl (fun x7 ex7 => ?_)
            have fx7 : x7.toInt = i.toInt := by rw [ex7]; exact zu_i2l (show i.toInt = _ from rfl)
            refine jm_ci (w := (fun u => u)) hK hP hD hS hA (va_runV (As := [.int 1, .int 6, .long x7]) (rest := []) F (m_give l D T h0 ar ((((f_thrown S), (a_kinds S), (a_codes S), (a_reals S), (f_size S), (f_taken S), (a_words S), (upd (a_many S) (i.toInt.toNat) (0 : Int32))), ((upd (a_room S) (i.toInt.toNat) x6), (a_dicts S), (f_deep S), (f_saves S), (f_open S), (a_numbers S), (a_cells S), (f_frames S)), S.2.2.1, S.2.2.2.1, S.2.2.2.2.1, S.2.2.2.2.2) : MS) (1 : Int32) (6 : Int32) x7 H.size ⟨i_size, i_taken, i_vals, (rm_new i_room (by have := tI_0; omega)), i_dicts, i_deep, i_open, i_cells, i_points, i_part, i_length, i_knows, i_page, i_text, i_pats, i_fuel, i_fr, i_ink⟩ (show 0 ≤ (1 : Int32).toInt ∧ (1 : Int32).toInt ≤ (f_size S).toInt ∧ (f_size S).toInt - (1 : Int32).toInt ≤ 39 by have := tI_1; have := tI_6; first | omega | (simp only [fx7]; omega)) (vO_dict tI_6 (by omega))) (j_cV (k := 3) (C := "PageScribeModel") hts k_7_221 k_1_12 k_7_218 k_7_220 k_0_113 (by decide +kernel) ⟨Nat.le_of_ble_eq_true rfl, Nat.le_of_ble_eq_true rfl⟩) (jm_pre hK hP hD) rfl rfl hl.1 rfl (lv_room (Nat.le_of_ble_eq_true rfl)) d_Mo_newDict_69 ⟨Nat.le_of_ble_eq_true rfl, Nat.le_of_ble_eq_true rfl⟩) (fun rv2 S2 H locs hw2 hP hD hS => ?_)
            have hP : va_P D classes (mW T h0 ar S2) H := hP
            have hD : va_D A (mW T h0 ar S2) := hD
            obtain ⟨⟨i_size, i_taken, i_vals, i_room, i_dicts, i_deep, i_open, i_cells, i_points, i_part, i_length, i_knows, i_page, i_text, i_pats, i_fuel, i_fr, i_ink⟩, kpA_S2, kpF_S2, qqhw2⟩ := hw2
            have kSA_S2 : kA S S2 := kA_t (show kA S ((((f_thrown S), (a_kinds S), (a_codes S), (a_reals S), (f_size S), (f_taken S), (a_words S), (upd (a_many S) (i.toInt.toNat) (0 : Int32))), ((upd (a_room S) (i.toInt.toNat) x6), (a_dicts S), (f_deep S), (f_saves S), (f_open S), (a_numbers S), (a_cells S), (f_frames S)), S.2.2.1, S.2.2.2.1, S.2.2.2.2.1, S.2.2.2.2.2) : MS) from (kA_r S)) kpA_S2
            have kSF_S2 : kF S S2 := kF_t (show kF S ((((f_thrown S), (a_kinds S), (a_codes S), (a_reals S), (f_size S), (f_taken S), (a_words S), (upd (a_many S) (i.toInt.toNat) (0 : Int32))), ((upd (a_room S) (i.toInt.toNat) x6), (a_dicts S), (f_deep S), (f_saves S), (f_open S), (a_numbers S), (a_cells S), (f_frames S)), S.2.2.1, S.2.2.2.1, S.2.2.2.2.1, S.2.2.2.2.2) : MS) from (kF_r S)) kpF_S2
            have kST_S2 : kT S S2 := kT_t (show kT S ((((f_thrown S), (a_kinds S), (a_codes S), (a_reals S), (f_size S), (f_taken S), (a_words S), (upd (a_many S) (i.toInt.toNat) (0 : Int32))), ((upd (a_room S) (i.toInt.toNat) x6), (a_dicts S), (f_deep S), (f_saves S), (f_open S), (a_numbers S), (a_cells S), (f_frames S)), S.2.2.1, S.2.2.2.1, S.2.2.2.2.1, S.2.2.2.2.2) : MS) from (kT_r S)) (kT_A kpA_S2)
            have qhw2 : rv2.toInt = 0 ∧ (f_taken S2).toInt = (f_taken S).toInt := by simpa only [fx7, tI_1, tI_6] using qqhw2
            exact j_iret F hr hlocks hK hS S2 ⟨⟨i_size, i_taken, i_vals, i_room, i_dicts, i_deep, i_open, i_cells, i_points, i_part, i_length, i_knows, i_page, i_text, i_pats, i_fuel, i_fr, i_ink⟩, kSA_S2, kSF_S2, (show rv2.toInt = 0 ∨ rv2.toInt = 4 ∨ rv2.toInt = 7 by omega)⟩ hP hD d_Mo_newDict_72
          · have fc42_2 : i.toInt = 7 := zt_eq (show i.toInt = _ from rfl) tI_7 c42_2
            refine lv_bipush (v := 7) hx hb d_Mo_newDict_45 (by decide) ?_
            exact j_iret F hr hlocks hK hS S ⟨⟨i_size, i_taken, i_vals, i_room, i_dicts, i_deep, i_open, i_cells, i_points, i_part, i_length, i_knows, i_page, i_text, i_pats, i_fuel, i_fr, i_ink⟩, (kA_r S), (kF_r S), (show (7 : Int32).toInt = 0 ∨ (7 : Int32).toInt = 4 ∨ (7 : Int32).toInt = 7 by have := tI_7; omega)⟩ hP hD d_Mo_newDict_47
        · have fc30_1 : 0 < x5.toInt := Int.not_le.mp (zt_nle (show x5.toInt = _ from rfl) tI_0 c30_1)
          refine lv_iinc (v := (i + 1)) (lv' := [(3, .int (i + 1)), (0, .ref h0), (1, .long v0)]) hx hb d_Mo_newDict_33 hl (k := 0) rfl (by first | rfl | decide) (by decide) rfl (fun ls hl => ?_)
          obtain ⟨x8, ex8⟩ : ∃ z, z = (i + 1) := ⟨_, rfl⟩
          rw [← ex8] at hl
          have fx8 : x8.toInt = (i.toInt + 1) := by rw [ex8]; exact (zt_add (show i.toInt = _ from rfl) tI_1 (by omega) (by omega)).trans (by omega)
          have hl : lv_has ls 4 [(3, .int x8), (0, .ref h0), (1, .long v0)] := hl
          refine lv_goto (tgt := 18) hx hb d_Mo_newDict_36 (by decide) ?_
          exact ih (k - 1) x8 _ _ _ (by omega) ⟨(show 1 ≤ x8.toInt ∧ x8.toInt ≤ 7 ∧ 7 ≤ x8.toInt + (((k - 1) : Nat) : Int) by omega), hP, hD, hS, lv_sub hl [0, 1, 2] rfl⟩
    · have fc11_1 : 0 < x2.toInt := Int.not_le.mp (zt_nle (show x2.toInt = _ from rfl) tI_0 c11_1)
      have vc11_1 : v0.toInt > 10 := by have := zr_cmp ex2 (show v0.toInt = _ from rfl) tJ_10; have := Int.not_le.mp (zt_nle (show x2.toInt = _ from rfl) tI_0 c11_1); omega
      refine lv_iconst (v := 4) hx hb d_Mo_newDict_14 (by decide) ?_
      exact j_iret F hr hlocks hK hS S ⟨⟨i_size, i_taken, i_vals, i_room, i_dicts, i_deep, i_open, i_cells, i_points, i_part, i_length, i_knows, i_page, i_text, i_pats, i_fuel, i_fr, i_ink⟩, (kA_r S), (kF_r S), (show (4 : Int32).toInt = 0 ∨ (4 : Int32).toInt = 4 ∨ (4 : Int32).toInt = 7 by have := tI_4; omega)⟩ hP hD d_Mo_newDict_15
