theorem d_Mo_load_0 : decode prog_15_method_58_code 0 = .ok (.lload_n 1, 1) := by decide +kernel
theorem d_Mo_load_1 : decode prog_15_method_58_code 1 = .ok (.invokestatic 391, 3) := by decide +kernel
theorem d_Mo_load_4 : decode prog_15_method_58_code 4 = .ok (.istore_n 3, 1) := by decide +kernel
theorem d_Mo_load_5 : decode prog_15_method_58_code 5 = .ok (.aload_n 0, 1) := by decide +kernel
theorem d_Mo_load_6 : decode prog_15_method_58_code 6 = .ok (.getfield 247, 3) := by decide +kernel
theorem d_Mo_load_9 : decode prog_15_method_58_code 9 = .ok (.iconst 1, 1) := by decide +kernel
theorem d_Mo_load_10 : decode prog_15_method_58_code 10 = .ok (.isub, 1) := by decide +kernel
theorem d_Mo_load_11 : decode prog_15_method_58_code 11 = .ok (.istore 4, 2) := by decide +kernel
theorem d_Mo_load_13 : decode prog_15_method_58_code 13 = .ok (.aload_n 0, 1) := by decide +kernel
theorem d_Mo_load_14 : decode prog_15_method_58_code 14 = .ok (.getfield 247, 3) := by decide +kernel
theorem d_Mo_load_17 : decode prog_15_method_58_code 17 = .ok (.iload_n 3, 1) := by decide +kernel
theorem d_Mo_load_18 : decode prog_15_method_58_code 18 = .ok (.iadd, 1) := by decide +kernel
theorem d_Mo_load_19 : decode prog_15_method_58_code 19 = .ok (.bipush 40, 2) := by decide +kernel
theorem d_Mo_load_21 : decode prog_15_method_58_code 21 = .ok (.if_icmp .le 5, 3) := by decide +kernel
theorem d_Mo_load_26 : decode prog_15_method_58_code 26 = .ok (.aload_n 0, 1) := by decide +kernel
theorem d_Mo_load_27 : decode prog_15_method_58_code 27 = .ok (.iload 4, 2) := by decide +kernel
theorem d_Mo_load_29 : decode prog_15_method_58_code 29 = .ok (.iload_n 3, 1) := by decide +kernel
theorem d_Mo_load_30 : decode prog_15_method_58_code 30 = .ok (.iadd, 1) := by decide +kernel
theorem d_Mo_load_31 : decode prog_15_method_58_code 31 = .ok (.iload 4, 2) := by decide +kernel
theorem d_Mo_load_33 : decode prog_15_method_58_code 33 = .ok (.invokevirtual 254, 3) := by decide +kernel
theorem d_Mo_load_36 : decode prog_15_method_58_code 36 = .ok (.iconst 0, 1) := by decide +kernel
theorem d_Mo_load_37 : decode prog_15_method_58_code 37 = .ok (.istore 5, 2) := by decide +kernel
theorem d_Mo_load_39 : decode prog_15_method_58_code 39 = .ok (.iload 5, 2) := by decide +kernel
theorem d_Mo_load_41 : decode prog_15_method_58_code 41 = .ok (.iload_n 3, 1) := by decide +kernel
theorem d_Mo_load_42 : decode prog_15_method_58_code 42 = .ok (.if_icmp .ge 28, 3) := by decide +kernel
theorem d_Mo_load_70 : decode prog_15_method_58_code 70 = .ok (.aload_n 0, 1) := by decide +kernel
theorem d_Mo_load_71 : decode prog_15_method_58_code 71 = .ok (.dup, 1) := by decide +kernel
theorem d_Mo_load_72 : decode prog_15_method_58_code 72 = .ok (.getfield 247, 3) := by decide +kernel
theorem d_Mo_load_75 : decode prog_15_method_58_code 75 = .ok (.iload_n 3, 1) := by decide +kernel
theorem d_Mo_load_76 : decode prog_15_method_58_code 76 = .ok (.iadd, 1) := by decide +kernel
theorem d_Mo_load_77 : decode prog_15_method_58_code 77 = .ok (.putfield 247, 3) := by decide +kernel
theorem d_Mo_load_80 : decode prog_15_method_58_code 80 = .ok (.iconst 0, 1) := by decide +kernel
theorem d_Mo_load_81 : decode prog_15_method_58_code 81 = .ok (.ireturn, 1) := by decide +kernel
theorem d_Mo_load_45 : decode prog_15_method_58_code 45 = .ok (.aload_n 0, 1) := by decide +kernel
theorem d_Mo_load_46 : decode prog_15_method_58_code 46 = .ok (.iload 4, 2) := by decide +kernel
theorem d_Mo_load_48 : decode prog_15_method_58_code 48 = .ok (.iload 5, 2) := by decide +kernel
theorem d_Mo_load_50 : decode prog_15_method_58_code 50 = .ok (.iadd, 1) := by decide +kernel
theorem d_Mo_load_51 : decode prog_15_method_58_code 51 = .ok (.bipush 50, 2) := by decide +kernel
theorem d_Mo_load_53 : decode prog_15_method_58_code 53 = .ok (.lload_n 1, 1) := by decide +kernel
theorem d_Mo_load_54 : decode prog_15_method_58_code 54 = .ok (.invokestatic 394, 3) := by decide +kernel
theorem d_Mo_load_57 : decode prog_15_method_58_code 57 = .ok (.iadd, 1) := by decide +kernel
theorem d_Mo_load_58 : decode prog_15_method_58_code 58 = .ok (.iload 5, 2) := by decide +kernel
theorem d_Mo_load_60 : decode prog_15_method_58_code 60 = .ok (.iadd, 1) := by decide +kernel
theorem d_Mo_load_61 : decode prog_15_method_58_code 61 = .ok (.invokevirtual 254, 3) := by decide +kernel
theorem d_Mo_load_64 : decode prog_15_method_58_code 64 = .ok (.iinc 5 1, 3) := by decide +kernel
theorem d_Mo_load_67 : decode prog_15_method_58_code 67 = .ok (.goto (-28), 3) := by decide +kernel
theorem d_Mo_load_24 : decode prog_15_method_58_code 24 = .ok (.iconst 2, 1) := by decide +kernel
theorem d_Mo_load_25 : decode prog_15_method_58_code 25 = .ok (.ireturn, 1) := by decide +kernel
set_option maxHeartbeats 4000000 in
set_option maxRecDepth 100000 in
theorem m_load (l : Launch) (D : va_G) (T : Nat → ClassId) (h0 : Nat) (ar : Nat → Nat) (S : MS) (v0 : Int64) (sz : Nat) (hI : MI S) (h3 : 1 ≤ (f_size S).toInt) (h5 : cOk v0) : Met l ⟨"PageScribeModel", "load", "(J)I"⟩ (wy ⟨"PageScribeModel", "load", "(J)I"⟩ prog_15_method_58_code 6 (some .int)) ({ frames := 1, cells := 0, slots := 0, locals := 70 }) (va_Pc [.ref h0, .long v0] (Pw D T (mW T h0 ar S) sz E0)) (va_Qi (fun (r : Int32) (u : MS) => MI u ∧ kA S u ∧ kF S u ∧ (r.toInt = 0 ∨ r.toInt = 2)) (fun u t => Bw D T (va_A (mW T h0 ar S) sz) (mW T h0 ar u) t) (va_A (mW T h0 ar S) sz)) 0 0 (va_A (mW T h0 ar S) sz) := by
  refine j_met (y := ⟨"PageScribeModel", "load", "(J)I"⟩) (b := prog_15_method_58_code) (n := 6) (ret := (some .int)) (av := [.ref h0, .long v0]) (Qc := fun A => va_Qi (fun (r : Int32) (u : MS) => MI u ∧ kA S u ∧ kF S u ∧ (r.toInt = 0 ∨ r.toInt = 2)) (fun u t => Bw D T A (mW T h0 ar u) t) A) (by decide +kernel) (Nat.le_of_ble_eq_true rfl) (fun p e s m args below meth c A ls F hr hlocks hnm hK hP hD hS hA hN hE hl => ?_)
  obtain ⟨hx, hb, hml, hown, hts⟩ := id F
  have hl : lv_has ls 6 [(0, .ref h0), (1, .long v0)] := hl
  obtain ⟨i_size, i_taken, i_vals, i_room, i_dicts, i_deep, i_open, i_cells, i_points, i_part, i_length, i_knows, i_page, i_text, i_pats, i_fuel, i_fr, i_ink⟩ := id hI
  refine lv_lload_n hx hb d_Mo_load_0 rfl (lv_at hl 1 rfl) ?_
  refine j_ci (wc := []) (wr := (mW T h0 ar S)) hK hP hD hS hA [] isc rfl isc_all isc_nd (fun _ _ => List.not_mem_nil) (va_runS (As := [.long v0]) (rest := []) F (m_count l D T v0 s.heap.size (show 0 ≤ v0.toInt ∧ v0.toInt < 1048576 by omega)) (j_cS (k := 1) hts k_8_7 k_1_12 k_8_5 k_8_6 (by decide +kernel) ⟨Nat.le_of_ble_eq_true rfl, Nat.le_of_ble_eq_true rfl⟩) (j_preS hK hP hD [] rfl (by decide) (fun _ _ _ _ h => h) (fun _ _ _ => trivial)) rfl rfl hl.1 rfl (lv_room (Nat.le_of_ble_eq_true rfl)) d_Mo_load_1 ⟨Nat.le_of_ble_eq_true rfl, Nat.le_of_ble_eq_true rfl⟩) (fun rv1 u1 H locs hw1 hP hD hS => ?_)
  have hP : va_P D classes (mW T h0 ar S) H := hP
  have hD : va_D A (mW T h0 ar S) := hD
  have qhw1 : rv1.toInt = v0.toInt / 1024 := hw1
  refine lv_istore_n (lv' := [(3, .int rv1), (0, .ref h0), (1, .long v0)]) hx hb d_Mo_load_4 rfl hl (by decide) rfl (fun ls hl => ?_)
  refine lv_aload_n hx hb d_Mo_load_5 rfl (lv_at hl 1 rfl) ?_
  refine va_get (D := D) (ci := 11) (v := .int (f_size S)) (C := "PageScribeModel") (T := F_Mo) (N := 45) hx hb hts i_Mo hown hK hP 0 mW_0 cl_11 4 (by decide) (hts _ k_6_164) (fun _ h9 => h9) (mg_size _ _) d_Mo_load_6 ?_
  refine lv_iconst (v := 1) hx hb d_Mo_load_9 (by decide) ?_
  refine lv_isub hx hb d_Mo_load_10 ?_
  refine lv_topi (fun x1 ex1 => ?_)
  have fx1 : x1.toInt = ((f_size S).toInt - 1) := by rw [ex1]; exact (zt_sub (show (f_size S).toInt = _ from rfl) tI_1 (by omega) (by omega)).trans (by omega)
  refine lv_istore (lv' := [(4, .int x1), (3, .int rv1), (0, .ref h0), (1, .long v0)]) hx hb d_Mo_load_11 hl (by decide) rfl (fun ls hl => ?_)
  refine lv_aload_n hx hb d_Mo_load_13 rfl (lv_at hl 2 rfl) ?_
  refine va_get (D := D) (ci := 11) (v := .int (f_size S)) (C := "PageScribeModel") (T := F_Mo) (N := 45) hx hb hts i_Mo hown hK hP 0 mW_0 cl_11 4 (by decide) (hts _ k_6_164) (fun _ h9 => h9) (mg_size _ _) d_Mo_load_14 ?_
  refine lv_iload_n hx hb d_Mo_load_17 rfl (lv_at hl 1 rfl) ?_
  refine lv_iadd hx hb d_Mo_load_18 ?_
  refine lv_topi (fun x2 ex2 => ?_)
  have fx2 : x2.toInt = ((f_size S).toInt + rv1.toInt) := by rw [ex2]; exact (zt_add (show (f_size S).toInt = _ from rfl) (show rv1.toInt = _ from rfl) (by omega) (by omega)).trans (by omega)
  refine lv_bipush (v := 40) hx hb d_Mo_load_19 (by decide) ?_
  refine lv_icmp_le (tgt := 26) hx hb d_Mo_load_21 (by decide) (fun c21_1 => ?_) (fun c21_1 => ?_)
  · have fc21_1 : ((f_size S).toInt + rv1.toInt) ≤ 40 := zt_le fx2 tI_40 c21_1
    refine lv_aload_n hx hb d_Mo_load_26 rfl (lv_at hl 2 rfl) ?_
    refine lv_iload hx hb d_Mo_load_27 (lv_at hl 0 rfl) ?_
    refine lv_iload_n hx hb d_Mo_load_29 rfl (lv_at hl 1 rfl) ?_
    refine lv_iadd hx hb d_Mo_load_30 ?_
    refine lv_topi (fun x3 ex3 => ?_)
    have fx3 : x3.toInt = ((f_size S).toInt + rv1.toInt - 1) := by rw [ex3]; exact (zt_add fx1 (show rv1.toInt = _ from rfl) (by omega) (by omega)).trans (by omega)
    refine lv_iload hx hb d_Mo_load_31 (lv_at hl 0 rfl) ?_
    refine jm_cv (w := (fun u => u)) hK hP hD hS hA (va_runV (As := [.int x3, .int x1]) (rest := []) F (m_move l D T h0 ar S x3 x1 H.size (show 0 ≤ x3.toInt ∧ x3.toInt < 1300 by first | omega | (simp only [fx3, fx1]; omega)) (show 0 ≤ x1.toInt ∧ x1.toInt < 1300 by first | omega | (simp only [fx3, fx1]; omega))) (j_cV (k := 2) (C := "PageScribeModel") hts k_7_76 k_1_12 k_7_73 k_7_75 k_0_82 (by decide +kernel) ⟨Nat.le_of_ble_eq_true rfl, Nat.le_of_ble_eq_true rfl⟩) (jm_pre hK hP hD) rfl rfl hl.1 rfl (lv_room (Nat.le_of_ble_eq_true rfl)) d_Mo_load_33 ⟨Nat.le_of_ble_eq_true rfl, Nat.le_of_ble_eq_true rfl⟩) (fun S1 H locs hw2 hP hD hS => ?_)
    try simp only [fx3, fx1] at hw2
    obtain rfl := hw2
    have hP : va_P D classes (mW T h0 ar ((((f_thrown S), (upd (a_kinds S) (((f_size S).toInt + rv1.toInt - 1).toNat) ((a_kinds S) (((f_size S).toInt - 1).toNat))), (vp_updL (a_codes S) (((f_size S).toInt + rv1.toInt - 1).toNat) ((a_codes S) (((f_size S).toInt - 1).toNat))), (vf_upd (a_reals S) (((f_size S).toInt + rv1.toInt - 1).toNat) ((a_reals S) (((f_size S).toInt - 1).toNat))), (f_size S), (f_taken S), (a_words S), (a_many S)), S.2.1, S.2.2.1, S.2.2.2.1, S.2.2.2.2.1, S.2.2.2.2.2) : MS)) H := hP
    have hD : va_D A (mW T h0 ar ((((f_thrown S), (upd (a_kinds S) (((f_size S).toInt + rv1.toInt - 1).toNat) ((a_kinds S) (((f_size S).toInt - 1).toNat))), (vp_updL (a_codes S) (((f_size S).toInt + rv1.toInt - 1).toNat) ((a_codes S) (((f_size S).toInt - 1).toNat))), (vf_upd (a_reals S) (((f_size S).toInt + rv1.toInt - 1).toNat) ((a_reals S) (((f_size S).toInt - 1).toNat))), (f_size S), (f_taken S), (a_words S), (a_many S)), S.2.1, S.2.2.1, S.2.2.2.1, S.2.2.2.2.1, S.2.2.2.2.2) : MS)) := hD
    have i_vals : ∀ k, k < 1300 → vOk ((upd (a_kinds S) (((f_size S).toInt + rv1.toInt - 1).toNat) ((a_kinds S) (((f_size S).toInt - 1).toNat))) k) ((vp_updL (a_codes S) (((f_size S).toInt + rv1.toInt - 1).toNat) ((a_codes S) (((f_size S).toInt - 1).toNat))) k) ((vf_upd (a_reals S) (((f_size S).toInt + rv1.toInt - 1).toNat) ((a_reals S) (((f_size S).toInt - 1).toNat))) k) := vOk_upd i_vals (i_vals (((f_size S).toInt - 1).toNat) (by omega))
    have fa1 : ((upd (a_kinds S) (((f_size S).toInt + rv1.toInt - 1).toNat) ((a_kinds S) (((f_size S).toInt - 1).toNat))) (((f_size S).toInt + rv1.toInt - 1).toNat)).toInt = ((a_kinds S) (((f_size S).toInt - 1).toNat)).toInt := congrArg Int32.toInt upd_s
    have fa2 : ((vp_updL (a_codes S) (((f_size S).toInt + rv1.toInt - 1).toNat) ((a_codes S) (((f_size S).toInt - 1).toNat))) (((f_size S).toInt + rv1.toInt - 1).toNat)).toInt = ((a_codes S) (((f_size S).toInt - 1).toNat)).toInt := congrArg Int64.toInt updL_s
    refine lv_iconst (v := 0) hx hb d_Mo_load_36 (by decide) ?_
    refine lv_istore (lv' := [(5, .int 0), (4, .int x1), (3, .int rv1), (0, .ref h0), (1, .long v0)]) hx hb d_Mo_load_37 hl (by decide) rfl (fun ls hl => ?_)
    refine j_loop (α := MS × Int32) (fun k x H locs ls => (0 ≤ x.2.toInt ∧ x.2.toInt ≤ v0.toInt / 1024 ∧ v0.toInt / 1024 ≤ x.2.toInt + ((k : Nat) : Int) ∧ (f_size x.1).toInt = (f_size S).toInt ∧ (f_size S).toInt + v0.toInt / 1024 ≤ 40) ∧ MI x.1 ∧ kA S x.1 ∧ kF S x.1 ∧ va_P D classes (mW T h0 ar x.1) H ∧ va_D A (mW T h0 ar x.1) ∧ va_S A s.heap H locs ∧ lv_has ls 6 [(5, .int x.2), (4, .int x1), (3, .int rv1), (0, .ref h0), (1, .long v0)]) (fun _ _ ls => F0 m 39 ls []) (fun k x H locs ls hI9 ih => ?_) 160 (((((f_thrown S), (upd (a_kinds S) (((f_size S).toInt + rv1.toInt - 1).toNat) ((a_kinds S) (((f_size S).toInt - 1).toNat))), (vp_updL (a_codes S) (((f_size S).toInt + rv1.toInt - 1).toNat) ((a_codes S) (((f_size S).toInt - 1).toNat))), (vf_upd (a_reals S) (((f_size S).toInt + rv1.toInt - 1).toNat) ((a_reals S) (((f_size S).toInt - 1).toNat))), (f_size S), (f_taken S), (a_words S), (a_many S)), S.2.1, S.2.2.1, S.2.2.2.1, S.2.2.2.2.1, S.2.2.2.2.2) : MS), (0 : Int32)) _ _ _ ⟨(show 0 ≤ (0 : Int32).toInt ∧ (0 : Int32).toInt ≤ v0.toInt / 1024 ∧ v0.toInt / 1024 ≤ (0 : Int32).toInt + ((160 : Nat) : Int) ∧ (f_size S).toInt = (f_size S).toInt ∧ (f_size S).toInt + v0.toInt / 1024 ≤ 40 by have := tI_0; omega), ⟨i_size, i_taken, i_vals, i_room, i_dicts, i_deep, i_open, i_cells, i_points, i_part, i_length, i_knows, i_page, i_text, i_pats, i_fuel, i_fr, i_ink⟩, (show kA S ((((f_thrown S), (upd (a_kinds S) (((f_size S).toInt + rv1.toInt - 1).toNat) ((a_kinds S) (((f_size S).toInt - 1).toNat))), (vp_updL (a_codes S) (((f_size S).toInt + rv1.toInt - 1).toNat) ((a_codes S) (((f_size S).toInt - 1).toNat))), (vf_upd (a_reals S) (((f_size S).toInt + rv1.toInt - 1).toNat) ((a_reals S) (((f_size S).toInt - 1).toNat))), (f_size S), (f_taken S), (a_words S), (a_many S)), S.2.1, S.2.2.1, S.2.2.2.1, S.2.2.2.2.1, S.2.2.2.2.2) : MS) from (kA_r S)), (show kF S ((((f_thrown S), (upd (a_kinds S) (((f_size S).toInt + rv1.toInt - 1).toNat) ((a_kinds S) (((f_size S).toInt - 1).toNat))), (vp_updL (a_codes S) (((f_size S).toInt + rv1.toInt - 1).toNat) ((a_codes S) (((f_size S).toInt - 1).toNat))), (vf_upd (a_reals S) (((f_size S).toInt + rv1.toInt - 1).toNat) ((a_reals S) (((f_size S).toInt - 1).toNat))), (f_size S), (f_taken S), (a_words S), (a_many S)), S.2.1, S.2.2.1, S.2.2.2.1, S.2.2.2.2.1, S.2.2.2.2.2) : MS) from (kF_r S)), hP, hD, hS, lv_sub hl [0, 1, 2, 3, 4] rfl⟩
    obtain ⟨S2, i⟩ := x
    obtain ⟨hf1, hIx, klA_S2, klF_S2, hP, hD, hS, hl⟩ := hI9
    obtain ⟨i_size, i_taken, i_vals, i_room, i_dicts, i_deep, i_open, i_cells, i_points, i_part, i_length, i_knows, i_page, i_text, i_pats, i_fuel, i_fr, i_ink⟩ := (show MI S2 from hIx)
    have klA_S2 : kA S S2 := klA_S2
    have klF_S2 : kF S S2 := klF_S2
    have hf1 : 0 ≤ i.toInt ∧ i.toInt ≤ v0.toInt / 1024 ∧ v0.toInt / 1024 ≤ i.toInt + ((k : Nat) : Int) ∧ (f_size S2).toInt = (f_size S).toInt ∧ (f_size S).toInt + v0.toInt / 1024 ≤ 40 := hf1
    have hP : va_P D classes (mW T h0 ar S2) H := hP
    have hD : va_D A (mW T h0 ar S2) := hD
    have hl : lv_has ls 6 [(5, .int i), (4, .int x1), (3, .int rv1), (0, .ref h0), (1, .long v0)] := hl
    refine lv_iload hx hb d_Mo_load_39 (lv_at hl 0 rfl) ?_
    refine lv_iload_n hx hb d_Mo_load_41 rfl (lv_at hl 2 rfl) ?_
    refine lv_icmp_ge (tgt := 70) hx hb d_Mo_load_42 (by decide) (fun c42_1 => ?_) (fun c42_1 => ?_)
    · have fc42_1 : rv1.toInt ≤ i.toInt := zt_le (show rv1.toInt = _ from rfl) (show i.toInt = _ from rfl) c42_1
      refine lv_aload_n hx hb d_Mo_load_70 rfl (lv_at hl 3 rfl) ?_
      refine lv_dup hx hb d_Mo_load_71 rfl ?_
      refine va_get (D := D) (ci := 11) (v := .int (f_size S2)) (C := "PageScribeModel") (T := F_Mo) (N := 45) hx hb hts i_Mo hown hK hP 0 mW_0 cl_11 4 (by decide) (hts _ k_6_164) (fun _ h9 => h9) (mg_size _ _) d_Mo_load_72 ?_
      refine lv_iload_n hx hb d_Mo_load_75 rfl (lv_at hl 2 rfl) ?_
      refine lv_iadd hx hb d_Mo_load_76 ?_
      refine lv_topi (fun x4 ex4 => ?_)
      have fx4 : x4.toInt = ((f_size S2).toInt + rv1.toInt) := by rw [ex4]; exact (zt_add (show (f_size S2).toInt = _ from rfl) (show rv1.toInt = _ from rfl) (by omega) (by omega)).trans (by omega)
      refine va_put (D := D) (ci := 11) (v := .int x4) (ty := .int) (C := "PageScribeModel") (T := F_Mo) (N := 45) hx hb hts i_Mo t_Mo t_Mo_ok n_Mo hown hK hP hD hS 0 mW_0 cl_11 4 (by decide) (hts _ k_6_164) (fun _ h9 => h9) rfl (by decide +kernel) rfl rfl (Nat.le_of_ble_eq_true rfl) d_Mo_load_77 (fun H locs hP hD hS => ?_)
      rw [mp_size] at hP hD
      have hP : va_P D classes (mW T h0 ar ((((f_thrown S2), (a_kinds S2), (a_codes S2), (a_reals S2), x4, (f_taken S2), (a_words S2), (a_many S2)), S2.2.1, S2.2.2.1, S2.2.2.2.1, S2.2.2.2.2.1, S2.2.2.2.2.2) : MS)) H := hP
      have hD : va_D A (mW T h0 ar ((((f_thrown S2), (a_kinds S2), (a_codes S2), (a_reals S2), x4, (f_taken S2), (a_words S2), (a_many S2)), S2.2.1, S2.2.2.1, S2.2.2.2.1, S2.2.2.2.2.1, S2.2.2.2.2.2) : MS)) := hD
      refine lv_iconst (v := 0) hx hb d_Mo_load_80 (by decide) ?_
      exact j_iret F hr hlocks hK hS ((((f_thrown S2), (a_kinds S2), (a_codes S2), (a_reals S2), x4, (f_taken S2), (a_words S2), (a_many S2)), S2.2.1, S2.2.2.1, S2.2.2.2.1, S2.2.2.2.2.1, S2.2.2.2.2.2) : MS) ⟨⟨(show 0 ≤ x4.toInt ∧ x4.toInt ≤ 40 by omega), i_taken, i_vals, i_room, i_dicts, i_deep, i_open, i_cells, i_points, i_part, i_length, i_knows, i_page, i_text, i_pats, i_fuel, i_fr, i_ink⟩, klA_S2, klF_S2, (show (0 : Int32).toInt = 0 ∨ (0 : Int32).toInt = 2 by have := tI_0; omega)⟩ hP hD d_Mo_load_81
    · have fc42_1 : i.toInt < rv1.toInt := Int.not_le.mp (zt_nle (show rv1.toInt = _ from rfl) (show i.toInt = _ from rfl) c42_1)
      refine lv_aload_n hx hb d_Mo_load_45 rfl (lv_at hl 3 rfl) ?_
      refine lv_iload hx hb d_Mo_load_46 (lv_at hl 1 rfl) ?_
      refine lv_iload hx hb d_Mo_load_48 (lv_at hl 0 rfl) ?_
      refine lv_iadd hx hb d_Mo_load_50 ?_
      refine lv_topi (fun x5 ex5 => ?_)
      have fx5 : x5.toInt = ((f_size S).toInt + i.toInt - 1) := by rw [ex5]; exact (zt_add fx1 (show i.toInt = _ from rfl) (by omega) (by omega)).trans (by omega)
      refine lv_bipush (v := 50) hx hb d_Mo_load_51 (by decide) ?_
      refine lv_lload_n hx hb d_Mo_load_53 rfl (lv_at hl 4 rfl) ?_
      refine j_ci (wc := []) (wr := (mW T h0 ar S2)) hK hP hD hS hA [] isc rfl isc_all isc_nd (fun _ _ => List.not_mem_nil) (va_runS (As := [.long v0]) (rest := [.int 50, .int x5, .ref h0]) F (m_first l D T v0 H.size (show 0 ≤ v0.toInt by omega)) (j_cS (k := 1) hts k_8_22 k_1_12 k_8_20 k_8_21 (by decide +kernel) ⟨Nat.le_of_ble_eq_true rfl, Nat.le_of_ble_eq_true rfl⟩) (j_preS hK hP hD [] rfl (by decide) (fun _ _ _ _ h => h) (fun _ _ _ => trivial)) rfl rfl hl.1 rfl (lv_room (Nat.le_of_ble_eq_true rfl)) d_Mo_load_54 ⟨Nat.le_of_ble_eq_true rfl, Nat.le_of_ble_eq_true rfl⟩) (fun rv3 u2 H locs hw3 hP hD hS => ?_)
      have hP : va_P D classes (mW T h0 ar S2) H := hP
      have hD : va_D A (mW T h0 ar S2) := hD
      have qhw3 : rv3.toInt = v0.toInt % 1024 := hw3
      refine lv_iadd hx hb d_Mo_load_57 ?_
      refine lv_topi (fun x6 ex6 => ?_)
      have fx6 : x6.toInt = (rv3.toInt + 50) := by rw [ex6]; exact (zt_add tI_50 (show rv3.toInt = _ from rfl) (by omega) (by omega)).trans (by omega)
      refine lv_iload hx hb d_Mo_load_58 (lv_at hl 0 rfl) ?_
      refine lv_iadd hx hb d_Mo_load_60 ?_
      refine lv_topi (fun x7 ex7 => ?_)
      have fx7 : x7.toInt = (i.toInt + rv3.toInt + 50) := by rw [ex7]; exact (zt_add fx6 (show i.toInt = _ from rfl) (by omega) (by omega)).trans (by omega)
      refine jm_cv (w := (fun u => u)) hK hP hD hS hA (va_runV (As := [.int x5, .int x7]) (rest := []) F (m_move l D T h0 ar S2 x5 x7 H.size (show 0 ≤ x5.toInt ∧ x5.toInt < 1300 by first | omega | (simp only [fx5, fx7]; omega)) (show 0 ≤ x7.toInt ∧ x7.toInt < 1300 by first | omega | (simp only [fx5, fx7]; omega))) (j_cV (k := 2) (C := "PageScribeModel") hts k_7_76 k_1_12 k_7_73 k_7_75 k_0_82 (by decide +kernel) ⟨Nat.le_of_ble_eq_true rfl, Nat.le_of_ble_eq_true rfl⟩) (jm_pre hK hP hD) rfl rfl hl.1 rfl (lv_room (Nat.le_of_ble_eq_true rfl)) d_Mo_load_61 ⟨Nat.le_of_ble_eq_true rfl, Nat.le_of_ble_eq_true rfl⟩) (fun S3 H locs hw4 hP hD hS => ?_)
      try simp only [fx5, fx7] at hw4
      obtain rfl := hw4
      have hP : va_P D classes (mW T h0 ar ((((f_thrown S2), (upd (a_kinds S2) (((f_size S).toInt + i.toInt - 1).toNat) ((a_kinds S2) ((i.toInt + rv3.toInt + 50).toNat))), (vp_updL (a_codes S2) (((f_size S).toInt + i.toInt - 1).toNat) ((a_codes S2) ((i.toInt + rv3.toInt + 50).toNat))), (vf_upd (a_reals S2) (((f_size S).toInt + i.toInt - 1).toNat) ((a_reals S2) ((i.toInt + rv3.toInt + 50).toNat))), (f_size S2), (f_taken S2), (a_words S2), (a_many S2)), S2.2.1, S2.2.2.1, S2.2.2.2.1, S2.2.2.2.2.1, S2.2.2.2.2.2) : MS)) H := hP
      have hD : va_D A (mW T h0 ar ((((f_thrown S2), (upd (a_kinds S2) (((f_size S).toInt + i.toInt - 1).toNat) ((a_kinds S2) ((i.toInt + rv3.toInt + 50).toNat))), (vp_updL (a_codes S2) (((f_size S).toInt + i.toInt - 1).toNat) ((a_codes S2) ((i.toInt + rv3.toInt + 50).toNat))), (vf_upd (a_reals S2) (((f_size S).toInt + i.toInt - 1).toNat) ((a_reals S2) ((i.toInt + rv3.toInt + 50).toNat))), (f_size S2), (f_taken S2), (a_words S2), (a_many S2)), S2.2.1, S2.2.2.1, S2.2.2.2.1, S2.2.2.2.2.1, S2.2.2.2.2.2) : MS)) := hD
      have i_vals : ∀ k, k < 1300 → vOk ((upd (a_kinds S2) (((f_size S).toInt + i.toInt - 1).toNat) ((a_kinds S2) ((i.toInt + rv3.toInt + 50).toNat))) k) ((vp_updL (a_codes S2) (((f_size S).toInt + i.toInt - 1).toNat) ((a_codes S2) ((i.toInt + rv3.toInt + 50).toNat))) k) ((vf_upd (a_reals S2) (((f_size S).toInt + i.toInt - 1).toNat) ((a_reals S2) ((i.toInt + rv3.toInt + 50).toNat))) k) := vOk_upd i_vals (i_vals ((i.toInt + rv3.toInt + 50).toNat) (by omega))
      have fa3 : ((upd (a_kinds S2) (((f_size S).toInt + i.toInt - 1).toNat) ((a_kinds S2) ((i.toInt + rv3.toInt + 50).toNat))) (((f_size S).toInt + i.toInt - 1).toNat)).toInt = ((a_kinds S2) ((i.toInt + rv3.toInt + 50).toNat)).toInt := congrArg Int32.toInt upd_s
      have fa4 : ((vp_updL (a_codes S2) (((f_size S).toInt + i.toInt - 1).toNat) ((a_codes S2) ((i.toInt + rv3.toInt + 50).toNat))) (((f_size S).toInt + i.toInt - 1).toNat)).toInt = ((a_codes S2) ((i.toInt + rv3.toInt + 50).toNat)).toInt := congrArg Int64.toInt updL_s
      refine lv_iinc (v := (i + 1)) (lv' := [(5, .int (i + 1)), (4, .int x1), (3, .int rv1), (0, .ref h0), (1, .long v0)]) hx hb d_Mo_load_64 hl (k := 0) rfl (by first | rfl | decide) (by decide) rfl (fun ls hl => ?_)
      obtain ⟨x8, ex8⟩ : ∃ z, z = (i + 1) := ⟨_, rfl⟩
      rw [← ex8] at hl
      have fx8 : x8.toInt = (i.toInt + 1) := by rw [ex8]; exact (zt_add (show i.toInt = _ from rfl) tI_1 (by omega) (by omega)).trans (by omega)
      have hl : lv_has ls 6 [(5, .int x8), (4, .int x1), (3, .int rv1), (0, .ref h0), (1, .long v0)] := hl
      refine lv_goto (tgt := 39) hx hb d_Mo_load_67 (by decide) ?_
      exact ih (k - 1) (((((f_thrown S2), (upd (a_kinds S2) (((f_size S).toInt + i.toInt - 1).toNat) ((a_kinds S2) ((i.toInt + rv3.toInt + 50).toNat))), (vp_updL (a_codes S2) (((f_size S).toInt + i.toInt - 1).toNat) ((a_codes S2) ((i.toInt + rv3.toInt + 50).toNat))), (vf_upd (a_reals S2) (((f_size S).toInt + i.toInt - 1).toNat) ((a_reals S2) ((i.toInt + rv3.toInt + 50).toNat))), (f_size S2), (f_taken S2), (a_words S2), (a_many S2)), S2.2.1, S2.2.2.1, S2.2.2.2.1, S2.2.2.2.2.1, S2.2.2.2.2.2) : MS), x8) _ _ _ (by omega) ⟨(show 0 ≤ x8.toInt ∧ x8.toInt ≤ v0.toInt / 1024 ∧ v0.toInt / 1024 ≤ x8.toInt + (((k - 1) : Nat) : Int) ∧ (f_size S2).toInt = (f_size S).toInt ∧ (f_size S).toInt + v0.toInt / 1024 ≤ 40 by omega), ⟨i_size, i_taken, i_vals, i_room, i_dicts, i_deep, i_open, i_cells, i_points, i_part, i_length, i_knows, i_page, i_text, i_pats, i_fuel, i_fr, i_ink⟩, (show kA S ((((f_thrown S2), (upd (a_kinds S2) (((f_size S).toInt + i.toInt - 1).toNat) ((a_kinds S2) ((i.toInt + rv3.toInt + 50).toNat))), (vp_updL (a_codes S2) (((f_size S).toInt + i.toInt - 1).toNat) ((a_codes S2) ((i.toInt + rv3.toInt + 50).toNat))), (vf_upd (a_reals S2) (((f_size S).toInt + i.toInt - 1).toNat) ((a_reals S2) ((i.toInt + rv3.toInt + 50).toNat))), (f_size S2), (f_taken S2), (a_words S2), (a_many S2)), S2.2.1, S2.2.2.1, S2.2.2.2.1, S2.2.2.2.2.1, S2.2.2.2.2.2) : MS) from klA_S2), (show kF S ((((f_thrown S2), (upd (a_kinds S2) (((f_size S).toInt + i.toInt - 1).toNat) ((a_kinds S2) ((i.toInt + rv3.toInt + 50).toNat))), (vp_updL (a_codes S2) (((f_size S).toInt + i.toInt - 1).toNat) ((a_codes S2) ((i.toInt + rv3.toInt + 50).toNat))), (vf_upd (a_reals S2) (((f_size S).toInt + i.toInt - 1).toNat) ((a_reals S2) ((i.toInt + rv3.toInt + 50).toNat))), (f_size S2), (f_taken S2), (a_words S2), (a_many S2)), S2.2.1, S2.2.2.1, S2.2.2.2.1, S2.2.2.2.2.1, S2.2.2.2.2.2) : MS) from klF_S2), hP, hD, hS, lv_sub hl [0, 1, 2, 3, 4] rfl⟩
  · have fc21_1 : 40 < ((f_size S).toInt + rv1.toInt) := Int.not_le.mp (zt_nle fx2 tI_40 c21_1)
    refine lv_iconst (v := 2) hx hb d_Mo_load_24 (by decide) ?_
    exact j_iret F hr hlocks hK hS S ⟨⟨i_size, i_taken, i_vals, i_room, i_dicts, i_deep, i_open, i_cells, i_points, i_part, i_length, i_knows, i_page, i_text, i_pats, i_fuel, i_fr, i_ink⟩, (kA_r S), (kF_r S), (show (2 : Int32).toInt = 0 ∨ (2 : Int32).toInt = 2 by have := tI_2; omega)⟩ hP hD d_Mo_load_25
theorem d_Mo_zeros_0 : decode prog_15_method_54_code 0 = .ok (.lload_n 1, 1) := by decide +kernel
theorem d_Mo_zeros_1 : decode prog_15_method_54_code 1 = .ok (.lconst 0, 1) := by decide +kernel
theorem d_Mo_zeros_2 : decode prog_15_method_54_code 2 = .ok (.lcmp, 1) := by decide +kernel
theorem d_Mo_zeros_3 : decode prog_15_method_54_code 3 = .ok (.ifCond .ge 5, 3) := by decide +kernel
theorem d_Mo_zeros_8 : decode prog_15_method_54_code 8 = .ok (.lload_n 1, 1) := by decide +kernel
theorem d_Mo_zeros_9 : decode prog_15_method_54_code 9 = .ok (.sipush 160, 3) := by decide +kernel
theorem d_Mo_zeros_12 : decode prog_15_method_54_code 12 = .ok (.aload_n 0, 1) := by decide +kernel
theorem d_Mo_zeros_13 : decode prog_15_method_54_code 13 = .ok (.getfield 325, 3) := by decide +kernel
theorem d_Mo_zeros_16 : decode prog_15_method_54_code 16 = .ok (.isub, 1) := by decide +kernel
theorem d_Mo_zeros_17 : decode prog_15_method_54_code 17 = .ok (.i2l, 1) := by decide +kernel
theorem d_Mo_zeros_18 : decode prog_15_method_54_code 18 = .ok (.lcmp, 1) := by decide +kernel
theorem d_Mo_zeros_19 : decode prog_15_method_54_code 19 = .ok (.ifCond .le 6, 3) := by decide +kernel
theorem d_Mo_zeros_25 : decode prog_15_method_54_code 25 = .ok (.iconst 0, 1) := by decide +kernel
theorem d_Mo_zeros_26 : decode prog_15_method_54_code 26 = .ok (.istore_n 3, 1) := by decide +kernel
theorem d_Mo_zeros_27 : decode prog_15_method_54_code 27 = .ok (.iload_n 3, 1) := by decide +kernel
theorem d_Mo_zeros_28 : decode prog_15_method_54_code 28 = .ok (.i2l, 1) := by decide +kernel
theorem d_Mo_zeros_29 : decode prog_15_method_54_code 29 = .ok (.lload_n 1, 1) := by decide +kernel
theorem d_Mo_zeros_30 : decode prog_15_method_54_code 30 = .ok (.lcmp, 1) := by decide +kernel
theorem d_Mo_zeros_31 : decode prog_15_method_54_code 31 = .ok (.ifCond .ge 24, 3) := by decide +kernel
theorem d_Mo_zeros_55 : decode prog_15_method_54_code 55 = .ok (.aload_n 0, 1) := by decide +kernel
theorem d_Mo_zeros_56 : decode prog_15_method_54_code 56 = .ok (.iconst 1, 1) := by decide +kernel
theorem d_Mo_zeros_57 : decode prog_15_method_54_code 57 = .ok (.iconst 5, 1) := by decide +kernel
theorem d_Mo_zeros_58 : decode prog_15_method_54_code 58 = .ok (.aload_n 0, 1) := by decide +kernel
theorem d_Mo_zeros_59 : decode prog_15_method_54_code 59 = .ok (.getfield 325, 3) := by decide +kernel
theorem d_Mo_zeros_62 : decode prog_15_method_54_code 62 = .ok (.i2l, 1) := by decide +kernel
theorem d_Mo_zeros_63 : decode prog_15_method_54_code 63 = .ok (.ldc2_w 328, 3) := by decide +kernel
theorem d_Mo_zeros_66 : decode prog_15_method_54_code 66 = .ok (.lload_n 1, 1) := by decide +kernel
theorem d_Mo_zeros_67 : decode prog_15_method_54_code 67 = .ok (.lmul, 1) := by decide +kernel
theorem d_Mo_zeros_68 : decode prog_15_method_54_code 68 = .ok (.ladd, 1) := by decide +kernel
theorem d_Mo_zeros_69 : decode prog_15_method_54_code 69 = .ok (.invokevirtual 262, 3) := by decide +kernel
theorem d_Mo_zeros_72 : decode prog_15_method_54_code 72 = .ok (.pop, 1) := by decide +kernel
theorem d_Mo_zeros_73 : decode prog_15_method_54_code 73 = .ok (.aload_n 0, 1) := by decide +kernel
theorem d_Mo_zeros_74 : decode prog_15_method_54_code 74 = .ok (.dup, 1) := by decide +kernel
theorem d_Mo_zeros_75 : decode prog_15_method_54_code 75 = .ok (.getfield 325, 3) := by decide +kernel
theorem d_Mo_zeros_78 : decode prog_15_method_54_code 78 = .ok (.lload_n 1, 1) := by decide +kernel
theorem d_Mo_zeros_79 : decode prog_15_method_54_code 79 = .ok (.l2i, 1) := by decide +kernel
theorem d_Mo_zeros_80 : decode prog_15_method_54_code 80 = .ok (.iadd, 1) := by decide +kernel
theorem d_Mo_zeros_81 : decode prog_15_method_54_code 81 = .ok (.putfield 325, 3) := by decide +kernel
theorem d_Mo_zeros_84 : decode prog_15_method_54_code 84 = .ok (.iconst 0, 1) := by decide +kernel
theorem d_Mo_zeros_85 : decode prog_15_method_54_code 85 = .ok (.ireturn, 1) := by decide +kernel
theorem d_Mo_zeros_34 : decode prog_15_method_54_code 34 = .ok (.aload_n 0, 1) := by decide +kernel
theorem d_Mo_zeros_35 : decode prog_15_method_54_code 35 = .ok (.bipush 50, 2) := by decide +kernel
theorem d_Mo_zeros_37 : decode prog_15_method_54_code 37 = .ok (.aload_n 0, 1) := by decide +kernel
theorem d_Mo_zeros_38 : decode prog_15_method_54_code 38 = .ok (.getfield 325, 3) := by decide +kernel
theorem d_Mo_zeros_41 : decode prog_15_method_54_code 41 = .ok (.iadd, 1) := by decide +kernel
theorem d_Mo_zeros_42 : decode prog_15_method_54_code 42 = .ok (.iload_n 3, 1) := by decide +kernel
theorem d_Mo_zeros_43 : decode prog_15_method_54_code 43 = .ok (.iadd, 1) := by decide +kernel
theorem d_Mo_zeros_44 : decode prog_15_method_54_code 44 = .ok (.iconst 0, 1) := by decide +kernel
theorem d_Mo_zeros_45 : decode prog_15_method_54_code 45 = .ok (.lconst 0, 1) := by decide +kernel
theorem d_Mo_zeros_46 : decode prog_15_method_54_code 46 = .ok (.invokevirtual 250, 3) := by decide +kernel
theorem d_Mo_zeros_49 : decode prog_15_method_54_code 49 = .ok (.iinc 3 1, 3) := by decide +kernel
theorem d_Mo_zeros_52 : decode prog_15_method_54_code 52 = .ok (.goto (-25), 3) := by decide +kernel
theorem d_Mo_zeros_22 : decode prog_15_method_54_code 22 = .ok (.bipush 7, 2) := by decide +kernel
theorem d_Mo_zeros_24 : decode prog_15_method_54_code 24 = .ok (.ireturn, 1) := by decide +kernel
theorem d_Mo_zeros_6 : decode prog_15_method_54_code 6 = .ok (.iconst 4, 1) := by decide +kernel
theorem d_Mo_zeros_7 : decode prog_15_method_54_code 7 = .ok (.ireturn, 1) := by decide +kernel
set_option maxHeartbeats 4000000 in
set_option maxRecDepth 100000 in
theorem m_zeros (l : Launch) (D : va_G) (T : Nat → ClassId) (h0 : Nat) (ar : Nat → Nat) (S : MS) (v0 : Int64) (sz : Nat) (hI : MI S) (h3 : 1 ≤ (f_size S).toInt) : Met l ⟨"PageScribeModel", "zeros", "(J)I"⟩ (wy ⟨"PageScribeModel", "zeros", "(J)I"⟩ prog_15_method_54_code 4 (some .int)) ({ frames := 2, cells := 0, slots := 0, locals := 140 }) (va_Pc [.ref h0, .long v0] (Pw D T (mW T h0 ar S) sz E0)) (va_Qi (fun (r : Int32) (u : MS) => MI u ∧ kA S u ∧ kF S u ∧ (r.toInt = 0 ∨ r.toInt = 4 ∨ r.toInt = 7)) (fun u t => Bw D T (va_A (mW T h0 ar S) sz) (mW T h0 ar u) t) (va_A (mW T h0 ar S) sz)) 0 0 (va_A (mW T h0 ar S) sz) := by
  refine j_met (y := ⟨"PageScribeModel", "zeros", "(J)I"⟩) (b := prog_15_method_54_code) (n := 4) (ret := (some .int)) (av := [.ref h0, .long v0]) (Qc := fun A => va_Qi (fun (r : Int32) (u : MS) => MI u ∧ kA S u ∧ kF S u ∧ (r.toInt = 0 ∨ r.toInt = 4 ∨ r.toInt = 7)) (fun u t => Bw D T A (mW T h0 ar u) t) A) (by decide +kernel) (Nat.le_of_ble_eq_true rfl) (fun p e s m args below meth c A ls F hr hlocks hnm hK hP hD hS hA hN hE hl => ?_)
  obtain ⟨hx, hb, hml, hown, hts⟩ := id F
  have hl : lv_has ls 4 [(0, .ref h0), (1, .long v0)] := hl
  obtain ⟨i_size, i_taken, i_vals, i_room, i_dicts, i_deep, i_open, i_cells, i_points, i_part, i_length, i_knows, i_page, i_text, i_pats, i_fuel, i_fr, i_ink⟩ := id hI
  refine lv_lload_n hx hb d_Mo_zeros_0 rfl (lv_at hl 1 rfl) ?_
  refine lv_lconst (v := 0) hx hb d_Mo_zeros_1 (by decide) ?_
  refine W.lcmp hx hb d_Mo_zeros_2 ?_
  refine lv_topi (fun x1 ex1 => ?_)
  refine lv_if_ge (tgt := 8) hx hb d_Mo_zeros_3 (by decide) (fun c3_1 => ?_) (fun c3_1 => ?_)
  · have fc3_1 : 0 ≤ x1.toInt := zt_le tI_0 (show x1.toInt = _ from rfl) c3_1
    have vc3_1 : v0.toInt ≥ 0 := by have := zr_cmp ex1 (show v0.toInt = _ from rfl) tJ_0; have := zt_le tI_0 (show x1.toInt = _ from rfl) c3_1; omega
    refine lv_lload_n hx hb d_Mo_zeros_8 rfl (lv_at hl 1 rfl) ?_
    refine lv_sipush (v := 160) hx hb d_Mo_zeros_9 (by decide) ?_
    refine lv_aload_n hx hb d_Mo_zeros_12 rfl (lv_at hl 0 rfl) ?_
    refine va_get (D := D) (ci := 11) (v := .int (f_taken S)) (C := "PageScribeModel") (T := F_Mo) (N := 45) hx hb hts i_Mo hown hK hP 0 mW_0 cl_11 5 (by decide) (hts _ k_6_165) (fun _ h9 => h9) (mg_taken _ _) d_Mo_zeros_13 ?_
    refine lv_isub hx hb d_Mo_zeros_16 ?_
    refine lv_topi (fun x2 ex2 => ?_)
    have fx2 : x2.toInt = (-(f_taken S).toInt + 160) := by rw [ex2]; exact (zt_sub tI_160 (show (f_taken S).toInt = _ from rfl) (by omega) (by omega)).trans (by omega)
    refine lv_i2l (v := (x2).toInt64) hx hb d_Mo_zeros_17 rfl ?_
    refine lv_topl (fun x3 ex3 => ?_)
    have fx3 : x3.toInt = (-(f_taken S).toInt + 160) := by rw [ex3]; exact zu_i2l fx2
    refine W.lcmp hx hb d_Mo_zeros_18 ?_
    refine lv_topi (fun x4 ex4 => ?_)
    refine lv_if_le (tgt := 25) hx hb d_Mo_zeros_19 (by decide) (fun c19_1 => ?_) (fun c19_1 => ?_)
    · have fc19_1 : x4.toInt ≤ 0 := zt_le (show x4.toInt = _ from rfl) tI_0 c19_1
      have vc19_1 : v0.toInt ≤ (-(f_taken S).toInt + 160) := by have := zr_cmp ex4 (show v0.toInt = _ from rfl) fx3; have := zt_le (show x4.toInt = _ from rfl) tI_0 c19_1; omega
      refine lv_iconst (v := 0) hx hb d_Mo_zeros_25 (by decide) ?_
      refine lv_istore_n (lv' := [(3, .int 0), (0, .ref h0), (1, .long v0)]) hx hb d_Mo_zeros_26 rfl hl (by decide) rfl (fun ls hl => ?_)
      refine j_loop (α := MS × Int32) (fun k x H locs ls => (0 ≤ x.2.toInt ∧ x.2.toInt ≤ v0.toInt ∧ v0.toInt ≤ x.2.toInt + ((k : Nat) : Int) ∧ (f_taken x.1).toInt + v0.toInt ≤ 160 ∧ 1 ≤ (f_size x.1).toInt) ∧ MI x.1 ∧ kA S x.1 ∧ kF S x.1 ∧ va_P D classes (mW T h0 ar x.1) H ∧ va_D A (mW T h0 ar x.1) ∧ va_S A s.heap H locs ∧ lv_has ls 4 [(3, .int x.2), (0, .ref h0), (1, .long v0)]) (fun _ _ ls => F0 m 27 ls []) (fun k x H locs ls hI9 ih => ?_) 160 (S, (0 : Int32)) _ _ _ ⟨(show 0 ≤ (0 : Int32).toInt ∧ (0 : Int32).toInt ≤ v0.toInt ∧ v0.toInt ≤ (0 : Int32).toInt + ((160 : Nat) : Int) ∧ (f_taken S).toInt + v0.toInt ≤ 160 ∧ 1 ≤ (f_size S).toInt by have := tI_0; omega), ⟨i_size, i_taken, i_vals, i_room, i_dicts, i_deep, i_open, i_cells, i_points, i_part, i_length, i_knows, i_page, i_text, i_pats, i_fuel, i_fr, i_ink⟩, (show kA S S from (kA_r S)), (show kF S S from (kF_r S)), hP, hD, hS, lv_sub hl [0, 1, 2] rfl⟩
      obtain ⟨S1, i⟩ := x
      obtain ⟨hf1, hIx, klA_S1, klF_S1, hP, hD, hS, hl⟩ := hI9
      obtain ⟨i_size, i_taken, i_vals, i_room, i_dicts, i_deep, i_open, i_cells, i_points, i_part, i_length, i_knows, i_page, i_text, i_pats, i_fuel, i_fr, i_ink⟩ := (show MI S1 from hIx)
      have klA_S1 : kA S S1 := klA_S1
      have klF_S1 : kF S S1 := klF_S1
      have hf1 : 0 ≤ i.toInt ∧ i.toInt ≤ v0.toInt ∧ v0.toInt ≤ i.toInt + ((k : Nat) : Int) ∧ (f_taken S1).toInt + v0.toInt ≤ 160 ∧ 1 ≤ (f_size S1).toInt := hf1
      have hP : va_P D classes (mW T h0 ar S1) H := hP
      have hD : va_D A (mW T h0 ar S1) := hD
      have hl : lv_has ls 4 [(3, .int i), (0, .ref h0), (1, .long v0)] := hl
      refine lv_iload_n hx hb d_Mo_zeros_27 rfl (lv_at hl 0 rfl) ?_
      refine lv_i2l (v := (i).toInt64) hx hb d_Mo_zeros_28 rfl ?_
      refine lv_topl (fun x5 ex5 => ?_)
      have fx5 : x5.toInt = i.toInt := by rw [ex5]; exact zu_i2l (show i.toInt = _ from rfl)
      refine lv_lload_n hx hb d_Mo_zeros_29 rfl (lv_at hl 2 rfl) ?_
      refine W.lcmp hx hb d_Mo_zeros_30 ?_
      refine lv_topi (fun x6 ex6 => ?_)
      refine lv_if_ge (tgt := 55) hx hb d_Mo_zeros_31 (by decide) (fun c31_1 => ?_) (fun c31_1 => ?_)
      · have fc31_1 : 0 ≤ x6.toInt := zt_le tI_0 (show x6.toInt = _ from rfl) c31_1
        have vc31_1 : i.toInt ≥ v0.toInt := by have := zr_cmp ex6 fx5 (show v0.toInt = _ from rfl); have := zt_le tI_0 (show x6.toInt = _ from rfl) c31_1; omega
        refine lv_aload_n hx hb d_Mo_zeros_55 rfl (lv_at hl 1 rfl) ?_
        refine lv_iconst (v := 1) hx hb d_Mo_zeros_56 (by decide) ?_
        refine lv_iconst (v := 5) hx hb d_Mo_zeros_57 (by decide) ?_
        refine lv_aload_n hx hb d_Mo_zeros_58 rfl (lv_at hl 1 rfl) ?_
        refine va_get (D := D) (ci := 11) (v := .int (f_taken S1)) (C := "PageScribeModel") (T := F_Mo) (N := 45) hx hb hts i_Mo hown hK hP 0 mW_0 cl_11 5 (by decide) (hts _ k_6_165) (fun _ h9 => h9) (mg_taken _ _) d_Mo_zeros_59 ?_
        refine lv_i2l (v := ((f_taken S1)).toInt64) hx hb d_Mo_zeros_62 rfl ?_
        refine lv_topl (fun x7 ex7 => ?_)
        have fx7 : x7.toInt = (f_taken S1).toInt := by rw [ex7]; exact zu_i2l (show (f_taken S1).toInt = _ from rfl)
        refine lv_ldc2 (v := (1024)) hx hb hown (hts _ k_7_77) d_Mo_zeros_63 ?_
        refine lv_lload_n hx hb d_Mo_zeros_66 rfl (lv_at hl 2 rfl) ?_
        refine lv_lmul hx hb d_Mo_zeros_67 ?_
        refine lv_topl (fun x8 ex8 => ?_)
        have fx8 : x8.toInt = (1024 * v0.toInt) := by rw [ex8]; exact (zu_mul tJ_1024 (show v0.toInt = _ from rfl) rfl (by omega) (by omega)).trans (by omega)
        refine lv_ladd hx hb d_Mo_zeros_68 ?_
        refine lv_topl (fun x9 ex9 => ?_)
        have fx9 : x9.toInt = ((f_taken S1).toInt + 1024 * v0.toInt) := by rw [ex9]; exact (zu_add fx7 fx8 (by omega) (by omega)).trans (by omega)
        refine jm_ci (w := (fun u => u)) hK hP hD hS hA (va_runV (As := [.int 1, .int 5, .long x9]) (rest := []) F (m_give l D T h0 ar S1 (1 : Int32) (5 : Int32) x9 H.size ⟨i_size, i_taken, i_vals, i_room, i_dicts, i_deep, i_open, i_cells, i_points, i_part, i_length, i_knows, i_page, i_text, i_pats, i_fuel, i_fr, i_ink⟩ (show 0 ≤ (1 : Int32).toInt ∧ (1 : Int32).toInt ≤ (f_size S1).toInt ∧ (f_size S1).toInt - (1 : Int32).toInt ≤ 39 by have := tI_1; have := tI_5; first | omega | (simp only [fx9]; omega)) (vO_arr 5 tI_5 (by decide) (zc_mk (by assumption) (by omega)))) (j_cV (k := 3) (C := "PageScribeModel") hts k_7_221 k_1_12 k_7_218 k_7_220 k_0_113 (by decide +kernel) ⟨Nat.le_of_ble_eq_true rfl, Nat.le_of_ble_eq_true rfl⟩) (jm_pre hK hP hD) rfl rfl hl.1 rfl (lv_room (Nat.le_of_ble_eq_true rfl)) d_Mo_zeros_69 ⟨Nat.le_of_ble_eq_true rfl, Nat.le_of_ble_eq_true rfl⟩) (fun rv1 S2 H locs hw1 hP hD hS => ?_)
        have hP : va_P D classes (mW T h0 ar S2) H := hP
        have hD : va_D A (mW T h0 ar S2) := hD
        obtain ⟨⟨i_size, i_taken, i_vals, i_room, i_dicts, i_deep, i_open, i_cells, i_points, i_part, i_length, i_knows, i_page, i_text, i_pats, i_fuel, i_fr, i_ink⟩, kpA_S2, kpF_S2, qqhw1⟩ := hw1
        have kSA_S2 : kA S S2 := kA_t (show kA S S1 from klA_S1) kpA_S2
        have kSF_S2 : kF S S2 := kF_t (show kF S S1 from klF_S1) kpF_S2
        have kST_S2 : kT S S2 := kT_t (show kT S S1 from (kT_A klA_S1)) (kT_A kpA_S2)
        have qhw1 : rv1.toInt = 0 ∧ (f_taken S2).toInt = (f_taken S1).toInt := by simpa only [fx9, tI_1, tI_5] using qqhw1
        refine lv_pop hx hb d_Mo_zeros_72 rfl ?_
        refine lv_aload_n hx hb d_Mo_zeros_73 rfl (lv_at hl 1 rfl) ?_
        refine lv_dup hx hb d_Mo_zeros_74 rfl ?_
        refine va_get (D := D) (ci := 11) (v := .int (f_taken S2)) (C := "PageScribeModel") (T := F_Mo) (N := 45) hx hb hts i_Mo hown hK hP 0 mW_0 cl_11 5 (by decide) (hts _ k_6_165) (fun _ h9 => h9) (mg_taken _ _) d_Mo_zeros_75 ?_
        refine lv_lload_n hx hb d_Mo_zeros_78 rfl (lv_at hl 2 rfl) ?_
        refine lv_l2i (v := (v0).toInt32) hx hb d_Mo_zeros_79 rfl ?_
        refine lv_topi (fun x10 ex10 => ?_)
        have wx10 := zt_rng x10
        have fx10 : x10.toInt = v0.toInt := by rw [ex10]; exact zt_l2i (show v0.toInt = _ from rfl) (by omega) (by omega)
        refine lv_iadd hx hb d_Mo_zeros_80 ?_
        refine lv_topi (fun x11 ex11 => ?_)
        have fx11 : x11.toInt = ((f_taken S2).toInt + x10.toInt) := by rw [ex11]; exact (zt_add (show (f_taken S2).toInt = _ from rfl) (show x10.toInt = _ from rfl) (by omega) (by omega)).trans (by omega)
        refine va_put (D := D) (ci := 11) (v := .int x11) (ty := .int) (C := "PageScribeModel") (T := F_Mo) (N := 45) hx hb hts i_Mo t_Mo t_Mo_ok n_Mo hown hK hP hD hS 0 mW_0 cl_11 5 (by decide) (hts _ k_6_165) (fun _ h9 => h9) rfl (by decide +kernel) rfl rfl (Nat.le_of_ble_eq_true rfl) d_Mo_zeros_81 (fun H locs hP hD hS => ?_)
        rw [mp_taken] at hP hD
        have hP : va_P D classes (mW T h0 ar ((((f_thrown S2), (a_kinds S2), (a_codes S2), (a_reals S2), (f_size S2), x11, (a_words S2), (a_many S2)), S2.2.1, S2.2.2.1, S2.2.2.2.1, S2.2.2.2.2.1, S2.2.2.2.2.2) : MS)) H := hP
        have hD : va_D A (mW T h0 ar ((((f_thrown S2), (a_kinds S2), (a_codes S2), (a_reals S2), (f_size S2), x11, (a_words S2), (a_many S2)), S2.2.1, S2.2.2.1, S2.2.2.2.1, S2.2.2.2.2.1, S2.2.2.2.2.2) : MS)) := hD
        refine lv_iconst (v := 0) hx hb d_Mo_zeros_84 (by decide) ?_
        exact j_iret F hr hlocks hK hS ((((f_thrown S2), (a_kinds S2), (a_codes S2), (a_reals S2), (f_size S2), x11, (a_words S2), (a_many S2)), S2.2.1, S2.2.2.1, S2.2.2.2.1, S2.2.2.2.2.1, S2.2.2.2.2.2) : MS) ⟨⟨i_size, (show 0 ≤ x11.toInt ∧ x11.toInt ≤ 160 by omega), i_vals, i_room, i_dicts, i_deep, i_open, i_cells, i_points, i_part, i_length, i_knows, i_page, i_text, i_pats, i_fuel, i_fr, i_ink⟩, kSA_S2, kSF_S2, (show (0 : Int32).toInt = 0 ∨ (0 : Int32).toInt = 4 ∨ (0 : Int32).toInt = 7 by have := tI_0; omega)⟩ hP hD d_Mo_zeros_85
      · have fc31_1 : x6.toInt < 0 := Int.not_le.mp (zt_nle tI_0 (show x6.toInt = _ from rfl) c31_1)
        have vc31_1 : i.toInt < v0.toInt := by have := zr_cmp ex6 fx5 (show v0.toInt = _ from rfl); have := Int.not_le.mp (zt_nle tI_0 (show x6.toInt = _ from rfl) c31_1); omega
        refine lv_aload_n hx hb d_Mo_zeros_34 rfl (lv_at hl 1 rfl) ?_
        refine lv_bipush (v := 50) hx hb d_Mo_zeros_35 (by decide) ?_
        refine lv_aload_n hx hb d_Mo_zeros_37 rfl (lv_at hl 1 rfl) ?_
        refine va_get (D := D) (ci := 11) (v := .int (f_taken S1)) (C := "PageScribeModel") (T := F_Mo) (N := 45) hx hb hts i_Mo hown hK hP 0 mW_0 cl_11 5 (by decide) (hts _ k_6_165) (fun _ h9 => h9) (mg_taken _ _) d_Mo_zeros_38 ?_
        refine lv_iadd hx hb d_Mo_zeros_41 ?_
        refine lv_topi (fun x12 ex12 => ?_)
        have fx12 : x12.toInt = ((f_taken S1).toInt + 50) := by rw [ex12]; exact (zt_add tI_50 (show (f_taken S1).toInt = _ from rfl) (by omega) (by omega)).trans (by omega)
        refine lv_iload_n hx hb d_Mo_zeros_42 rfl (lv_at hl 0 rfl) ?_
        refine lv_iadd hx hb d_Mo_zeros_43 ?_
        refine lv_topi (fun x13 ex13 => ?_)
        have fx13 : x13.toInt = ((f_taken S1).toInt + i.toInt + 50) := by rw [ex13]; exact (zt_add fx12 (show i.toInt = _ from rfl) (by omega) (by omega)).trans (by omega)
        refine lv_iconst (v := 0) hx hb d_Mo_zeros_44 (by decide) ?_
        refine lv_lconst (v := 0) hx hb d_Mo_zeros_45 (by decide) ?_
        refine jm_cv (w := (fun u => u)) hK hP hD hS hA (va_runV (As := [.int x13, .int 0, .long 0]) (rest := []) F (m_set l D T h0 ar S1 x13 (0 : Int32) (0 : Int64) H.size (show 0 ≤ x13.toInt ∧ x13.toInt < 1300 by have := tI_0; have := tJ_0; first | omega | (simp only [fx13]; omega))) (j_cV (k := 3) (C := "PageScribeModel") hts k_7_81 k_1_12 k_7_78 k_7_80 k_0_83 (by decide +kernel) ⟨Nat.le_of_ble_eq_true rfl, Nat.le_of_ble_eq_true rfl⟩) (jm_pre hK hP hD) rfl rfl hl.1 rfl (lv_room (Nat.le_of_ble_eq_true rfl)) d_Mo_zeros_46 ⟨Nat.le_of_ble_eq_true rfl, Nat.le_of_ble_eq_true rfl⟩) (fun S3 H locs hw2 hP hD hS => ?_)
        try simp only [fx13, tI_0, tJ_0] at hw2
        obtain rfl := hw2
        have hP : va_P D classes (mW T h0 ar ((((f_thrown S1), (upd (a_kinds S1) (((f_taken S1).toInt + i.toInt + 50).toNat) (0 : Int32)), (vp_updL (a_codes S1) (((f_taken S1).toInt + i.toInt + 50).toNat) (0 : Int64)), (vf_upd (a_reals S1) (((f_taken S1).toInt + i.toInt + 50).toNat) 0), (f_size S1), (f_taken S1), (a_words S1), (a_many S1)), S1.2.1, S1.2.2.1, S1.2.2.2.1, S1.2.2.2.2.1, S1.2.2.2.2.2) : MS)) H := hP
        have hD : va_D A (mW T h0 ar ((((f_thrown S1), (upd (a_kinds S1) (((f_taken S1).toInt + i.toInt + 50).toNat) (0 : Int32)), (vp_updL (a_codes S1) (((f_taken S1).toInt + i.toInt + 50).toNat) (0 : Int64)), (vf_upd (a_reals S1) (((f_taken S1).toInt + i.toInt + 50).toNat) 0), (f_size S1), (f_taken S1), (a_words S1), (a_many S1)), S1.2.1, S1.2.2.1, S1.2.2.2.1, S1.2.2.2.2.1, S1.2.2.2.2.2) : MS)) := hD
        have i_vals : ∀ k, k < 1300 → vOk ((upd (a_kinds S1) (((f_taken S1).toInt + i.toInt + 50).toNat) (0 : Int32)) k) ((vp_updL (a_codes S1) (((f_taken S1).toInt + i.toInt + 50).toNat) (0 : Int64)) k) ((vf_upd (a_reals S1) (((f_taken S1).toInt + i.toInt + 50).toNat) 0) k) := vOk_upd i_vals (vO_int (by have := tJ_0; omega))
        have fa1 : ((upd (a_kinds S1) (((f_taken S1).toInt + i.toInt + 50).toNat) (0 : Int32)) (((f_taken S1).toInt + i.toInt + 50).toNat)).toInt = (0 : Int32).toInt := congrArg Int32.toInt upd_s
        have := tI_0
        refine lv_iinc (v := (i + 1)) (lv' := [(3, .int (i + 1)), (0, .ref h0), (1, .long v0)]) hx hb d_Mo_zeros_49 hl (k := 0) rfl (by first | rfl | decide) (by decide) rfl (fun ls hl => ?_)
        obtain ⟨x14, ex14⟩ : ∃ z, z = (i + 1) := ⟨_, rfl⟩
        rw [← ex14] at hl
        have fx14 : x14.toInt = (i.toInt + 1) := by rw [ex14]; exact (zt_add (show i.toInt = _ from rfl) tI_1 (by omega) (by omega)).trans (by omega)
        have hl : lv_has ls 4 [(3, .int x14), (0, .ref h0), (1, .long v0)] := hl
        refine lv_goto (tgt := 27) hx hb d_Mo_zeros_52 (by decide) ?_
        exact ih (k - 1) (((((f_thrown S1), (upd (a_kinds S1) (((f_taken S1).toInt + i.toInt + 50).toNat) (0 : Int32)), (vp_updL (a_codes S1) (((f_taken S1).toInt + i.toInt + 50).toNat) (0 : Int64)), (vf_upd (a_reals S1) (((f_taken S1).toInt + i.toInt + 50).toNat) 0), (f_size S1), (f_taken S1), (a_words S1), (a_many S1)), S1.2.1, S1.2.2.1, S1.2.2.2.1, S1.2.2.2.2.1, S1.2.2.2.2.2) : MS), x14) _ _ _ (by omega) ⟨(show 0 ≤ x14.toInt ∧ x14.toInt ≤ v0.toInt ∧ v0.toInt ≤ x14.toInt + (((k - 1) : Nat) : Int) ∧ (f_taken S1).toInt + v0.toInt ≤ 160 ∧ 1 ≤ (f_size S1).toInt by omega), ⟨i_size, i_taken, i_vals, i_room, i_dicts, i_deep, i_open, i_cells, i_points, i_part, i_length, i_knows, i_page, i_text, i_pats, i_fuel, i_fr, i_ink⟩, (show kA S ((((f_thrown S1), (upd (a_kinds S1) (((f_taken S1).toInt + i.toInt + 50).toNat) (0 : Int32)), (vp_updL (a_codes S1) (((f_taken S1).toInt + i.toInt + 50).toNat) (0 : Int64)), (vf_upd (a_reals S1) (((f_taken S1).toInt + i.toInt + 50).toNat) 0), (f_size S1), (f_taken S1), (a_words S1), (a_many S1)), S1.2.1, S1.2.2.1, S1.2.2.2.1, S1.2.2.2.2.1, S1.2.2.2.2.2) : MS) from klA_S1), (show kF S ((((f_thrown S1), (upd (a_kinds S1) (((f_taken S1).toInt + i.toInt + 50).toNat) (0 : Int32)), (vp_updL (a_codes S1) (((f_taken S1).toInt + i.toInt + 50).toNat) (0 : Int64)), (vf_upd (a_reals S1) (((f_taken S1).toInt + i.toInt + 50).toNat) 0), (f_size S1), (f_taken S1), (a_words S1), (a_many S1)), S1.2.1, S1.2.2.1, S1.2.2.2.1, S1.2.2.2.2.1, S1.2.2.2.2.2) : MS) from klF_S1), hP, hD, hS, lv_sub hl [0, 1, 2] rfl⟩
    · have fc19_1 : 0 < x4.toInt := Int.not_le.mp (zt_nle (show x4.toInt = _ from rfl) tI_0 c19_1)
      have vc19_1 : v0.toInt > (-(f_taken S).toInt + 160) := by have := zr_cmp ex4 (show v0.toInt = _ from rfl) fx3; have := Int.not_le.mp (zt_nle (show x4.toInt = _ from rfl) tI_0 c19_1); omega
      refine lv_bipush (v := 7) hx hb d_Mo_zeros_22 (by decide) ?_
      exact j_iret F hr hlocks hK hS S ⟨⟨i_size, i_taken, i_vals, i_room, i_dicts, i_deep, i_open, i_cells, i_points, i_part, i_length, i_knows, i_page, i_text, i_pats, i_fuel, i_fr, i_ink⟩, (kA_r S), (kF_r S), (show (7 : Int32).toInt = 0 ∨ (7 : Int32).toInt = 4 ∨ (7 : Int32).toInt = 7 by have := tI_7; omega)⟩ hP hD d_Mo_zeros_24
  · have fc3_1 : x1.toInt < 0 := Int.not_le.mp (zt_nle tI_0 (show x1.toInt = _ from rfl) c3_1)
    have vc3_1 : v0.toInt < 0 := by have := zr_cmp ex1 (show v0.toInt = _ from rfl) tJ_0; have := Int.not_le.mp (zt_nle tI_0 (show x1.toInt = _ from rfl) c3_1); omega
    refine lv_iconst (v := 4) hx hb d_Mo_zeros_6 (by decide) ?_
    exact j_iret F hr hlocks hK hS S ⟨⟨i_size, i_taken, i_vals, i_room, i_dicts, i_deep, i_open, i_cells, i_points, i_part, i_length, i_knows, i_page, i_text, i_pats, i_fuel, i_fr, i_ink⟩, (kA_r S), (kF_r S), (show (4 : Int32).toInt = 0 ∨ (4 : Int32).toInt = 4 ∨ (4 : Int32).toInt = 7 by have := tI_4; omega)⟩ hP hD d_Mo_zeros_7
theorem d_Mo_toMark_0 : decode prog_15_method_46_code 0 = .ok (.aload_n 0, 1) := by decide +kernel
theorem d_Mo_toMark_1 : decode prog_15_method_46_code 1 = .ok (.invokevirtual 470, 3) := by decide +kernel
theorem k_7_199 : Cond.code ⟨"PageScribeModel", "topMark", "()I"⟩ prog_15_method_43_code 2 (some .int) ∈ gw := gw_of (tb_7 (List.mem_of_getElem? (i := 199) (by decide +kernel))) (by decide +kernel)
theorem k_7_196 : Cond.methodLink "PageScribeModel" 470 ⟨"PageScribeModel", "topMark", "()I"⟩ ∈ gw := gw_of (tb_7 (List.mem_of_getElem? (i := 196) (by decide +kernel))) (by decide +kernel)
theorem k_7_198 : Cond.instanceMethod ⟨"PageScribeModel", "topMark", "()I"⟩ ∈ gw := gw_of (tb_7 (List.mem_of_getElem? (i := 198) (by decide +kernel))) (by decide +kernel)
theorem k_0_108 : Cond.selects "PageScribeModel" ⟨"PageScribeModel", "topMark", "()I"⟩ ⟨"PageScribeModel", "topMark", "()I"⟩ ∈ gw := gw_of (tb_0 (List.mem_of_getElem? (i := 108) (by decide +kernel))) (by decide +kernel)
theorem d_Mo_toMark_4 : decode prog_15_method_46_code 4 = .ok (.istore_n 2, 1) := by decide +kernel
theorem d_Mo_toMark_5 : decode prog_15_method_46_code 5 = .ok (.iload_n 2, 1) := by decide +kernel
theorem d_Mo_toMark_6 : decode prog_15_method_46_code 6 = .ok (.ifCond .ge 6, 3) := by decide +kernel
theorem d_Mo_toMark_12 : decode prog_15_method_46_code 12 = .ok (.iload_n 1, 1) := by decide +kernel
theorem d_Mo_toMark_13 : decode prog_15_method_46_code 13 = .ok (.bipush 71, 2) := by decide +kernel
theorem d_Mo_toMark_15 : decode prog_15_method_46_code 15 = .ok (.if_icmp .ne 36, 3) := by decide +kernel
theorem tI_71 : (71 : Int32).toInt = 71 := by decide +kernel
theorem d_Mo_toMark_51 : decode prog_15_method_46_code 51 = .ok (.aload_n 0, 1) := by decide +kernel
theorem d_Mo_toMark_52 : decode prog_15_method_46_code 52 = .ok (.iload_n 2, 1) := by decide +kernel
theorem d_Mo_toMark_53 : decode prog_15_method_46_code 53 = .ok (.putfield 247, 3) := by decide +kernel
theorem d_Mo_toMark_56 : decode prog_15_method_46_code 56 = .ok (.iconst 0, 1) := by decide +kernel
theorem d_Mo_toMark_57 : decode prog_15_method_46_code 57 = .ok (.ireturn, 1) := by decide +kernel
theorem d_Mo_toMark_18 : decode prog_15_method_46_code 18 = .ok (.aload_n 0, 1) := by decide +kernel
theorem d_Mo_toMark_19 : decode prog_15_method_46_code 19 = .ok (.iload_n 2, 1) := by decide +kernel
theorem d_Mo_toMark_20 : decode prog_15_method_46_code 20 = .ok (.iconst 1, 1) := by decide +kernel
theorem d_Mo_toMark_21 : decode prog_15_method_46_code 21 = .ok (.iadd, 1) := by decide +kernel
theorem d_Mo_toMark_22 : decode prog_15_method_46_code 22 = .ok (.aload_n 0, 1) := by decide +kernel
theorem d_Mo_toMark_23 : decode prog_15_method_46_code 23 = .ok (.getfield 247, 3) := by decide +kernel
theorem d_Mo_toMark_26 : decode prog_15_method_46_code 26 = .ok (.iconst 1, 1) := by decide +kernel
theorem d_Mo_toMark_27 : decode prog_15_method_46_code 27 = .ok (.isub, 1) := by decide +kernel
theorem d_Mo_toMark_28 : decode prog_15_method_46_code 28 = .ok (.iload_n 2, 1) := by decide +kernel
theorem d_Mo_toMark_29 : decode prog_15_method_46_code 29 = .ok (.isub, 1) := by decide +kernel
theorem d_Mo_toMark_30 : decode prog_15_method_46_code 30 = .ok (.iconst 5, 1) := by decide +kernel
theorem d_Mo_toMark_31 : decode prog_15_method_46_code 31 = .ok (.invokevirtual 336, 3) := by decide +kernel
theorem k_7_72 : Cond.code ⟨"PageScribeModel", "newArray", "(III)I"⟩ prog_15_method_25_code 5 (some .int) ∈ gw := gw_of (tb_7 (List.mem_of_getElem? (i := 72) (by decide +kernel))) (by decide +kernel)
theorem k_7_69 : Cond.methodLink "PageScribeModel" 336 ⟨"PageScribeModel", "newArray", "(III)I"⟩ ∈ gw := gw_of (tb_7 (List.mem_of_getElem? (i := 69) (by decide +kernel))) (by decide +kernel)
theorem k_7_71 : Cond.instanceMethod ⟨"PageScribeModel", "newArray", "(III)I"⟩ ∈ gw := gw_of (tb_7 (List.mem_of_getElem? (i := 71) (by decide +kernel))) (by decide +kernel)
theorem k_0_81 : Cond.selects "PageScribeModel" ⟨"PageScribeModel", "newArray", "(III)I"⟩ ⟨"PageScribeModel", "newArray", "(III)I"⟩ ∈ gw := gw_of (tb_0 (List.mem_of_getElem? (i := 81) (by decide +kernel))) (by decide +kernel)
theorem d_Mo_toMark_34 : decode prog_15_method_46_code 34 = .ok (.istore_n 3, 1) := by decide +kernel
theorem d_Mo_toMark_35 : decode prog_15_method_46_code 35 = .ok (.iload_n 3, 1) := by decide +kernel
theorem d_Mo_toMark_36 : decode prog_15_method_46_code 36 = .ok (.ifCond .eq 5, 3) := by decide +kernel
theorem d_Mo_toMark_41 : decode prog_15_method_46_code 41 = .ok (.aload_n 0, 1) := by decide +kernel
theorem d_Mo_toMark_42 : decode prog_15_method_46_code 42 = .ok (.iload_n 2, 1) := by decide +kernel
theorem d_Mo_toMark_43 : decode prog_15_method_46_code 43 = .ok (.bipush 40, 2) := by decide +kernel
theorem d_Mo_toMark_45 : decode prog_15_method_46_code 45 = .ok (.invokevirtual 254, 3) := by decide +kernel
theorem d_Mo_toMark_48 : decode prog_15_method_46_code 48 = .ok (.iinc 2 1, 3) := by decide +kernel
theorem d_Mo_toMark_39 : decode prog_15_method_46_code 39 = .ok (.iload_n 3, 1) := by decide +kernel
theorem d_Mo_toMark_40 : decode prog_15_method_46_code 40 = .ok (.ireturn, 1) := by decide +kernel
theorem d_Mo_toMark_9 : decode prog_15_method_46_code 9 = .ok (.bipush 9, 2) := by decide +kernel
theorem d_Mo_toMark_11 : decode prog_15_method_46_code 11 = .ok (.ireturn, 1) := by decide +kernel
theorem tI_9 : (9 : Int32).toInt = 9 := by decide +kernel
set_option maxHeartbeats 4000000 in
set_option maxRecDepth 100000 in
theorem m_toMark (l : Launch) (D : va_G) (T : Nat → ClassId) (h0 : Nat) (ar : Nat → Nat) (S : MS) (p0 : Int32) (sz : Nat) (hI : MI S) : Met l ⟨"PageScribeModel", "toMark", "(I)I"⟩ (wy ⟨"PageScribeModel", "toMark", "(I)I"⟩ prog_15_method_46_code 4 (some .int)) ({ frames := 2, cells := 0, slots := 0, locals := 140 }) (va_Pc [.ref h0, .int p0] (Pw D T (mW T h0 ar S) sz E0)) (va_Qi (fun (r : Int32) (u : MS) => MI u ∧ kA S u ∧ kF S u ∧ (r.toInt = 0 ∨ r.toInt = 7 ∨ r.toInt = 9)) (fun u t => Bw D T (va_A (mW T h0 ar S) sz) (mW T h0 ar u) t) (va_A (mW T h0 ar S) sz)) 0 0 (va_A (mW T h0 ar S) sz) := by
  refine j_met (y := ⟨"PageScribeModel", "toMark", "(I)I"⟩) (b := prog_15_method_46_code) (n := 4) (ret := (some .int)) (av := [.ref h0, .int p0]) (Qc := fun A => va_Qi (fun (r : Int32) (u : MS) => MI u ∧ kA S u ∧ kF S u ∧ (r.toInt = 0 ∨ r.toInt = 7 ∨ r.toInt = 9)) (fun u t => Bw D T A (mW T h0 ar u) t) A) (by decide +kernel) (Nat.le_of_ble_eq_true rfl) (fun p e s m args below meth c A ls F hr hlocks hnm hK hP hD hS hA hN hE hl => ?_)
  obtain ⟨hx, hb, hml, hown, hts⟩ := id F
  have hl : lv_has ls 4 [(0, .ref h0), (1, .int p0)] := hl
  obtain ⟨i_size, i_taken, i_vals, i_room, i_dicts, i_deep, i_open, i_cells, i_points, i_part, i_length, i_knows, i_page, i_text, i_pats, i_fuel, i_fr, i_ink⟩ := id hI
  refine lv_aload_n hx hb d_Mo_toMark_0 rfl (lv_at hl 0 rfl) ?_
  refine jm_ci (w := (fun _ => S)) hK hP hD hS hA (va_runV (As := []) (rest := []) F (m_topMark l D T h0 ar S  s.heap.size ⟨i_size, i_taken, i_vals, i_room, i_dicts, i_deep, i_open, i_cells, i_points, i_part, i_length, i_knows, i_page, i_text, i_pats, i_fuel, i_fr, i_ink⟩) (j_cV (k := 0) (C := "PageScribeModel") hts k_7_199 k_1_12 k_7_196 k_7_198 k_0_108 (by decide +kernel) ⟨Nat.le_of_ble_eq_true rfl, Nat.le_of_ble_eq_true rfl⟩) (jm_pre hK hP hD) rfl rfl hl.1 rfl (lv_room (Nat.le_of_ble_eq_true rfl)) d_Mo_toMark_1 ⟨Nat.le_of_ble_eq_true rfl, Nat.le_of_ble_eq_true rfl⟩) (fun rv1 u1 H locs hw1 hP hD hS => ?_)
  have hP : va_P D classes (mW T h0 ar S) H := hP
  have hD : va_D A (mW T h0 ar S) := hD
  have qhw1 : -1 ≤ rv1.toInt ∧ rv1.toInt ≤ (f_size S).toInt - 1 := hw1
  refine lv_istore_n (lv' := [(2, .int rv1), (0, .ref h0), (1, .int p0)]) hx hb d_Mo_toMark_4 rfl hl (by decide) rfl (fun ls hl => ?_)
  refine lv_iload_n hx hb d_Mo_toMark_5 rfl (lv_at hl 0 rfl) ?_
  refine lv_if_ge (tgt := 12) hx hb d_Mo_toMark_6 (by decide) (fun c6_1 => ?_) (fun c6_1 => ?_)
  · have fc6_1 : 0 ≤ rv1.toInt := zt_le tI_0 (show rv1.toInt = _ from rfl) c6_1
    refine lv_iload_n hx hb d_Mo_toMark_12 rfl (lv_at hl 2 rfl) ?_
    refine lv_bipush (v := 71) hx hb d_Mo_toMark_13 (by decide) ?_
    refine lv_icmp_ne (tgt := 51) hx hb d_Mo_toMark_15 (by decide) (fun c15_1 => ?_) (fun c15_1 => ?_)
    · first | have fc15_1 : p0.toInt < 71 := (by have := zt_ne (show p0.toInt = _ from rfl) tI_71 c15_1; omega) | have fc15_1 : 71 < p0.toInt := (by have := zt_ne (show p0.toInt = _ from rfl) tI_71 c15_1; omega) | skip
      refine lv_aload_n hx hb d_Mo_toMark_51 rfl (lv_at hl 1 rfl) ?_
      refine lv_iload_n hx hb d_Mo_toMark_52 rfl (lv_at hl 0 rfl) ?_
      refine va_put (D := D) (ci := 11) (v := .int rv1) (ty := .int) (C := "PageScribeModel") (T := F_Mo) (N := 45) hx hb hts i_Mo t_Mo t_Mo_ok n_Mo hown hK hP hD hS 0 mW_0 cl_11 4 (by decide) (hts _ k_6_164) (fun _ h9 => h9) rfl (by decide +kernel) rfl rfl (Nat.le_of_ble_eq_true rfl) d_Mo_toMark_53 (fun H locs hP hD hS => ?_)
      rw [mp_size] at hP hD
      have hP : va_P D classes (mW T h0 ar ((((f_thrown S), (a_kinds S), (a_codes S), (a_reals S), rv1, (f_taken S), (a_words S), (a_many S)), S.2.1, S.2.2.1, S.2.2.2.1, S.2.2.2.2.1, S.2.2.2.2.2) : MS)) H := hP
      have hD : va_D A (mW T h0 ar ((((f_thrown S), (a_kinds S), (a_codes S), (a_reals S), rv1, (f_taken S), (a_words S), (a_many S)), S.2.1, S.2.2.1, S.2.2.2.1, S.2.2.2.2.1, S.2.2.2.2.2) : MS)) := hD
      refine lv_iconst (v := 0) hx hb d_Mo_toMark_56 (by decide) ?_
      exact j_iret F hr hlocks hK hS ((((f_thrown S), (a_kinds S), (a_codes S), (a_reals S), rv1, (f_taken S), (a_words S), (a_many S)), S.2.1, S.2.2.1, S.2.2.2.1, S.2.2.2.2.1, S.2.2.2.2.2) : MS) ⟨⟨(show 0 ≤ rv1.toInt ∧ rv1.toInt ≤ 40 by omega), i_taken, i_vals, i_room, i_dicts, i_deep, i_open, i_cells, i_points, i_part, i_length, i_knows, i_page, i_text, i_pats, i_fuel, i_fr, i_ink⟩, (kA_r S), (kF_r S), (show (0 : Int32).toInt = 0 ∨ (0 : Int32).toInt = 7 ∨ (0 : Int32).toInt = 9 by have := tI_0; omega)⟩ hP hD d_Mo_toMark_57
    · have fc15_1 : p0.toInt = 71 := zt_eq (show p0.toInt = _ from rfl) tI_71 c15_1
      refine lv_aload_n hx hb d_Mo_toMark_18 rfl (lv_at hl 1 rfl) ?_
      refine lv_iload_n hx hb d_Mo_toMark_19 rfl (lv_at hl 0 rfl) ?_
      refine lv_iconst (v := 1) hx hb d_Mo_toMark_20 (by decide) ?_
      refine lv_iadd hx hb d_Mo_toMark_21 ?_
      refine lv_topi (fun x1 ex1 => ?_)
      have fx1 : x1.toInt = (rv1.toInt + 1) := by rw [ex1]; exact (zt_add (show rv1.toInt = _ from rfl) tI_1 (by omega) (by omega)).trans (by omega)
      refine lv_aload_n hx hb d_Mo_toMark_22 rfl (lv_at hl 1 rfl) ?_
      refine va_get (D := D) (ci := 11) (v := .int (f_size S)) (C := "PageScribeModel") (T := F_Mo) (N := 45) hx hb hts i_Mo hown hK hP 0 mW_0 cl_11 4 (by decide) (hts _ k_6_164) (fun _ h9 => h9) (mg_size _ _) d_Mo_toMark_23 ?_
      refine lv_iconst (v := 1) hx hb d_Mo_toMark_26 (by decide) ?_
      refine lv_isub hx hb d_Mo_toMark_27 ?_
      refine lv_topi (fun x2 ex2 => ?_)
      have fx2 : x2.toInt = ((f_size S).toInt - 1) := by rw [ex2]; exact (zt_sub (show (f_size S).toInt = _ from rfl) tI_1 (by omega) (by omega)).trans (by omega)
      refine lv_iload_n hx hb d_Mo_toMark_28 rfl (lv_at hl 0 rfl) ?_
      refine lv_isub hx hb d_Mo_toMark_29 ?_
      refine lv_topi (fun x3 ex3 => ?_)
      have fx3 : x3.toInt = ((f_size S).toInt - rv1.toInt - 1) := by rw [ex3]; exact (zt_sub fx2 (show rv1.toInt = _ from rfl) (by omega) (by omega)).trans (by omega)
      refine lv_iconst (v := 5) hx hb d_Mo_toMark_30 (by decide) ?_
      refine jm_ci (w := (fun u => u)) hK hP hD hS hA (va_runV (As := [.int x1, .int x3, .int 5]) (rest := []) F (m_newArray l D T h0 ar S x1 x3 (5 : Int32) H.size ⟨i_size, i_taken, i_vals, i_room, i_dicts, i_deep, i_open, i_cells, i_points, i_part, i_length, i_knows, i_page, i_text, i_pats, i_fuel, i_fr, i_ink⟩ (show 0 ≤ x1.toInt ∧ 0 ≤ x3.toInt ∧ x1.toInt + x3.toInt ≤ 1300 by have := tI_5; first | omega | (simp only [fx1, fx3]; omega)) (show (5 : Int32).toInt = 5 ∨ (5 : Int32).toInt = 13 by have := tI_5; first | omega | (simp only [fx1, fx3]; omega))) (j_cV (k := 3) (C := "PageScribeModel") hts k_7_72 k_1_12 k_7_69 k_7_71 k_0_81 (by decide +kernel) ⟨Nat.le_of_ble_eq_true rfl, Nat.le_of_ble_eq_true rfl⟩) (jm_pre hK hP hD) rfl rfl hl.1 rfl (lv_room (Nat.le_of_ble_eq_true rfl)) d_Mo_toMark_31 ⟨Nat.le_of_ble_eq_true rfl, Nat.le_of_ble_eq_true rfl⟩) (fun rv2 S1 H locs hw2 hP hD hS => ?_)
      have hP : va_P D classes (mW T h0 ar S1) H := hP
      have hD : va_D A (mW T h0 ar S1) := hD
      obtain ⟨⟨i_size, i_taken, i_vals, i_room, i_dicts, i_deep, i_open, i_cells, i_points, i_part, i_length, i_knows, i_page, i_text, i_pats, i_fuel, i_fr, i_ink⟩, kpA_S1, kpF_S1, qqhw2⟩ := hw2
      have kSA_S1 : kA S S1 := kA_t (show kA S S from (kA_r S)) kpA_S1
      have kSF_S1 : kF S S1 := kF_t (show kF S S from (kF_r S)) kpF_S1
      have kST_S1 : kT S S1 := kT_t (show kT S S from (kT_r S)) (kT_A kpA_S1)
      have qhw2 : rv2.toInt = 0 ∨ rv2.toInt = 7 := by simpa only [fx1, fx3, tI_5] using qqhw2
      refine lv_istore_n (lv' := [(3, .int rv2), (2, .int rv1), (0, .ref h0), (1, .int p0)]) hx hb d_Mo_toMark_34 rfl hl (by decide) rfl (fun ls hl => ?_)
      refine lv_iload_n hx hb d_Mo_toMark_35 rfl (lv_at hl 0 rfl) ?_
      refine lv_if_eq (tgt := 41) hx hb d_Mo_toMark_36 (by decide) (fun c36_1 => ?_) (fun c36_1 => ?_)
      · have fc36_1 : rv2.toInt = 0 := zt_eq (show rv2.toInt = _ from rfl) tI_0 c36_1
        refine lv_aload_n hx hb d_Mo_toMark_41 rfl (lv_at hl 2 rfl) ?_
        refine lv_iload_n hx hb d_Mo_toMark_42 rfl (lv_at hl 1 rfl) ?_
        refine lv_bipush (v := 40) hx hb d_Mo_toMark_43 (by decide) ?_
        refine jm_cv (w := (fun u => u)) hK hP hD hS hA (va_runV (As := [.int rv1, .int 40]) (rest := []) F (m_move l D T h0 ar S1 rv1 (40 : Int32) H.size (show 0 ≤ rv1.toInt ∧ rv1.toInt < 1300 by have := tI_40; omega) (show 0 ≤ (40 : Int32).toInt ∧ (40 : Int32).toInt < 1300 by have := tI_40; omega)) (j_cV (k := 2) (C := "PageScribeModel") hts k_7_76 k_1_12 k_7_73 k_7_75 k_0_82 (by decide +kernel) ⟨Nat.le_of_ble_eq_true rfl, Nat.le_of_ble_eq_true rfl⟩) (jm_pre hK hP hD) rfl rfl hl.1 rfl (lv_room (Nat.le_of_ble_eq_true rfl)) d_Mo_toMark_45 ⟨Nat.le_of_ble_eq_true rfl, Nat.le_of_ble_eq_true rfl⟩) (fun S2 H locs hw3 hP hD hS => ?_)
        try simp only [tI_40] at hw3
        obtain rfl := hw3
        have hP : va_P D classes (mW T h0 ar ((((f_thrown S1), (upd (a_kinds S1) (rv1.toInt.toNat) ((a_kinds S1) (40))), (vp_updL (a_codes S1) (rv1.toInt.toNat) ((a_codes S1) (40))), (vf_upd (a_reals S1) (rv1.toInt.toNat) ((a_reals S1) (40))), (f_size S1), (f_taken S1), (a_words S1), (a_many S1)), S1.2.1, S1.2.2.1, S1.2.2.2.1, S1.2.2.2.2.1, S1.2.2.2.2.2) : MS)) H := hP
        have hD : va_D A (mW T h0 ar ((((f_thrown S1), (upd (a_kinds S1) (rv1.toInt.toNat) ((a_kinds S1) (40))), (vp_updL (a_codes S1) (rv1.toInt.toNat) ((a_codes S1) (40))), (vf_upd (a_reals S1) (rv1.toInt.toNat) ((a_reals S1) (40))), (f_size S1), (f_taken S1), (a_words S1), (a_many S1)), S1.2.1, S1.2.2.1, S1.2.2.2.1, S1.2.2.2.2.1, S1.2.2.2.2.2) : MS)) := hD
        have i_vals : ∀ k, k < 1300 → vOk ((upd (a_kinds S1) (rv1.toInt.toNat) ((a_kinds S1) (40))) k) ((vp_updL (a_codes S1) (rv1.toInt.toNat) ((a_codes S1) (40))) k) ((vf_upd (a_reals S1) (rv1.toInt.toNat) ((a_reals S1) (40))) k) := vOk_upd i_vals (i_vals 40 (by omega))
        have fa1 : ((upd (a_kinds S1) (rv1.toInt.toNat) ((a_kinds S1) (40))) (rv1.toInt.toNat)).toInt = ((a_kinds S1) 40).toInt := congrArg Int32.toInt upd_s
        have fa2 : ((vp_updL (a_codes S1) (rv1.toInt.toNat) ((a_codes S1) (40))) (rv1.toInt.toNat)).toInt = ((a_codes S1) 40).toInt := congrArg Int64.toInt updL_s
        refine lv_iinc (v := (rv1 + 1)) (lv' := [(2, .int (rv1 + 1)), (3, .int rv2), (0, .ref h0), (1, .int p0)]) hx hb d_Mo_toMark_48 hl (k := 1) rfl (by first | rfl | decide) (by decide) rfl (fun ls hl => ?_)
        obtain ⟨x4, ex4⟩ : ∃ z, z = (rv1 + 1) := ⟨_, rfl⟩
        rw [← ex4] at hl
        have fx4 : x4.toInt = (rv1.toInt + 1) := by rw [ex4]; exact (zt_add (show rv1.toInt = _ from rfl) tI_1 (by omega) (by omega)).trans (by omega)
        have hl : lv_has ls 4 [(2, .int x4), (3, .int rv2), (0, .ref h0), (1, .int p0)] := hl
        refine lv_aload_n hx hb d_Mo_toMark_51 rfl (lv_at hl 2 rfl) ?_
        refine lv_iload_n hx hb d_Mo_toMark_52 rfl (lv_at hl 0 rfl) ?_
        refine va_put (D := D) (ci := 11) (v := .int x4) (ty := .int) (C := "PageScribeModel") (T := F_Mo) (N := 45) hx hb hts i_Mo t_Mo t_Mo_ok n_Mo hown hK hP hD hS 0 mW_0 cl_11 4 (by decide) (hts _ k_6_164) (fun _ h9 => h9) rfl (by decide +kernel) rfl rfl (Nat.le_of_ble_eq_true rfl) d_Mo_toMark_53 (fun H locs hP hD hS => ?_)
        rw [mp_size] at hP hD
        have hP : va_P D classes (mW T h0 ar ((((f_thrown S1), (upd (a_kinds S1) (rv1.toInt.toNat) ((a_kinds S1) (40))), (vp_updL (a_codes S1) (rv1.toInt.toNat) ((a_codes S1) (40))), (vf_upd (a_reals S1) (rv1.toInt.toNat) ((a_reals S1) (40))), x4, (f_taken S1), (a_words S1), (a_many S1)), S1.2.1, S1.2.2.1, S1.2.2.2.1, S1.2.2.2.2.1, S1.2.2.2.2.2) : MS)) H := hP
        have hD : va_D A (mW T h0 ar ((((f_thrown S1), (upd (a_kinds S1) (rv1.toInt.toNat) ((a_kinds S1) (40))), (vp_updL (a_codes S1) (rv1.toInt.toNat) ((a_codes S1) (40))), (vf_upd (a_reals S1) (rv1.toInt.toNat) ((a_reals S1) (40))), x4, (f_taken S1), (a_words S1), (a_many S1)), S1.2.1, S1.2.2.1, S1.2.2.2.1, S1.2.2.2.2.1, S1.2.2.2.2.2) : MS)) := hD
        refine lv_iconst (v := 0) hx hb d_Mo_toMark_56 (by decide) ?_
        exact j_iret F hr hlocks hK hS ((((f_thrown S1), (upd (a_kinds S1) (rv1.toInt.toNat) ((a_kinds S1) (40))), (vp_updL (a_codes S1) (rv1.toInt.toNat) ((a_codes S1) (40))), (vf_upd (a_reals S1) (rv1.toInt.toNat) ((a_reals S1) (40))), x4, (f_taken S1), (a_words S1), (a_many S1)), S1.2.1, S1.2.2.1, S1.2.2.2.1, S1.2.2.2.2.1, S1.2.2.2.2.2) : MS) ⟨⟨(show 0 ≤ x4.toInt ∧ x4.toInt ≤ 40 by omega), i_taken, i_vals, i_room, i_dicts, i_deep, i_open, i_cells, i_points, i_part, i_length, i_knows, i_page, i_text, i_pats, i_fuel, i_fr, i_ink⟩, kSA_S1, kSF_S1, (show (0 : Int32).toInt = 0 ∨ (0 : Int32).toInt = 7 ∨ (0 : Int32).toInt = 9 by have := tI_0; omega)⟩ hP hD d_Mo_toMark_57
      · first | have fc36_1 : rv2.toInt < 0 := (by have := zt_ne (show rv2.toInt = _ from rfl) tI_0 c36_1; omega) | have fc36_1 : 0 < rv2.toInt := (by have := zt_ne (show rv2.toInt = _ from rfl) tI_0 c36_1; omega) | skip
        refine lv_iload_n hx hb d_Mo_toMark_39 rfl (lv_at hl 0 rfl) ?_
        exact j_iret F hr hlocks hK hS S1 ⟨⟨i_size, i_taken, i_vals, i_room, i_dicts, i_deep, i_open, i_cells, i_points, i_part, i_length, i_knows, i_page, i_text, i_pats, i_fuel, i_fr, i_ink⟩, kSA_S1, kSF_S1, (show rv2.toInt = 0 ∨ rv2.toInt = 7 ∨ rv2.toInt = 9 by omega)⟩ hP hD d_Mo_toMark_40
  · have fc6_1 : rv1.toInt < 0 := Int.not_le.mp (zt_nle tI_0 (show rv1.toInt = _ from rfl) c6_1)
    refine lv_bipush (v := 9) hx hb d_Mo_toMark_9 (by decide) ?_
    exact j_iret F hr hlocks hK hS S ⟨⟨i_size, i_taken, i_vals, i_room, i_dicts, i_deep, i_open, i_cells, i_points, i_part, i_length, i_knows, i_page, i_text, i_pats, i_fuel, i_fr, i_ink⟩, (kA_r S), (kF_r S), (show (9 : Int32).toInt = 0 ∨ (9 : Int32).toInt = 7 ∨ (9 : Int32).toInt = 9 by have := tI_9; omega)⟩ hP hD d_Mo_toMark_11
