theorem d_Mo_feed_0 : decode prog_15_method_77_code 0 = .ok (.aload_n 0, 1) := by decide +kernel
theorem d_Mo_feed_1 : decode prog_15_method_77_code 1 = .ok (.iconst 0, 1) := by decide +kernel
theorem d_Mo_feed_2 : decode prog_15_method_77_code 2 = .ok (.putfield 242, 3) := by decide +kernel
theorem d_Mo_feed_5 : decode prog_15_method_77_code 5 = .ok (.aload_n 0, 1) := by decide +kernel
theorem d_Mo_feed_6 : decode prog_15_method_77_code 6 = .ok (.getfield 247, 3) := by decide +kernel
theorem d_Mo_feed_9 : decode prog_15_method_77_code 9 = .ok (.bipush 40, 2) := by decide +kernel
theorem d_Mo_feed_11 : decode prog_15_method_77_code 11 = .ok (.if_icmp .eq 19, 3) := by decide +kernel
theorem d_Mo_feed_30 : decode prog_15_method_77_code 30 = .ok (.iconst 0, 1) := by decide +kernel
theorem d_Mo_feed_31 : decode prog_15_method_77_code 31 = .ok (.ireturn, 1) := by decide +kernel
theorem d_Mo_feed_14 : decode prog_15_method_77_code 14 = .ok (.dload_n 1, 1) := by decide +kernel
theorem d_Mo_feed_15 : decode prog_15_method_77_code 15 = .ok (.ldc2_w 260, 3) := by decide +kernel
theorem d_Mo_feed_18 : decode prog_15_method_77_code 18 = .ok (.dcmp .l, 1) := by decide +kernel
theorem d_Mo_feed_19 : decode prog_15_method_77_code 19 = .ok (.ifCond .lt 11, 3) := by decide +kernel
theorem d_Mo_feed_22 : decode prog_15_method_77_code 22 = .ok (.dload_n 1, 1) := by decide +kernel
theorem d_Mo_feed_23 : decode prog_15_method_77_code 23 = .ok (.ldc2_w 258, 3) := by decide +kernel
theorem d_Mo_feed_26 : decode prog_15_method_77_code 26 = .ok (.dcmp .g, 1) := by decide +kernel
theorem d_Mo_feed_27 : decode prog_15_method_77_code 27 = .ok (.ifCond .le 5, 3) := by decide +kernel
theorem d_Mo_feed_32 : decode prog_15_method_77_code 32 = .ok (.aload_n 0, 1) := by decide +kernel
theorem d_Mo_feed_33 : decode prog_15_method_77_code 33 = .ok (.aload_n 0, 1) := by decide +kernel
theorem d_Mo_feed_34 : decode prog_15_method_77_code 34 = .ok (.getfield 247, 3) := by decide +kernel
theorem d_Mo_feed_37 : decode prog_15_method_77_code 37 = .ok (.iconst 1, 1) := by decide +kernel
theorem d_Mo_feed_38 : decode prog_15_method_77_code 38 = .ok (.lconst 0, 1) := by decide +kernel
theorem d_Mo_feed_39 : decode prog_15_method_77_code 39 = .ok (.invokevirtual 250, 3) := by decide +kernel
theorem d_Mo_feed_42 : decode prog_15_method_77_code 42 = .ok (.aload_n 0, 1) := by decide +kernel
theorem d_Mo_feed_43 : decode prog_15_method_77_code 43 = .ok (.getfield 17, 3) := by decide +kernel
theorem d_Mo_feed_46 : decode prog_15_method_77_code 46 = .ok (.aload_n 0, 1) := by decide +kernel
theorem d_Mo_feed_47 : decode prog_15_method_77_code 47 = .ok (.getfield 247, 3) := by decide +kernel
theorem d_Mo_feed_50 : decode prog_15_method_77_code 50 = .ok (.dload_n 1, 1) := by decide +kernel
theorem d_Mo_feed_51 : decode prog_15_method_77_code 51 = .ok (.dastore, 1) := by decide +kernel
theorem d_Mo_feed_52 : decode prog_15_method_77_code 52 = .ok (.aload_n 0, 1) := by decide +kernel
theorem d_Mo_feed_53 : decode prog_15_method_77_code 53 = .ok (.dup, 1) := by decide +kernel
theorem d_Mo_feed_54 : decode prog_15_method_77_code 54 = .ok (.getfield 247, 3) := by decide +kernel
theorem d_Mo_feed_57 : decode prog_15_method_77_code 57 = .ok (.iconst 1, 1) := by decide +kernel
theorem d_Mo_feed_58 : decode prog_15_method_77_code 58 = .ok (.iadd, 1) := by decide +kernel
theorem d_Mo_feed_59 : decode prog_15_method_77_code 59 = .ok (.putfield 247, 3) := by decide +kernel
theorem d_Mo_feed_62 : decode prog_15_method_77_code 62 = .ok (.iconst 1, 1) := by decide +kernel
theorem d_Mo_feed_63 : decode prog_15_method_77_code 63 = .ok (.ireturn, 1) := by decide +kernel
set_option maxHeartbeats 4000000 in
set_option maxRecDepth 100000 in
theorem m_feed (l : Launch) (D : va_G) (T : Nat → ClassId) (h0 : Nat) (ar : Nat → Nat) (S : MS) (d0 : UInt64) (sz : Nat) (hI : MI S) (h1 : dN d0) : Met l ⟨"PageScribeModel", "feed", "(D)Z"⟩ (wy ⟨"PageScribeModel", "feed", "(D)Z"⟩ prog_15_method_77_code 3 (some .boolean)) ({ frames := 1, cells := 0, slots := 0, locals := 70 }) (va_Pc [.ref h0, .double d0] (Pw D T (mW T h0 ar S) sz E0)) (va_Qi (fun (r : Int32) (u : MS) => MI u ∧ kA S u ∧ kF S u) (fun u t => Bw D T (va_A (mW T h0 ar S) sz) (mW T h0 ar u) t) (va_A (mW T h0 ar S) sz)) 0 0 (va_A (mW T h0 ar S) sz) := by
  refine j_met (y := ⟨"PageScribeModel", "feed", "(D)Z"⟩) (b := prog_15_method_77_code) (n := 3) (ret := (some .boolean)) (av := [.ref h0, .double d0]) (Qc := fun A => va_Qi (fun (r : Int32) (u : MS) => MI u ∧ kA S u ∧ kF S u) (fun u t => Bw D T A (mW T h0 ar u) t) A) (by decide +kernel) (Nat.le_of_ble_eq_true rfl) (fun p e s m args below meth c A ls F hr hlocks hnm hK hP hD hS hA hN hE hl => ?_)
  obtain ⟨hx, hb, hml, hown, hts⟩ := id F
  have hl : lv_has ls 3 [(0, .ref h0), (1, .double d0)] := hl
  obtain ⟨i_size, i_taken, i_vals, i_room, i_dicts, i_deep, i_open, i_cells, i_points, i_part, i_length, i_knows, i_page, i_text, i_pats, i_fuel, i_fr, i_ink⟩ := id hI
  refine lv_aload_n hx hb d_Mo_feed_0 rfl (lv_at hl 0 rfl) ?_
  refine lv_iconst (v := 0) hx hb d_Mo_feed_1 (by decide) ?_
  refine va_put (D := D) (ci := 11) (v := .int 0) (ty := .int) (C := "PageScribeModel") (T := F_Mo) (N := 45) hx hb hts i_Mo t_Mo t_Mo_ok n_Mo hown hK hP hD hS 0 mW_0 cl_11 0 (by decide) (hts _ k_6_160) (fun _ h9 => h9) rfl (by decide +kernel) rfl rfl (Nat.le_of_ble_eq_true rfl) d_Mo_feed_2 (fun H locs hP hD hS => ?_)
  rw [mp_thrown] at hP hD
  have hP : va_P D classes (mW T h0 ar (((0, (a_kinds S), (a_codes S), (a_reals S), (f_size S), (f_taken S), (a_words S), (a_many S)), S.2.1, S.2.2.1, S.2.2.2.1, S.2.2.2.2.1, S.2.2.2.2.2) : MS)) H := hP
  have hD : va_D A (mW T h0 ar (((0, (a_kinds S), (a_codes S), (a_reals S), (f_size S), (f_taken S), (a_words S), (a_many S)), S.2.1, S.2.2.1, S.2.2.2.1, S.2.2.2.2.1, S.2.2.2.2.2) : MS)) := hD
  refine lv_aload_n hx hb d_Mo_feed_5 rfl (lv_at hl 0 rfl) ?_
  refine va_get (D := D) (ci := 11) (v := .int (f_size S)) (C := "PageScribeModel") (T := F_Mo) (N := 45) hx hb hts i_Mo hown hK hP 0 mW_0 cl_11 4 (by decide) (hts _ k_6_164) (fun _ h9 => h9) (mg_size _ _) d_Mo_feed_6 ?_
  refine lv_bipush (v := 40) hx hb d_Mo_feed_9 (by decide) ?_
  refine lv_icmp_eq (tgt := 30) hx hb d_Mo_feed_11 (by decide) (fun c11_1 => ?_) (fun c11_1 => ?_)
  · have fc11_1 : (f_size S).toInt = 40 := zt_eq (show (f_size S).toInt = _ from rfl) tI_40 c11_1
    refine lv_iconst (v := 0) hx hb d_Mo_feed_30 (by decide) ?_
    exact j_zret F hr (by decide +kernel) hlocks hK hS (((0, (a_kinds S), (a_codes S), (a_reals S), (f_size S), (f_taken S), (a_words S), (a_many S)), S.2.1, S.2.2.1, S.2.2.2.1, S.2.2.2.2.1, S.2.2.2.2.2) : MS) ⟨⟨i_size, i_taken, i_vals, i_room, i_dicts, i_deep, i_open, i_cells, i_points, i_part, i_length, i_knows, i_page, i_text, i_pats, i_fuel, i_fr, i_ink⟩, (kA_r S), (kF_r S)⟩ hP hD d_Mo_feed_31
  · first | have fc11_1 : (f_size S).toInt < 40 := (by have := zt_ne (show (f_size S).toInt = _ from rfl) tI_40 c11_1; omega) | have fc11_1 : 40 < (f_size S).toInt := (by have := zt_ne (show (f_size S).toInt = _ from rfl) tI_40 c11_1; omega) | skip
    refine lv_dload_n hx hb d_Mo_feed_14 rfl (lv_at hl 1 rfl) ?_
    refine lv_ldc2d (v := 14009883241494872064) hx hb hown (hts _ k_7_213) d_Mo_feed_15 ?_
    have := tD_14009883241494872064
    refine lv_dcmp hx hb d_Mo_feed_18 ?_
    refine lv_topi (fun x1 ex1 => ?_)
    refine lv_if_lt (tgt := 30) hx hb d_Mo_feed_19 (by decide) (fun c19_1 => ?_) (fun c19_1 => ?_)
    · have fc19_1 : x1.toInt < 0 := zt_lt (show x1.toInt = _ from rfl) tI_0 c19_1
      have vc19_1 : dk d0 < dk 14009883241494872064 := by have := zr_dcmp (a := d0) (b := 14009883241494872064) ex1 (show dN d0 by omega) (show dN 14009883241494872064 by omega); have := zt_lt (show x1.toInt = _ from rfl) tI_0 c19_1; omega
      refine lv_iconst (v := 0) hx hb d_Mo_feed_30 (by decide) ?_
      exact j_zret F hr (by decide +kernel) hlocks hK hS (((0, (a_kinds S), (a_codes S), (a_reals S), (f_size S), (f_taken S), (a_words S), (a_many S)), S.2.1, S.2.2.1, S.2.2.2.1, S.2.2.2.2.1, S.2.2.2.2.2) : MS) ⟨⟨i_size, i_taken, i_vals, i_room, i_dicts, i_deep, i_open, i_cells, i_points, i_part, i_length, i_knows, i_page, i_text, i_pats, i_fuel, i_fr, i_ink⟩, (kA_r S), (kF_r S)⟩ hP hD d_Mo_feed_31
    · have fc19_1 : 0 ≤ x1.toInt := Int.not_lt.mp (zt_nlt (show x1.toInt = _ from rfl) tI_0 c19_1)
      have vc19_1 : dk d0 ≥ dk 14009883241494872064 := by have := zr_dcmp (a := d0) (b := 14009883241494872064) ex1 (show dN d0 by omega) (show dN 14009883241494872064 by omega); have := Int.not_lt.mp (zt_nlt (show x1.toInt = _ from rfl) tI_0 c19_1); omega
      refine lv_dload_n hx hb d_Mo_feed_22 rfl (lv_at hl 1 rfl) ?_
      refine lv_ldc2d (v := 4786511204640096256) hx hb hown (hts _ k_7_212) d_Mo_feed_23 ?_
      have := tD_4786511204640096256
      refine lv_dcmp hx hb d_Mo_feed_26 ?_
      refine lv_topi (fun x2 ex2 => ?_)
      refine lv_if_le (tgt := 32) hx hb d_Mo_feed_27 (by decide) (fun c27_1 => ?_) (fun c27_1 => ?_)
      · have fc27_1 : x2.toInt ≤ 0 := zt_le (show x2.toInt = _ from rfl) tI_0 c27_1
        have vc27_1 : dk d0 ≤ dk 4786511204640096256 := by have := zr_dcmp (a := d0) (b := 4786511204640096256) ex2 (show dN d0 by omega) (show dN 4786511204640096256 by omega); have := zt_le (show x2.toInt = _ from rfl) tI_0 c27_1; omega
        refine lv_aload_n hx hb d_Mo_feed_32 rfl (lv_at hl 0 rfl) ?_
        refine lv_aload_n hx hb d_Mo_feed_33 rfl (lv_at hl 0 rfl) ?_
        refine va_get (D := D) (ci := 11) (v := .int (f_size S)) (C := "PageScribeModel") (T := F_Mo) (N := 45) hx hb hts i_Mo hown hK hP 0 mW_0 cl_11 4 (by decide) (hts _ k_6_164) (fun _ h9 => h9) (mg_size _ _) d_Mo_feed_34 ?_
        refine lv_iconst (v := 1) hx hb d_Mo_feed_37 (by decide) ?_
        refine lv_lconst (v := 0) hx hb d_Mo_feed_38 (by decide) ?_
        refine jm_cv (w := (fun u => u)) hK hP hD hS hA (va_runV (As := [.int (f_size S), .int 1, .long 0]) (rest := []) F (m_set l D T h0 ar (((0, (a_kinds S), (a_codes S), (a_reals S), (f_size S), (f_taken S), (a_words S), (a_many S)), S.2.1, S.2.2.1, S.2.2.2.1, S.2.2.2.2.1, S.2.2.2.2.2) : MS) (f_size S) (1 : Int32) (0 : Int64) H.size (show 0 ≤ (f_size S).toInt ∧ (f_size S).toInt < 1300 by have := tI_1; have := tJ_0; have := tI_0; omega)) (j_cV (k := 3) (C := "PageScribeModel") hts k_7_81 k_1_12 k_7_78 k_7_80 k_0_83 (by decide +kernel) ⟨Nat.le_of_ble_eq_true rfl, Nat.le_of_ble_eq_true rfl⟩) (jm_pre hK hP hD) rfl rfl hl.1 rfl (lv_room (Nat.le_of_ble_eq_true rfl)) d_Mo_feed_39 ⟨Nat.le_of_ble_eq_true rfl, Nat.le_of_ble_eq_true rfl⟩) (fun S1 H locs hw1 hP hD hS => ?_)
        try simp only [tI_1, tJ_0] at hw1
        obtain rfl := hw1
        have hP : va_P D classes (mW T h0 ar (((0, (upd (a_kinds S) ((f_size S).toInt.toNat) (1 : Int32)), (vp_updL (a_codes S) ((f_size S).toInt.toNat) (0 : Int64)), (vf_upd (a_reals S) ((f_size S).toInt.toNat) 0), (f_size S), (f_taken S), (a_words S), (a_many S)), S.2.1, S.2.2.1, S.2.2.2.1, S.2.2.2.2.1, S.2.2.2.2.2) : MS)) H := hP
        have hD : va_D A (mW T h0 ar (((0, (upd (a_kinds S) ((f_size S).toInt.toNat) (1 : Int32)), (vp_updL (a_codes S) ((f_size S).toInt.toNat) (0 : Int64)), (vf_upd (a_reals S) ((f_size S).toInt.toNat) 0), (f_size S), (f_taken S), (a_words S), (a_many S)), S.2.1, S.2.2.1, S.2.2.2.1, S.2.2.2.2.1, S.2.2.2.2.2) : MS)) := hD
        have i_vals : ∀ k, k < 1300 → vOk ((upd (a_kinds S) ((f_size S).toInt.toNat) (1 : Int32)) k) ((vp_updL (a_codes S) ((f_size S).toInt.toNat) (0 : Int64)) k) ((vf_upd (a_reals S) ((f_size S).toInt.toNat) 0) k) := vOk_upd i_vals (vO_of 1 tI_1 (by decide))
        have fa1 : ((upd (a_kinds S) ((f_size S).toInt.toNat) (1 : Int32)) ((f_size S).toInt.toNat)).toInt = (1 : Int32).toInt := congrArg Int32.toInt upd_s
        have := tI_1
        refine lv_aload_n hx hb d_Mo_feed_42 rfl (lv_at hl 0 rfl) ?_
        refine va_get (D := D) (ci := 11) (v := .ref (ar 2)) (C := "PageScribeModel") (T := F_Mo) (N := 45) hx hb hts i_Mo hown hK hP 0 mW_0 cl_11 3 (by decide) (hts _ k_6_163) (fun _ h9 => h9) (mg_reals _ _) d_Mo_feed_43 ?_
        refine lv_aload_n hx hb d_Mo_feed_46 rfl (lv_at hl 0 rfl) ?_
        refine va_get (D := D) (ci := 11) (v := .int (f_size S)) (C := "PageScribeModel") (T := F_Mo) (N := 45) hx hb hts i_Mo hown hK hP 0 mW_0 cl_11 4 (by decide) (hts _ k_6_164) (fun _ h9 => h9) (mg_size _ _) d_Mo_feed_47 ?_
        refine lv_dload_n hx hb d_Mo_feed_50 rfl (lv_at hl 1 rfl) ?_
        refine va_dast hx hb hK hP hD hS 3 3 (ma_reals _ _ _ _) rfl (zt_in (show (f_size S).toInt = _ from rfl) (by omega) (by omega)) d_Mo_feed_51 (fun H locs hP hD hS => ?_)
        rw [ms_reals] at hP hD
        rw [zt_ix (show (f_size S).toInt = _ from rfl)] at hP hD
        have hP : va_P D classes (mW T h0 ar (((0, (upd (a_kinds S) ((f_size S).toInt.toNat) (1 : Int32)), (vp_updL (a_codes S) ((f_size S).toInt.toNat) (0 : Int64)), (vf_upd (vf_upd (a_reals S) ((f_size S).toInt.toNat) 0) ((f_size S).toInt.toNat) d0), (f_size S), (f_taken S), (a_words S), (a_many S)), S.2.1, S.2.2.1, S.2.2.2.1, S.2.2.2.2.1, S.2.2.2.2.2) : MS)) H := hP
        have hD : va_D A (mW T h0 ar (((0, (upd (a_kinds S) ((f_size S).toInt.toNat) (1 : Int32)), (vp_updL (a_codes S) ((f_size S).toInt.toNat) (0 : Int64)), (vf_upd (vf_upd (a_reals S) ((f_size S).toInt.toNat) 0) ((f_size S).toInt.toNat) d0), (f_size S), (f_taken S), (a_words S), (a_many S)), S.2.1, S.2.2.1, S.2.2.2.1, S.2.2.2.2.1, S.2.2.2.2.2) : MS)) := hD
        refine lv_aload_n hx hb d_Mo_feed_52 rfl (lv_at hl 0 rfl) ?_
        refine lv_dup hx hb d_Mo_feed_53 rfl ?_
        refine va_get (D := D) (ci := 11) (v := .int (f_size S)) (C := "PageScribeModel") (T := F_Mo) (N := 45) hx hb hts i_Mo hown hK hP 0 mW_0 cl_11 4 (by decide) (hts _ k_6_164) (fun _ h9 => h9) (mg_size _ _) d_Mo_feed_54 ?_
        refine lv_iconst (v := 1) hx hb d_Mo_feed_57 (by decide) ?_
        refine lv_iadd hx hb d_Mo_feed_58 ?_
        refine lv_topi (fun x3 ex3 => ?_)
        have fx3 : x3.toInt = ((f_size S).toInt + 1) := by rw [ex3]; exact (zt_add (show (f_size S).toInt = _ from rfl) tI_1 (by omega) (by omega)).trans (by omega)
        refine va_put (D := D) (ci := 11) (v := .int x3) (ty := .int) (C := "PageScribeModel") (T := F_Mo) (N := 45) hx hb hts i_Mo t_Mo t_Mo_ok n_Mo hown hK hP hD hS 0 mW_0 cl_11 4 (by decide) (hts _ k_6_164) (fun _ h9 => h9) rfl (by decide +kernel) rfl rfl (Nat.le_of_ble_eq_true rfl) d_Mo_feed_59 (fun H locs hP hD hS => ?_)
        rw [mp_size] at hP hD
        have hP : va_P D classes (mW T h0 ar (((0, (upd (a_kinds S) ((f_size S).toInt.toNat) (1 : Int32)), (vp_updL (a_codes S) ((f_size S).toInt.toNat) (0 : Int64)), (vf_upd (vf_upd (a_reals S) ((f_size S).toInt.toNat) 0) ((f_size S).toInt.toNat) d0), x3, (f_taken S), (a_words S), (a_many S)), S.2.1, S.2.2.1, S.2.2.2.1, S.2.2.2.2.1, S.2.2.2.2.2) : MS)) H := hP
        have hD : va_D A (mW T h0 ar (((0, (upd (a_kinds S) ((f_size S).toInt.toNat) (1 : Int32)), (vp_updL (a_codes S) ((f_size S).toInt.toNat) (0 : Int64)), (vf_upd (vf_upd (a_reals S) ((f_size S).toInt.toNat) 0) ((f_size S).toInt.toNat) d0), x3, (f_taken S), (a_words S), (a_many S)), S.2.1, S.2.2.1, S.2.2.2.1, S.2.2.2.2.1, S.2.2.2.2.2) : MS)) := hD
        refine lv_iconst (v := 1) hx hb d_Mo_feed_62 (by decide) ?_
        exact j_zret F hr (by decide +kernel) hlocks hK hS (((0, (upd (a_kinds S) ((f_size S).toInt.toNat) (1 : Int32)), (vp_updL (a_codes S) ((f_size S).toInt.toNat) (0 : Int64)), (vf_upd (vf_upd (a_reals S) ((f_size S).toInt.toNat) 0) ((f_size S).toInt.toNat) d0), x3, (f_taken S), (a_words S), (a_many S)), S.2.1, S.2.2.1, S.2.2.2.1, S.2.2.2.2.1, S.2.2.2.2.2) : MS) ⟨⟨(show 0 ≤ x3.toInt ∧ x3.toInt ≤ 40 by have := tI_0; omega), i_taken, (vOk_updR i_vals (by omega)), i_room, i_dicts, i_deep, i_open, i_cells, i_points, i_part, i_length, i_knows, i_page, i_text, i_pats, i_fuel, i_fr, i_ink⟩, (kA_r S), (kF_r S)⟩ hP hD d_Mo_feed_63
      · have fc27_1 : 0 < x2.toInt := Int.not_le.mp (zt_nle (show x2.toInt = _ from rfl) tI_0 c27_1)
        have vc27_1 : dk d0 > dk 4786511204640096256 := by have := zr_dcmp (a := d0) (b := 4786511204640096256) ex2 (show dN d0 by omega) (show dN 4786511204640096256 by omega); have := Int.not_le.mp (zt_nle (show x2.toInt = _ from rfl) tI_0 c27_1); omega
        refine lv_iconst (v := 0) hx hb d_Mo_feed_30 (by decide) ?_
        exact j_zret F hr (by decide +kernel) hlocks hK hS (((0, (a_kinds S), (a_codes S), (a_reals S), (f_size S), (f_taken S), (a_words S), (a_many S)), S.2.1, S.2.2.1, S.2.2.2.1, S.2.2.2.2.1, S.2.2.2.2.2) : MS) ⟨⟨i_size, i_taken, i_vals, i_room, i_dicts, i_deep, i_open, i_cells, i_points, i_part, i_length, i_knows, i_page, i_text, i_pats, i_fuel, i_fr, i_ink⟩, (kA_r S), (kF_r S)⟩ hP hD d_Mo_feed_31
theorem d_Mo_steps_0 : decode prog_15_method_75_code 0 = .ok (.aload_n 0, 1) := by decide +kernel
theorem d_Mo_steps_1 : decode prog_15_method_75_code 1 = .ok (.iconst 0, 1) := by decide +kernel
theorem d_Mo_steps_2 : decode prog_15_method_75_code 2 = .ok (.putfield 242, 3) := by decide +kernel
theorem d_Mo_steps_5 : decode prog_15_method_75_code 5 = .ok (.aload_n 0, 1) := by decide +kernel
theorem d_Mo_steps_6 : decode prog_15_method_75_code 6 = .ok (.getfield 356, 3) := by decide +kernel
theorem d_Mo_steps_9 : decode prog_15_method_75_code 9 = .ok (.ireturn, 1) := by decide +kernel
set_option maxHeartbeats 4000000 in
set_option maxRecDepth 100000 in
theorem m_steps (l : Launch) (D : va_G) (T : Nat → ClassId) (h0 : Nat) (ar : Nat → Nat) (S : MS)  (sz : Nat) (hI : MI S) : Met l ⟨"PageScribeModel", "steps", "()I"⟩ (wy ⟨"PageScribeModel", "steps", "()I"⟩ prog_15_method_75_code 1 (some .int)) ({ frames := 0, cells := 0, slots := 0, locals := 0 }) (va_Pc [.ref h0] (Pw D T (mW T h0 ar S) sz E0)) (va_Qi (fun (r : Int32) (u : MS) => MI u ∧ kA S u ∧ kF S u) (fun u t => Bw D T (va_A (mW T h0 ar S) sz) (mW T h0 ar u) t) (va_A (mW T h0 ar S) sz)) 0 0 (va_A (mW T h0 ar S) sz) := by
  refine j_met (y := ⟨"PageScribeModel", "steps", "()I"⟩) (b := prog_15_method_75_code) (n := 1) (ret := (some .int)) (av := [.ref h0]) (Qc := fun A => va_Qi (fun (r : Int32) (u : MS) => MI u ∧ kA S u ∧ kF S u) (fun u t => Bw D T A (mW T h0 ar u) t) A) (by decide +kernel) (Nat.le_of_ble_eq_true rfl) (fun p e s m args below meth c A ls F hr hlocks hnm hK hP hD hS hA hN hE hl => ?_)
  obtain ⟨hx, hb, hml, hown, hts⟩ := id F
  have hl : lv_has ls 1 [(0, .ref h0)] := hl
  obtain ⟨i_size, i_taken, i_vals, i_room, i_dicts, i_deep, i_open, i_cells, i_points, i_part, i_length, i_knows, i_page, i_text, i_pats, i_fuel, i_fr, i_ink⟩ := id hI
  refine lv_aload_n hx hb d_Mo_steps_0 rfl (lv_at hl 0 rfl) ?_
  refine lv_iconst (v := 0) hx hb d_Mo_steps_1 (by decide) ?_
  refine va_put (D := D) (ci := 11) (v := .int 0) (ty := .int) (C := "PageScribeModel") (T := F_Mo) (N := 45) hx hb hts i_Mo t_Mo t_Mo_ok n_Mo hown hK hP hD hS 0 mW_0 cl_11 0 (by decide) (hts _ k_6_160) (fun _ h9 => h9) rfl (by decide +kernel) rfl rfl (Nat.le_of_ble_eq_true rfl) d_Mo_steps_2 (fun H locs hP hD hS => ?_)
  rw [mp_thrown] at hP hD
  have hP : va_P D classes (mW T h0 ar (((0, (a_kinds S), (a_codes S), (a_reals S), (f_size S), (f_taken S), (a_words S), (a_many S)), S.2.1, S.2.2.1, S.2.2.2.1, S.2.2.2.2.1, S.2.2.2.2.2) : MS)) H := hP
  have hD : va_D A (mW T h0 ar (((0, (a_kinds S), (a_codes S), (a_reals S), (f_size S), (f_taken S), (a_words S), (a_many S)), S.2.1, S.2.2.1, S.2.2.2.1, S.2.2.2.2.1, S.2.2.2.2.2) : MS)) := hD
  refine lv_aload_n hx hb d_Mo_steps_5 rfl (lv_at hl 0 rfl) ?_
  refine va_get (D := D) (ci := 11) (v := .int (f_steps S)) (C := "PageScribeModel") (T := F_Mo) (N := 45) hx hb hts i_Mo hown hK hP 0 mW_0 cl_11 32 (by decide) (hts _ k_6_192) (fun _ h9 => h9) (mg_steps _ _) d_Mo_steps_6 ?_
  exact j_iret F hr hlocks hK hS (((0, (a_kinds S), (a_codes S), (a_reals S), (f_size S), (f_taken S), (a_words S), (a_many S)), S.2.1, S.2.2.1, S.2.2.2.1, S.2.2.2.2.1, S.2.2.2.2.2) : MS) ⟨⟨i_size, i_taken, i_vals, i_room, i_dicts, i_deep, i_open, i_cells, i_points, i_part, i_length, i_knows, i_page, i_text, i_pats, i_fuel, i_fr, i_ink⟩, (kA_r S), (kF_r S)⟩ hP hD d_Mo_steps_9
theorem d_Mo_fault_0 : decode prog_15_method_76_code 0 = .ok (.aload_n 0, 1) := by decide +kernel
theorem d_Mo_fault_1 : decode prog_15_method_76_code 1 = .ok (.iconst 0, 1) := by decide +kernel
theorem d_Mo_fault_2 : decode prog_15_method_76_code 2 = .ok (.putfield 242, 3) := by decide +kernel
theorem d_Mo_fault_5 : decode prog_15_method_76_code 5 = .ok (.aload_n 0, 1) := by decide +kernel
theorem d_Mo_fault_6 : decode prog_15_method_76_code 6 = .ok (.getfield 402, 3) := by decide +kernel
theorem d_Mo_fault_9 : decode prog_15_method_76_code 9 = .ok (.ireturn, 1) := by decide +kernel
set_option maxHeartbeats 4000000 in
set_option maxRecDepth 100000 in
theorem m_fault (l : Launch) (D : va_G) (T : Nat → ClassId) (h0 : Nat) (ar : Nat → Nat) (S : MS)  (sz : Nat) (hI : MI S) : Met l ⟨"PageScribeModel", "fault", "()I"⟩ (wy ⟨"PageScribeModel", "fault", "()I"⟩ prog_15_method_76_code 1 (some .int)) ({ frames := 0, cells := 0, slots := 0, locals := 0 }) (va_Pc [.ref h0] (Pw D T (mW T h0 ar S) sz E0)) (va_Qi (fun (r : Int32) (u : MS) => MI u ∧ kA S u ∧ kF S u) (fun u t => Bw D T (va_A (mW T h0 ar S) sz) (mW T h0 ar u) t) (va_A (mW T h0 ar S) sz)) 0 0 (va_A (mW T h0 ar S) sz) := by
  refine j_met (y := ⟨"PageScribeModel", "fault", "()I"⟩) (b := prog_15_method_76_code) (n := 1) (ret := (some .int)) (av := [.ref h0]) (Qc := fun A => va_Qi (fun (r : Int32) (u : MS) => MI u ∧ kA S u ∧ kF S u) (fun u t => Bw D T A (mW T h0 ar u) t) A) (by decide +kernel) (Nat.le_of_ble_eq_true rfl) (fun p e s m args below meth c A ls F hr hlocks hnm hK hP hD hS hA hN hE hl => ?_)
  obtain ⟨hx, hb, hml, hown, hts⟩ := id F
  have hl : lv_has ls 1 [(0, .ref h0)] := hl
  obtain ⟨i_size, i_taken, i_vals, i_room, i_dicts, i_deep, i_open, i_cells, i_points, i_part, i_length, i_knows, i_page, i_text, i_pats, i_fuel, i_fr, i_ink⟩ := id hI
  refine lv_aload_n hx hb d_Mo_fault_0 rfl (lv_at hl 0 rfl) ?_
  refine lv_iconst (v := 0) hx hb d_Mo_fault_1 (by decide) ?_
  refine va_put (D := D) (ci := 11) (v := .int 0) (ty := .int) (C := "PageScribeModel") (T := F_Mo) (N := 45) hx hb hts i_Mo t_Mo t_Mo_ok n_Mo hown hK hP hD hS 0 mW_0 cl_11 0 (by decide) (hts _ k_6_160) (fun _ h9 => h9) rfl (by decide +kernel) rfl rfl (Nat.le_of_ble_eq_true rfl) d_Mo_fault_2 (fun H locs hP hD hS => ?_)
  rw [mp_thrown] at hP hD
  have hP : va_P D classes (mW T h0 ar (((0, (a_kinds S), (a_codes S), (a_reals S), (f_size S), (f_taken S), (a_words S), (a_many S)), S.2.1, S.2.2.1, S.2.2.2.1, S.2.2.2.2.1, S.2.2.2.2.2) : MS)) H := hP
  have hD : va_D A (mW T h0 ar (((0, (a_kinds S), (a_codes S), (a_reals S), (f_size S), (f_taken S), (a_words S), (a_many S)), S.2.1, S.2.2.1, S.2.2.2.1, S.2.2.2.2.1, S.2.2.2.2.2) : MS)) := hD
  refine lv_aload_n hx hb d_Mo_fault_5 rfl (lv_at hl 0 rfl) ?_
  refine va_get (D := D) (ci := 11) (v := .int (f_failure S)) (C := "PageScribeModel") (T := F_Mo) (N := 45) hx hb hts i_Mo hown hK hP 0 mW_0 cl_11 33 (by decide) (hts _ k_6_193) (fun _ h9 => h9) (mg_failure _ _) d_Mo_fault_6 ?_
  exact j_iret F hr hlocks hK hS (((0, (a_kinds S), (a_codes S), (a_reals S), (f_size S), (f_taken S), (a_words S), (a_many S)), S.2.1, S.2.2.1, S.2.2.2.1, S.2.2.2.2.1, S.2.2.2.2.2) : MS) ⟨⟨i_size, i_taken, i_vals, i_room, i_dicts, i_deep, i_open, i_cells, i_points, i_part, i_length, i_knows, i_page, i_text, i_pats, i_fuel, i_fr, i_ink⟩, (kA_r S), (kF_r S)⟩ hP hD d_Mo_fault_9
theorem d_Mo_depth_0 : decode prog_15_method_78_code 0 = .ok (.aload_n 0, 1) := by decide +kernel
theorem d_Mo_depth_1 : decode prog_15_method_78_code 1 = .ok (.iconst 0, 1) := by decide +kernel
theorem d_Mo_depth_2 : decode prog_15_method_78_code 2 = .ok (.putfield 242, 3) := by decide +kernel
theorem d_Mo_depth_5 : decode prog_15_method_78_code 5 = .ok (.aload_n 0, 1) := by decide +kernel
theorem d_Mo_depth_6 : decode prog_15_method_78_code 6 = .ok (.getfield 247, 3) := by decide +kernel
theorem d_Mo_depth_9 : decode prog_15_method_78_code 9 = .ok (.ireturn, 1) := by decide +kernel
set_option maxHeartbeats 4000000 in
set_option maxRecDepth 100000 in
theorem m_depth (l : Launch) (D : va_G) (T : Nat → ClassId) (h0 : Nat) (ar : Nat → Nat) (S : MS)  (sz : Nat) (hI : MI S) : Met l ⟨"PageScribeModel", "depth", "()I"⟩ (wy ⟨"PageScribeModel", "depth", "()I"⟩ prog_15_method_78_code 1 (some .int)) ({ frames := 0, cells := 0, slots := 0, locals := 0 }) (va_Pc [.ref h0] (Pw D T (mW T h0 ar S) sz E0)) (va_Qi (fun (r : Int32) (u : MS) => MI u ∧ kA S u ∧ kF S u) (fun u t => Bw D T (va_A (mW T h0 ar S) sz) (mW T h0 ar u) t) (va_A (mW T h0 ar S) sz)) 0 0 (va_A (mW T h0 ar S) sz) := by
  refine j_met (y := ⟨"PageScribeModel", "depth", "()I"⟩) (b := prog_15_method_78_code) (n := 1) (ret := (some .int)) (av := [.ref h0]) (Qc := fun A => va_Qi (fun (r : Int32) (u : MS) => MI u ∧ kA S u ∧ kF S u) (fun u t => Bw D T A (mW T h0 ar u) t) A) (by decide +kernel) (Nat.le_of_ble_eq_true rfl) (fun p e s m args below meth c A ls F hr hlocks hnm hK hP hD hS hA hN hE hl => ?_)
  obtain ⟨hx, hb, hml, hown, hts⟩ := id F
  have hl : lv_has ls 1 [(0, .ref h0)] := hl
  obtain ⟨i_size, i_taken, i_vals, i_room, i_dicts, i_deep, i_open, i_cells, i_points, i_part, i_length, i_knows, i_page, i_text, i_pats, i_fuel, i_fr, i_ink⟩ := id hI
  refine lv_aload_n hx hb d_Mo_depth_0 rfl (lv_at hl 0 rfl) ?_
  refine lv_iconst (v := 0) hx hb d_Mo_depth_1 (by decide) ?_
  refine va_put (D := D) (ci := 11) (v := .int 0) (ty := .int) (C := "PageScribeModel") (T := F_Mo) (N := 45) hx hb hts i_Mo t_Mo t_Mo_ok n_Mo hown hK hP hD hS 0 mW_0 cl_11 0 (by decide) (hts _ k_6_160) (fun _ h9 => h9) rfl (by decide +kernel) rfl rfl (Nat.le_of_ble_eq_true rfl) d_Mo_depth_2 (fun H locs hP hD hS => ?_)
  rw [mp_thrown] at hP hD
  have hP : va_P D classes (mW T h0 ar (((0, (a_kinds S), (a_codes S), (a_reals S), (f_size S), (f_taken S), (a_words S), (a_many S)), S.2.1, S.2.2.1, S.2.2.2.1, S.2.2.2.2.1, S.2.2.2.2.2) : MS)) H := hP
  have hD : va_D A (mW T h0 ar (((0, (a_kinds S), (a_codes S), (a_reals S), (f_size S), (f_taken S), (a_words S), (a_many S)), S.2.1, S.2.2.1, S.2.2.2.1, S.2.2.2.2.1, S.2.2.2.2.2) : MS)) := hD
  refine lv_aload_n hx hb d_Mo_depth_5 rfl (lv_at hl 0 rfl) ?_
  refine va_get (D := D) (ci := 11) (v := .int (f_size S)) (C := "PageScribeModel") (T := F_Mo) (N := 45) hx hb hts i_Mo hown hK hP 0 mW_0 cl_11 4 (by decide) (hts _ k_6_164) (fun _ h9 => h9) (mg_size _ _) d_Mo_depth_6 ?_
  exact j_iret F hr hlocks hK hS (((0, (a_kinds S), (a_codes S), (a_reals S), (f_size S), (f_taken S), (a_words S), (a_many S)), S.2.1, S.2.2.1, S.2.2.2.1, S.2.2.2.2.1, S.2.2.2.2.2) : MS) ⟨⟨i_size, i_taken, i_vals, i_room, i_dicts, i_deep, i_open, i_cells, i_points, i_part, i_length, i_knows, i_page, i_text, i_pats, i_fuel, i_fr, i_ink⟩, (kA_r S), (kF_r S)⟩ hP hD d_Mo_depth_9
theorem d_Mo_kind_0 : decode prog_15_method_79_code 0 = .ok (.aload_n 0, 1) := by decide +kernel
theorem d_Mo_kind_18 : decode prog_15_method_79_code 18 = .ok (.putfield 242, 3) := by decide +kernel
theorem d_Mo_kind_21 : decode prog_15_method_79_code 21 = .ok (.aload_n 0, 1) := by decide +kernel
theorem d_Mo_kind_22 : decode prog_15_method_79_code 22 = .ok (.getfield 242, 3) := by decide +kernel
theorem d_Mo_kind_25 : decode prog_15_method_79_code 25 = .ok (.ifCond .le 7, 3) := by decide +kernel
theorem d_Mo_kind_32 : decode prog_15_method_79_code 32 = .ok (.aload_n 0, 1) := by decide +kernel
theorem d_Mo_kind_33 : decode prog_15_method_79_code 33 = .ok (.getfield 7, 3) := by decide +kernel
theorem d_Mo_kind_36 : decode prog_15_method_79_code 36 = .ok (.aload_n 0, 1) := by decide +kernel
theorem d_Mo_kind_37 : decode prog_15_method_79_code 37 = .ok (.getfield 247, 3) := by decide +kernel
theorem d_Mo_kind_40 : decode prog_15_method_79_code 40 = .ok (.iconst 1, 1) := by decide +kernel
theorem d_Mo_kind_41 : decode prog_15_method_79_code 41 = .ok (.isub, 1) := by decide +kernel
theorem d_Mo_kind_42 : decode prog_15_method_79_code 42 = .ok (.iload_n 1, 1) := by decide +kernel
theorem d_Mo_kind_43 : decode prog_15_method_79_code 43 = .ok (.isub, 1) := by decide +kernel
theorem d_Mo_kind_44 : decode prog_15_method_79_code 44 = .ok (.iaload, 1) := by decide +kernel
theorem d_Mo_kind_45 : decode prog_15_method_79_code 45 = .ok (.ireturn, 1) := by decide +kernel
theorem d_Mo_kind_28 : decode prog_15_method_79_code 28 = .ok (.iconst 0, 1) := by decide +kernel
theorem d_Mo_kind_29 : decode prog_15_method_79_code 29 = .ok (.goto 16, 3) := by decide +kernel
theorem d_Mo_kind_1 : decode prog_15_method_79_code 1 = .ok (.iload_n 1, 1) := by decide +kernel
theorem d_Mo_kind_2 : decode prog_15_method_79_code 2 = .ok (.ifCond .lt 11, 3) := by decide +kernel
theorem d_Mo_kind_13 : decode prog_15_method_79_code 13 = .ok (.iconst 1, 1) := by decide +kernel
theorem d_Mo_kind_14 : decode prog_15_method_79_code 14 = .ok (.goto 4, 3) := by decide +kernel
theorem d_Mo_kind_5 : decode prog_15_method_79_code 5 = .ok (.iload_n 1, 1) := by decide +kernel
theorem d_Mo_kind_6 : decode prog_15_method_79_code 6 = .ok (.aload_n 0, 1) := by decide +kernel
theorem d_Mo_kind_7 : decode prog_15_method_79_code 7 = .ok (.getfield 247, 3) := by decide +kernel
theorem d_Mo_kind_10 : decode prog_15_method_79_code 10 = .ok (.if_icmp .lt 7, 3) := by decide +kernel
theorem d_Mo_kind_17 : decode prog_15_method_79_code 17 = .ok (.iconst 0, 1) := by decide +kernel
set_option maxHeartbeats 4000000 in
set_option maxRecDepth 100000 in
theorem m_kind (l : Launch) (D : va_G) (T : Nat → ClassId) (h0 : Nat) (ar : Nat → Nat) (S : MS) (p0 : Int32) (sz : Nat) (hI : MI S) : Met l ⟨"PageScribeModel", "kind", "(I)I"⟩ (wy ⟨"PageScribeModel", "kind", "(I)I"⟩ prog_15_method_79_code 2 (some .int)) ({ frames := 0, cells := 0, slots := 0, locals := 0 }) (va_Pc [.ref h0, .int p0] (Pw D T (mW T h0 ar S) sz E0)) (va_Qi (fun (r : Int32) (u : MS) => MI u ∧ kA S u ∧ kF S u) (fun u t => Bw D T (va_A (mW T h0 ar S) sz) (mW T h0 ar u) t) (va_A (mW T h0 ar S) sz)) 0 0 (va_A (mW T h0 ar S) sz) := by
  refine j_met (y := ⟨"PageScribeModel", "kind", "(I)I"⟩) (b := prog_15_method_79_code) (n := 2) (ret := (some .int)) (av := [.ref h0, .int p0]) (Qc := fun A => va_Qi (fun (r : Int32) (u : MS) => MI u ∧ kA S u ∧ kF S u) (fun u t => Bw D T A (mW T h0 ar u) t) A) (by decide +kernel) (Nat.le_of_ble_eq_true rfl) (fun p e s m args below meth c A ls F hr hlocks hnm hK hP hD hS hA hN hE hl => ?_)
  obtain ⟨hx, hb, hml, hown, hts⟩ := id F
  have hl : lv_has ls 2 [(0, .ref h0), (1, .int p0)] := hl
  obtain ⟨i_size, i_taken, i_vals, i_room, i_dicts, i_deep, i_open, i_cells, i_points, i_part, i_length, i_knows, i_page, i_text, i_pats, i_fuel, i_fr, i_ink⟩ := id hI
  refine lv_aload_n hx hb d_Mo_kind_0 rfl (lv_at hl 0 rfl) ?_
  refine j_joinH (α := Int32) (fun x H locs ls => ((x.toInt = 1 ∧ (p0.toInt < 0 ∨ (f_size S).toInt ≤ p0.toInt)) ∨ (x.toInt = 0 ∧ 0 ≤ p0.toInt ∧ p0.toInt < (f_size S).toInt)) ∧ va_P D classes (mW T h0 ar S) H ∧ va_D A (mW T h0 ar S) ∧ va_S A s.heap H locs ∧ lv_has ls 2 [(0, .ref h0), (1, .int p0)]) (fun x ls => F0 m 18 ls (.int x :: [.ref h0])) (fun x H locs ls hI9 => ?_) (fun key1 => ?_)
  · obtain ⟨j1, rfl⟩ : ∃ z, z = x := ⟨_, rfl⟩
    obtain ⟨hj1, hP, hD, hS, hl⟩ := hI9
    have hj1 : (j1.toInt = 1 ∧ (p0.toInt < 0 ∨ (f_size S).toInt ≤ p0.toInt)) ∨ (j1.toInt = 0 ∧ 0 ≤ p0.toInt ∧ p0.toInt < (f_size S).toInt) := hj1
    have hP : va_P D classes (mW T h0 ar S) H := hP
    have hD : va_D A (mW T h0 ar S) := hD
    have hl : lv_has ls 2 [(0, .ref h0), (1, .int p0)] := hl
    refine va_put (D := D) (ci := 11) (v := .int j1) (ty := .int) (C := "PageScribeModel") (T := F_Mo) (N := 45) hx hb hts i_Mo t_Mo t_Mo_ok n_Mo hown hK hP hD hS 0 mW_0 cl_11 0 (by decide) (hts _ k_6_160) (fun _ h9 => h9) rfl (by decide +kernel) rfl rfl (Nat.le_of_ble_eq_true rfl) d_Mo_kind_18 (fun H locs hP hD hS => ?_)
    rw [mp_thrown] at hP hD
    have hP : va_P D classes (mW T h0 ar (((j1, (a_kinds S), (a_codes S), (a_reals S), (f_size S), (f_taken S), (a_words S), (a_many S)), S.2.1, S.2.2.1, S.2.2.2.1, S.2.2.2.2.1, S.2.2.2.2.2) : MS)) H := hP
    have hD : va_D A (mW T h0 ar (((j1, (a_kinds S), (a_codes S), (a_reals S), (f_size S), (f_taken S), (a_words S), (a_many S)), S.2.1, S.2.2.1, S.2.2.2.1, S.2.2.2.2.1, S.2.2.2.2.2) : MS)) := hD
    refine lv_aload_n hx hb d_Mo_kind_21 rfl (lv_at hl 0 rfl) ?_
    refine va_get (D := D) (ci := 11) (v := .int j1) (C := "PageScribeModel") (T := F_Mo) (N := 45) hx hb hts i_Mo hown hK hP 0 mW_0 cl_11 0 (by decide) (hts _ k_6_160) (fun _ h9 => h9) (mg_thrown _ _) d_Mo_kind_22 ?_
    refine lv_if_le (tgt := 32) hx hb d_Mo_kind_25 (by decide) (fun c25_1 => ?_) (fun c25_1 => ?_)
    · have fc25_1 : j1.toInt ≤ 0 := zt_le (show j1.toInt = _ from rfl) tI_0 c25_1
      refine lv_aload_n hx hb d_Mo_kind_32 rfl (lv_at hl 0 rfl) ?_
      refine va_get (D := D) (ci := 11) (v := .ref (ar 0)) (C := "PageScribeModel") (T := F_Mo) (N := 45) hx hb hts i_Mo hown hK hP 0 mW_0 cl_11 1 (by decide) (hts _ k_6_161) (fun _ h9 => h9) (mg_kinds _ _) d_Mo_kind_33 ?_
      refine lv_aload_n hx hb d_Mo_kind_36 rfl (lv_at hl 0 rfl) ?_
      refine va_get (D := D) (ci := 11) (v := .int (f_size S)) (C := "PageScribeModel") (T := F_Mo) (N := 45) hx hb hts i_Mo hown hK hP 0 mW_0 cl_11 4 (by decide) (hts _ k_6_164) (fun _ h9 => h9) (mg_size _ _) d_Mo_kind_37 ?_
      refine lv_iconst (v := 1) hx hb d_Mo_kind_40 (by decide) ?_
      refine lv_isub hx hb d_Mo_kind_41 ?_
      refine lv_topi (fun x1 ex1 => ?_)
      have fx1 : x1.toInt = ((f_size S).toInt - 1) := by rw [ex1]; exact (zt_sub (show (f_size S).toInt = _ from rfl) tI_1 (by omega) (by omega)).trans (by omega)
      refine lv_iload_n hx hb d_Mo_kind_42 rfl (lv_at hl 1 rfl) ?_
      refine lv_isub hx hb d_Mo_kind_43 ?_
      refine lv_topi (fun x2 ex2 => ?_)
      have fx2 : x2.toInt = ((f_size S).toInt - p0.toInt - 1) := by rw [ex2]; exact (zt_sub fx1 (show p0.toInt = _ from rfl) (by omega) (by omega)).trans (by omega)
      refine va_iald hx hb hK hP 1 0 (ma_kinds _ _ _ _) rfl (zt_in fx2 (by omega) (by omega)) d_Mo_kind_44 ?_
      refine lv_topi (fun x3 ex3 => ?_)
      have gx3 : x3 = (a_kinds S) ((f_size S).toInt - p0.toInt - 1).toNat := ex3.trans (congrArg _ (zt_ix fx2))
      have fx3 : x3.toInt = ((a_kinds S) ((f_size S).toInt - p0.toInt - 1).toNat).toInt := by rw [gx3]
      have kx3 : vOk ((a_kinds S) ((f_size S).toInt - p0.toInt - 1).toNat) ((a_codes S) ((f_size S).toInt - p0.toInt - 1).toNat) ((a_reals S) ((f_size S).toInt - p0.toInt - 1).toNat) := i_vals (((f_size S).toInt - p0.toInt - 1).toNat) (by omega)
      have rx3 := vk_rng kx3
      exact j_iret F hr hlocks hK hS (((j1, (a_kinds S), (a_codes S), (a_reals S), (f_size S), (f_taken S), (a_words S), (a_many S)), S.2.1, S.2.2.1, S.2.2.2.1, S.2.2.2.2.1, S.2.2.2.2.2) : MS) ⟨⟨i_size, i_taken, i_vals, i_room, i_dicts, i_deep, i_open, i_cells, i_points, i_part, i_length, i_knows, i_page, i_text, i_pats, i_fuel, i_fr, i_ink⟩, (kA_r S), (kF_r S)⟩ hP hD d_Mo_kind_45
    · have fc25_1 : 0 < j1.toInt := Int.not_le.mp (zt_nle (show j1.toInt = _ from rfl) tI_0 c25_1)
      refine lv_iconst (v := 0) hx hb d_Mo_kind_28 (by decide) ?_
      refine lv_goto (tgt := 45) hx hb d_Mo_kind_29 (by decide) ?_
      exact j_iret F hr hlocks hK hS (((j1, (a_kinds S), (a_codes S), (a_reals S), (f_size S), (f_taken S), (a_words S), (a_many S)), S.2.1, S.2.2.1, S.2.2.2.1, S.2.2.2.2.1, S.2.2.2.2.2) : MS) ⟨⟨i_size, i_taken, i_vals, i_room, i_dicts, i_deep, i_open, i_cells, i_points, i_part, i_length, i_knows, i_page, i_text, i_pats, i_fuel, i_fr, i_ink⟩, (kA_r S), (kF_r S)⟩ hP hD d_Mo_kind_45
  · refine lv_iload_n hx hb d_Mo_kind_1 rfl (lv_at hl 1 rfl) ?_
    refine lv_if_lt (tgt := 13) hx hb d_Mo_kind_2 (by decide) (fun c2_1 => ?_) (fun c2_1 => ?_)
    · have fc2_1 : p0.toInt < 0 := zt_lt (show p0.toInt = _ from rfl) tI_0 c2_1
      refine lv_iconst (v := 1) hx hb d_Mo_kind_13 (by decide) ?_
      refine lv_goto (tgt := 18) hx hb d_Mo_kind_14 (by decide) ?_
      exact key1 (1 : Int32) _ _ _ ⟨(show ((1 : Int32).toInt = 1 ∧ (p0.toInt < 0 ∨ (f_size S).toInt ≤ p0.toInt)) ∨ ((1 : Int32).toInt = 0 ∧ 0 ≤ p0.toInt ∧ p0.toInt < (f_size S).toInt) by have := tI_1; omega), hP, hD, hS, lv_sub hl [0, 1] rfl⟩
    · have fc2_1 : 0 ≤ p0.toInt := Int.not_lt.mp (zt_nlt (show p0.toInt = _ from rfl) tI_0 c2_1)
      refine lv_iload_n hx hb d_Mo_kind_5 rfl (lv_at hl 1 rfl) ?_
      refine lv_aload_n hx hb d_Mo_kind_6 rfl (lv_at hl 0 rfl) ?_
      refine va_get (D := D) (ci := 11) (v := .int (f_size S)) (C := "PageScribeModel") (T := F_Mo) (N := 45) hx hb hts i_Mo hown hK hP 0 mW_0 cl_11 4 (by decide) (hts _ k_6_164) (fun _ h9 => h9) (mg_size _ _) d_Mo_kind_7 ?_
      refine lv_icmp_lt (tgt := 17) hx hb d_Mo_kind_10 (by decide) (fun c10_1 => ?_) (fun c10_1 => ?_)
      · have fc10_1 : p0.toInt < (f_size S).toInt := zt_lt (show p0.toInt = _ from rfl) (show (f_size S).toInt = _ from rfl) c10_1
        refine lv_iconst (v := 0) hx hb d_Mo_kind_17 (by decide) ?_
        exact key1 (0 : Int32) _ _ _ ⟨(show ((0 : Int32).toInt = 1 ∧ (p0.toInt < 0 ∨ (f_size S).toInt ≤ p0.toInt)) ∨ ((0 : Int32).toInt = 0 ∧ 0 ≤ p0.toInt ∧ p0.toInt < (f_size S).toInt) by have := tI_0; omega), hP, hD, hS, lv_sub hl [0, 1] rfl⟩
      · have fc10_1 : (f_size S).toInt ≤ p0.toInt := Int.not_lt.mp (zt_nlt (show p0.toInt = _ from rfl) (show (f_size S).toInt = _ from rfl) c10_1)
        refine lv_iconst (v := 1) hx hb d_Mo_kind_13 (by decide) ?_
        refine lv_goto (tgt := 18) hx hb d_Mo_kind_14 (by decide) ?_
        exact key1 (1 : Int32) _ _ _ ⟨(show ((1 : Int32).toInt = 1 ∧ (p0.toInt < 0 ∨ (f_size S).toInt ≤ p0.toInt)) ∨ ((1 : Int32).toInt = 0 ∧ 0 ≤ p0.toInt ∧ p0.toInt < (f_size S).toInt) by have := tI_1; omega), hP, hD, hS, lv_sub hl [0, 1] rfl⟩
theorem d_Mo_letters_0 : decode prog_15_method_80_code 0 = .ok (.iconst 0, 1) := by decide +kernel
theorem d_Mo_letters_1 : decode prog_15_method_80_code 1 = .ok (.istore_n 2, 1) := by decide +kernel
theorem d_Mo_letters_2 : decode prog_15_method_80_code 2 = .ok (.iload_n 2, 1) := by decide +kernel
theorem d_Mo_letters_3 : decode prog_15_method_80_code 3 = .ok (.bipush 12, 2) := by decide +kernel
theorem d_Mo_letters_5 : decode prog_15_method_80_code 5 = .ok (.if_icmp .ge 19, 3) := by decide +kernel
theorem d_Mo_letters_24 : decode prog_15_method_80_code 24 = .ok (.iload_n 2, 1) := by decide +kernel
theorem d_Mo_letters_25 : decode prog_15_method_80_code 25 = .ok (.ireturn, 1) := by decide +kernel
theorem d_Mo_letters_8 : decode prog_15_method_80_code 8 = .ok (.lload_n 0, 1) := by decide +kernel
theorem d_Mo_letters_9 : decode prog_15_method_80_code 9 = .ok (.iconst 5, 1) := by decide +kernel
theorem d_Mo_letters_10 : decode prog_15_method_80_code 10 = .ok (.iload_n 2, 1) := by decide +kernel
theorem d_Mo_letters_11 : decode prog_15_method_80_code 11 = .ok (.imul, 1) := by decide +kernel
theorem d_Mo_letters_12 : decode prog_15_method_80_code 12 = .ok (.lshr, 1) := by decide +kernel
theorem d_Mo_letters_13 : decode prog_15_method_80_code 13 = .ok (.lconst 0, 1) := by decide +kernel
theorem d_Mo_letters_14 : decode prog_15_method_80_code 14 = .ok (.lcmp, 1) := by decide +kernel
theorem d_Mo_letters_15 : decode prog_15_method_80_code 15 = .ok (.ifCond .eq 9, 3) := by decide +kernel
theorem d_Mo_letters_18 : decode prog_15_method_80_code 18 = .ok (.iinc 2 1, 3) := by decide +kernel
theorem d_Mo_letters_21 : decode prog_15_method_80_code 21 = .ok (.goto (-19), 3) := by decide +kernel
set_option maxHeartbeats 4000000 in
set_option maxRecDepth 100000 in
theorem m_letters (l : Launch) (D : va_G) (T : Nat → ClassId) (v0 : Int64) (sz : Nat) : Met l ⟨"PageScribeModel", "letters", "(J)I"⟩ (wy ⟨"PageScribeModel", "letters", "(J)I"⟩ prog_15_method_80_code 3 (some .int)) ({ frames := 0, cells := 0, slots := 0, locals := 0 }) (va_Pc [.long v0] (Pw D T [] sz E0)) (va_Qi (fun (r : Int32) (u : Unit) => 0 ≤ r.toInt ∧ r.toInt ≤ 12) (fun u t => Bw D T (va_A [] sz) [] t) (va_A [] sz)) 0 0 (va_A [] sz) := by
  refine j_met (y := ⟨"PageScribeModel", "letters", "(J)I"⟩) (b := prog_15_method_80_code) (n := 3) (ret := (some .int)) (av := [.long v0]) (Qc := fun A => va_Qi (fun (r : Int32) (u : Unit) => 0 ≤ r.toInt ∧ r.toInt ≤ 12) (fun u t => Bw D T A [] t) A) (by decide +kernel) (Nat.le_of_ble_eq_true rfl) (fun p e s m args below meth c A ls F hr hlocks hnm hK hP hD hS hA hN hE hl => ?_)
  obtain ⟨hx, hb, hml, hown, hts⟩ := id F
  have hl : lv_has ls 3 [(0, .long v0)] := hl
  refine lv_iconst (v := 0) hx hb d_Mo_letters_0 (by decide) ?_
  refine lv_istore_n (lv' := [(2, .int 0), (0, .long v0)]) hx hb d_Mo_letters_1 rfl hl (by decide) rfl (fun ls hl => ?_)
  refine j_loop (α := Int32) (fun k x H locs ls => (0 ≤ x.toInt ∧ x.toInt ≤ 12 ∧ 12 ≤ x.toInt + ((k : Nat) : Int)) ∧ va_P D classes [] H ∧ va_D A [] ∧ va_S A s.heap H locs ∧ lv_has ls 3 [(2, .int x), (0, .long v0)]) (fun _ _ ls => F0 m 2 ls []) (fun k x H locs ls hI9 ih => ?_) 12 (0 : Int32) _ _ _ ⟨(show 0 ≤ (0 : Int32).toInt ∧ (0 : Int32).toInt ≤ 12 ∧ 12 ≤ (0 : Int32).toInt + ((12 : Nat) : Int) by have := tI_0; omega), hP, hD, hS, lv_sub hl [0, 1] rfl⟩
  obtain ⟨n, rfl⟩ : ∃ z, z = x := ⟨_, rfl⟩
  obtain ⟨hf1, hP, hD, hS, hl⟩ := hI9
  have hf1 : 0 ≤ n.toInt ∧ n.toInt ≤ 12 ∧ 12 ≤ n.toInt + ((k : Nat) : Int) := hf1
  have hl : lv_has ls 3 [(2, .int n), (0, .long v0)] := hl
  refine lv_iload_n hx hb d_Mo_letters_2 rfl (lv_at hl 0 rfl) ?_
  refine lv_bipush (v := 12) hx hb d_Mo_letters_3 (by decide) ?_
  refine lv_icmp_ge (tgt := 24) hx hb d_Mo_letters_5 (by decide) (fun c5_1 => ?_) (fun c5_1 => ?_)
  · have fc5_1 : 12 ≤ n.toInt := zt_le tI_12 (show n.toInt = _ from rfl) c5_1
    refine lv_iload_n hx hb d_Mo_letters_24 rfl (lv_at hl 0 rfl) ?_
    exact j_iret F hr hlocks hK hS () (show 0 ≤ n.toInt ∧ n.toInt ≤ 12 by omega) hP hD d_Mo_letters_25
  · have fc5_1 : n.toInt < 12 := Int.not_le.mp (zt_nle tI_12 (show n.toInt = _ from rfl) c5_1)
    refine lv_lload_n hx hb d_Mo_letters_8 rfl (lv_at hl 1 rfl) ?_
    refine lv_iconst (v := 5) hx hb d_Mo_letters_9 (by decide) ?_
    refine lv_iload_n hx hb d_Mo_letters_10 rfl (lv_at hl 0 rfl) ?_
    refine lv_imul hx hb d_Mo_letters_11 ?_
    refine lv_topi (fun x1 ex1 => ?_)
    have fx1 : x1.toInt = (5 * n.toInt) := by rw [ex1]; exact (zt_mul tI_5 (show n.toInt = _ from rfl) rfl (by omega) (by omega)).trans (by omega)
    refine lv_lshr (v := (v0 >>> ((x1 : Int32).toInt64 &&& 63))) hx hb d_Mo_letters_12 rfl ?_
    refine lv_topl (fun x2 ex2 => ?_)
    refine lv_lconst (v := 0) hx hb d_Mo_letters_13 (by decide) ?_
    refine W.lcmp hx hb d_Mo_letters_14 ?_
    refine lv_topi (fun x3 ex3 => ?_)
    refine lv_if_eq (tgt := 24) hx hb d_Mo_letters_15 (by decide) (fun c15_1 => ?_) (fun c15_1 => ?_)
    · have fc15_1 : x3.toInt = 0 := zt_eq (show x3.toInt = _ from rfl) tI_0 c15_1
      have vc15_1 : x2.toInt = 0 := by have := zr_cmp ex3 (show x2.toInt = _ from rfl) tJ_0; have := zt_eq (show x3.toInt = _ from rfl) tI_0 c15_1; omega
      refine lv_iload_n hx hb d_Mo_letters_24 rfl (lv_at hl 0 rfl) ?_
      exact j_iret F hr hlocks hK hS () (show 0 ≤ n.toInt ∧ n.toInt ≤ 12 by omega) hP hD d_Mo_letters_25
    · first | have fc15_1 : x3.toInt < 0 := (by have := zt_ne (show x3.toInt = _ from rfl) tI_0 c15_1; omega) | have fc15_1 : 0 < x3.toInt := (by have := zt_ne (show x3.toInt = _ from rfl) tI_0 c15_1; omega) | skip
      have vc15_1 : ¬ x2.toInt = 0 := by have := zr_cmp ex3 (show x2.toInt = _ from rfl) tJ_0; have := zt_ne (show x3.toInt = _ from rfl) tI_0 c15_1; omega
      refine lv_iinc (v := (n + 1)) (lv' := [(2, .int (n + 1)), (0, .long v0)]) hx hb d_Mo_letters_18 hl (k := 0) rfl (by first | rfl | decide) (by decide) rfl (fun ls hl => ?_)
      obtain ⟨x4, ex4⟩ : ∃ z, z = (n + 1) := ⟨_, rfl⟩
      rw [← ex4] at hl
      have fx4 : x4.toInt = (n.toInt + 1) := by rw [ex4]; exact (zt_add (show n.toInt = _ from rfl) tI_1 (by omega) (by omega)).trans (by omega)
      have hl : lv_has ls 3 [(2, .int x4), (0, .long v0)] := hl
      refine lv_goto (tgt := 2) hx hb d_Mo_letters_21 (by decide) ?_
      exact ih (k - 1) x4 _ _ _ (by omega) ⟨(show 0 ≤ x4.toInt ∧ x4.toInt ≤ 12 ∧ 12 ≤ x4.toInt + (((k - 1) : Nat) : Int) by omega), hP, hD, hS, lv_sub hl [0, 1] rfl⟩
theorem d_Mo_number_0 : decode prog_15_method_81_code 0 = .ok (.aload_n 0, 1) := by decide +kernel
theorem d_Mo_number_39 : decode prog_15_method_81_code 39 = .ok (.putfield 242, 3) := by decide +kernel
theorem d_Mo_number_42 : decode prog_15_method_81_code 42 = .ok (.aload_n 0, 1) := by decide +kernel
theorem d_Mo_number_43 : decode prog_15_method_81_code 43 = .ok (.getfield 242, 3) := by decide +kernel
theorem d_Mo_number_46 : decode prog_15_method_81_code 46 = .ok (.ifCond .le 5, 3) := by decide +kernel
theorem d_Mo_number_51 : decode prog_15_method_81_code 51 = .ok (.aload_n 0, 1) := by decide +kernel
theorem d_Mo_number_52 : decode prog_15_method_81_code 52 = .ok (.getfield 247, 3) := by decide +kernel
theorem d_Mo_number_55 : decode prog_15_method_81_code 55 = .ok (.iconst 1, 1) := by decide +kernel
theorem d_Mo_number_56 : decode prog_15_method_81_code 56 = .ok (.isub, 1) := by decide +kernel
theorem d_Mo_number_57 : decode prog_15_method_81_code 57 = .ok (.iload_n 1, 1) := by decide +kernel
theorem d_Mo_number_58 : decode prog_15_method_81_code 58 = .ok (.isub, 1) := by decide +kernel
theorem d_Mo_number_59 : decode prog_15_method_81_code 59 = .ok (.istore_n 2, 1) := by decide +kernel
theorem d_Mo_number_60 : decode prog_15_method_81_code 60 = .ok (.aload_n 0, 1) := by decide +kernel
theorem d_Mo_number_61 : decode prog_15_method_81_code 61 = .ok (.iload_n 2, 1) := by decide +kernel
theorem d_Mo_number_62 : decode prog_15_method_81_code 62 = .ok (.invokevirtual 421, 3) := by decide +kernel
theorem d_Mo_number_65 : decode prog_15_method_81_code 65 = .ok (.iconst 3, 1) := by decide +kernel
theorem d_Mo_number_66 : decode prog_15_method_81_code 66 = .ok (.if_icmp .ne 15, 3) := by decide +kernel
theorem d_Mo_number_81 : decode prog_15_method_81_code 81 = .ok (.aload_n 0, 1) := by decide +kernel
theorem d_Mo_number_82 : decode prog_15_method_81_code 82 = .ok (.iload_n 2, 1) := by decide +kernel
theorem d_Mo_number_83 : decode prog_15_method_81_code 83 = .ok (.invokevirtual 421, 3) := by decide +kernel
theorem d_Mo_number_86 : decode prog_15_method_81_code 86 = .ok (.iconst 5, 1) := by decide +kernel
theorem d_Mo_number_87 : decode prog_15_method_81_code 87 = .ok (.if_icmp .ne 15, 3) := by decide +kernel
theorem d_Mo_number_102 : decode prog_15_method_81_code 102 = .ok (.aload_n 0, 1) := by decide +kernel
theorem d_Mo_number_103 : decode prog_15_method_81_code 103 = .ok (.getfield 13, 3) := by decide +kernel
theorem d_Mo_number_106 : decode prog_15_method_81_code 106 = .ok (.iload_n 2, 1) := by decide +kernel
theorem d_Mo_number_107 : decode prog_15_method_81_code 107 = .ok (.laload, 1) := by decide +kernel
theorem d_Mo_number_108 : decode prog_15_method_81_code 108 = .ok (.l2i, 1) := by decide +kernel
theorem d_Mo_number_109 : decode prog_15_method_81_code 109 = .ok (.ireturn, 1) := by decide +kernel
theorem d_Mo_number_90 : decode prog_15_method_81_code 90 = .ok (.aload_n 0, 1) := by decide +kernel
theorem d_Mo_number_91 : decode prog_15_method_81_code 91 = .ok (.getfield 13, 3) := by decide +kernel
theorem d_Mo_number_94 : decode prog_15_method_81_code 94 = .ok (.iload_n 2, 1) := by decide +kernel
theorem d_Mo_number_95 : decode prog_15_method_81_code 95 = .ok (.laload, 1) := by decide +kernel
theorem d_Mo_number_96 : decode prog_15_method_81_code 96 = .ok (.invokestatic 391, 3) := by decide +kernel
theorem d_Mo_number_99 : decode prog_15_method_81_code 99 = .ok (.goto 10, 3) := by decide +kernel
theorem d_Mo_number_69 : decode prog_15_method_81_code 69 = .ok (.aload_n 0, 1) := by decide +kernel
theorem d_Mo_number_70 : decode prog_15_method_81_code 70 = .ok (.getfield 13, 3) := by decide +kernel
theorem d_Mo_number_73 : decode prog_15_method_81_code 73 = .ok (.iload_n 2, 1) := by decide +kernel
theorem d_Mo_number_74 : decode prog_15_method_81_code 74 = .ok (.laload, 1) := by decide +kernel
theorem d_Mo_number_75 : decode prog_15_method_81_code 75 = .ok (.invokestatic 566, 3) := by decide +kernel
theorem k_8_148 : Cond.code ⟨"PageScribeModel", "letters", "(J)I"⟩ prog_15_method_80_code 3 (some .int) ∈ gw := gw_of (tb_8 (List.mem_of_getElem? (i := 148) (by decide +kernel))) (by decide +kernel)
theorem k_8_146 : Cond.methodLink "PageScribeModel" 566 ⟨"PageScribeModel", "letters", "(J)I"⟩ ∈ gw := gw_of (tb_8 (List.mem_of_getElem? (i := 146) (by decide +kernel))) (by decide +kernel)
theorem k_8_147 : Cond.static ⟨"PageScribeModel", "letters", "(J)I"⟩ ∈ gw := gw_of (tb_8 (List.mem_of_getElem? (i := 147) (by decide +kernel))) (by decide +kernel)
theorem d_Mo_number_78 : decode prog_15_method_81_code 78 = .ok (.goto 31, 3) := by decide +kernel
theorem d_Mo_number_49 : decode prog_15_method_81_code 49 = .ok (.iconst 0, 1) := by decide +kernel
theorem d_Mo_number_50 : decode prog_15_method_81_code 50 = .ok (.ireturn, 1) := by decide +kernel
theorem d_Mo_number_1 : decode prog_15_method_81_code 1 = .ok (.iload_n 1, 1) := by decide +kernel
theorem d_Mo_number_2 : decode prog_15_method_81_code 2 = .ok (.ifCond .lt 11, 3) := by decide +kernel
theorem d_Mo_number_13 : decode prog_15_method_81_code 13 = .ok (.iconst 1, 1) := by decide +kernel
theorem d_Mo_number_14 : decode prog_15_method_81_code 14 = .ok (.goto 25, 3) := by decide +kernel
theorem d_Mo_number_5 : decode prog_15_method_81_code 5 = .ok (.iload_n 1, 1) := by decide +kernel
theorem d_Mo_number_6 : decode prog_15_method_81_code 6 = .ok (.aload_n 0, 1) := by decide +kernel
theorem d_Mo_number_7 : decode prog_15_method_81_code 7 = .ok (.getfield 247, 3) := by decide +kernel
theorem d_Mo_number_10 : decode prog_15_method_81_code 10 = .ok (.if_icmp .lt 7, 3) := by decide +kernel
theorem d_Mo_number_17 : decode prog_15_method_81_code 17 = .ok (.aload_n 0, 1) := by decide +kernel
theorem d_Mo_number_18 : decode prog_15_method_81_code 18 = .ok (.getfield 7, 3) := by decide +kernel
theorem d_Mo_number_21 : decode prog_15_method_81_code 21 = .ok (.aload_n 0, 1) := by decide +kernel
theorem d_Mo_number_22 : decode prog_15_method_81_code 22 = .ok (.getfield 247, 3) := by decide +kernel
theorem d_Mo_number_25 : decode prog_15_method_81_code 25 = .ok (.iconst 1, 1) := by decide +kernel
theorem d_Mo_number_26 : decode prog_15_method_81_code 26 = .ok (.isub, 1) := by decide +kernel
theorem d_Mo_number_27 : decode prog_15_method_81_code 27 = .ok (.iload_n 1, 1) := by decide +kernel
theorem d_Mo_number_28 : decode prog_15_method_81_code 28 = .ok (.isub, 1) := by decide +kernel
theorem d_Mo_number_29 : decode prog_15_method_81_code 29 = .ok (.iaload, 1) := by decide +kernel
theorem d_Mo_number_30 : decode prog_15_method_81_code 30 = .ok (.iconst 1, 1) := by decide +kernel
theorem d_Mo_number_31 : decode prog_15_method_81_code 31 = .ok (.if_icmp .ne 7, 3) := by decide +kernel
theorem d_Mo_number_38 : decode prog_15_method_81_code 38 = .ok (.iconst 0, 1) := by decide +kernel
theorem d_Mo_number_34 : decode prog_15_method_81_code 34 = .ok (.iconst 2, 1) := by decide +kernel
theorem d_Mo_number_35 : decode prog_15_method_81_code 35 = .ok (.goto 4, 3) := by decide +kernel
set_option maxHeartbeats 4000000 in
set_option maxRecDepth 100000 in
theorem m_number (l : Launch) (D : va_G) (T : Nat → ClassId) (h0 : Nat) (ar : Nat → Nat) (S : MS) (p0 : Int32) (sz : Nat) (hI : MI S) : Met l ⟨"PageScribeModel", "number", "(I)I"⟩ (wy ⟨"PageScribeModel", "number", "(I)I"⟩ prog_15_method_81_code 3 (some .int)) ({ frames := 1, cells := 0, slots := 0, locals := 70 }) (va_Pc [.ref h0, .int p0] (Pw D T (mW T h0 ar S) sz E0)) (va_Qi (fun (r : Int32) (u : MS) => MI u ∧ kA S u ∧ kF S u) (fun u t => Bw D T (va_A (mW T h0 ar S) sz) (mW T h0 ar u) t) (va_A (mW T h0 ar S) sz)) 0 0 (va_A (mW T h0 ar S) sz) := by
  refine j_met (y := ⟨"PageScribeModel", "number", "(I)I"⟩) (b := prog_15_method_81_code) (n := 3) (ret := (some .int)) (av := [.ref h0, .int p0]) (Qc := fun A => va_Qi (fun (r : Int32) (u : MS) => MI u ∧ kA S u ∧ kF S u) (fun u t => Bw D T A (mW T h0 ar u) t) A) (by decide +kernel) (Nat.le_of_ble_eq_true rfl) (fun p e s m args below meth c A ls F hr hlocks hnm hK hP hD hS hA hN hE hl => ?_)
  obtain ⟨hx, hb, hml, hown, hts⟩ := id F
  have hl : lv_has ls 3 [(0, .ref h0), (1, .int p0)] := hl
  obtain ⟨i_size, i_taken, i_vals, i_room, i_dicts, i_deep, i_open, i_cells, i_points, i_part, i_length, i_knows, i_page, i_text, i_pats, i_fuel, i_fr, i_ink⟩ := id hI
  have hz := i_size
  refine lv_aload_n hx hb d_Mo_number_0 rfl (lv_at hl 0 rfl) ?_
  refine j_joinH (α := Int32) (fun x H locs ls => ((x.toInt = 1 ∧ (p0.toInt < 0 ∨ (f_size S).toInt ≤ p0.toInt)) ∨ (x.toInt = 0 ∧ 0 ≤ p0.toInt ∧ p0.toInt < (f_size S).toInt) ∨ (x.toInt = 2 ∧ 0 ≤ p0.toInt ∧ p0.toInt < (f_size S).toInt)) ∧ va_P D classes (mW T h0 ar S) H ∧ va_D A (mW T h0 ar S) ∧ va_S A s.heap H locs ∧ lv_has ls 3 [(0, .ref h0), (1, .int p0)]) (fun x ls => F0 m 39 ls (.int x :: [.ref h0])) (fun x H locs ls hI9 => ?_) (fun key1 => ?_)
  · obtain ⟨j1, rfl⟩ : ∃ z, z = x := ⟨_, rfl⟩
    obtain ⟨hj1, hP, hD, hS, hl⟩ := hI9
    have hj1 : (j1.toInt = 1 ∧ (p0.toInt < 0 ∨ (f_size S).toInt ≤ p0.toInt)) ∨ (j1.toInt = 0 ∧ 0 ≤ p0.toInt ∧ p0.toInt < (f_size S).toInt) ∨ (j1.toInt = 2 ∧ 0 ≤ p0.toInt ∧ p0.toInt < (f_size S).toInt) := hj1
    have hP : va_P D classes (mW T h0 ar S) H := hP
    have hD : va_D A (mW T h0 ar S) := hD
    have hl : lv_has ls 3 [(0, .ref h0), (1, .int p0)] := hl
    refine va_put (D := D) (ci := 11) (v := .int j1) (ty := .int) (C := "PageScribeModel") (T := F_Mo) (N := 45) hx hb hts i_Mo t_Mo t_Mo_ok n_Mo hown hK hP hD hS 0 mW_0 cl_11 0 (by decide) (hts _ k_6_160) (fun _ h9 => h9) rfl (by decide +kernel) rfl rfl (Nat.le_of_ble_eq_true rfl) d_Mo_number_39 (fun H locs hP hD hS => ?_)
    rw [mp_thrown] at hP hD
    have hP : va_P D classes (mW T h0 ar (((j1, (a_kinds S), (a_codes S), (a_reals S), (f_size S), (f_taken S), (a_words S), (a_many S)), S.2.1, S.2.2.1, S.2.2.2.1, S.2.2.2.2.1, S.2.2.2.2.2) : MS)) H := hP
    have hD : va_D A (mW T h0 ar (((j1, (a_kinds S), (a_codes S), (a_reals S), (f_size S), (f_taken S), (a_words S), (a_many S)), S.2.1, S.2.2.1, S.2.2.2.1, S.2.2.2.2.1, S.2.2.2.2.2) : MS)) := hD
    refine lv_aload_n hx hb d_Mo_number_42 rfl (lv_at hl 0 rfl) ?_
    refine va_get (D := D) (ci := 11) (v := .int j1) (C := "PageScribeModel") (T := F_Mo) (N := 45) hx hb hts i_Mo hown hK hP 0 mW_0 cl_11 0 (by decide) (hts _ k_6_160) (fun _ h9 => h9) (mg_thrown _ _) d_Mo_number_43 ?_
    refine lv_if_le (tgt := 51) hx hb d_Mo_number_46 (by decide) (fun c46_1 => ?_) (fun c46_1 => ?_)
    · have fc46_1 : j1.toInt ≤ 0 := zt_le (show j1.toInt = _ from rfl) tI_0 c46_1
      refine lv_aload_n hx hb d_Mo_number_51 rfl (lv_at hl 0 rfl) ?_
      refine va_get (D := D) (ci := 11) (v := .int (f_size S)) (C := "PageScribeModel") (T := F_Mo) (N := 45) hx hb hts i_Mo hown hK hP 0 mW_0 cl_11 4 (by decide) (hts _ k_6_164) (fun _ h9 => h9) (mg_size _ _) d_Mo_number_52 ?_
      refine lv_iconst (v := 1) hx hb d_Mo_number_55 (by decide) ?_
      refine lv_isub hx hb d_Mo_number_56 ?_
      refine lv_topi (fun x1 ex1 => ?_)
      have fx1 : x1.toInt = ((f_size S).toInt - 1) := by rw [ex1]; exact (zt_sub (show (f_size S).toInt = _ from rfl) tI_1 (by omega) (by omega)).trans (by omega)
      refine lv_iload_n hx hb d_Mo_number_57 rfl (lv_at hl 1 rfl) ?_
      refine lv_isub hx hb d_Mo_number_58 ?_
      refine lv_topi (fun x2 ex2 => ?_)
      have fx2 : x2.toInt = ((f_size S).toInt - p0.toInt - 1) := by rw [ex2]; exact (zt_sub fx1 (show p0.toInt = _ from rfl) (by omega) (by omega)).trans (by omega)
      refine lv_istore_n (lv' := [(2, .int x2), (0, .ref h0), (1, .int p0)]) hx hb d_Mo_number_59 rfl hl (by decide) rfl (fun ls hl => ?_)
      refine lv_aload_n hx hb d_Mo_number_60 rfl (lv_at hl 1 rfl) ?_
      refine lv_iload_n hx hb d_Mo_number_61 rfl (lv_at hl 0 rfl) ?_
      have kv1 : vOk ((a_kinds S) (((f_size S).toInt - p0.toInt - 1).toNat)) ((a_codes S) (((f_size S).toInt - p0.toInt - 1).toNat)) ((a_reals S) (((f_size S).toInt - p0.toInt - 1).toNat)) := i_vals (((f_size S).toInt - p0.toInt - 1).toNat) (by omega)
      have rkv1 := vk_rng kv1
      refine jm_ci (w := (fun _ => (((j1, (a_kinds S), (a_codes S), (a_reals S), (f_size S), (f_taken S), (a_words S), (a_many S)), S.2.1, S.2.2.1, S.2.2.2.1, S.2.2.2.2.1, S.2.2.2.2.2) : MS))) hK hP hD hS hA (va_runV (As := [.int x2]) (rest := []) F (m_kindOf l D T h0 ar (((j1, (a_kinds S), (a_codes S), (a_reals S), (f_size S), (f_taken S), (a_words S), (a_many S)), S.2.1, S.2.2.1, S.2.2.2.1, S.2.2.2.2.1, S.2.2.2.2.2) : MS) x2 H.size (show 0 ≤ x2.toInt ∧ x2.toInt < 1300 by first | omega | (simp only [fx2]; omega)) (show 0 ≤ ((a_kinds S) x2.toInt.toNat).toInt by first | omega | (simp only [fx2]; omega))) (j_cV (k := 1) (C := "PageScribeModel") hts k_7_174 k_1_12 k_7_171 k_7_173 k_0_102 (by decide +kernel) ⟨Nat.le_of_ble_eq_true rfl, Nat.le_of_ble_eq_true rfl⟩) (jm_pre hK hP hD) rfl rfl hl.1 rfl (lv_room (Nat.le_of_ble_eq_true rfl)) d_Mo_number_62 ⟨Nat.le_of_ble_eq_true rfl, Nat.le_of_ble_eq_true rfl⟩) (fun rv1 u1 H locs hw1 hP hD hS => ?_)
      have hP : va_P D classes (mW T h0 ar (((j1, (a_kinds S), (a_codes S), (a_reals S), (f_size S), (f_taken S), (a_words S), (a_many S)), S.2.1, S.2.2.1, S.2.2.2.1, S.2.2.2.2.1, S.2.2.2.2.2) : MS)) H := hP
      have hD : va_D A (mW T h0 ar (((j1, (a_kinds S), (a_codes S), (a_reals S), (f_size S), (f_taken S), (a_words S), (a_many S)), S.2.1, S.2.2.1, S.2.2.2.1, S.2.2.2.2.1, S.2.2.2.2.2) : MS)) := hD
      have qhw1 : rv1.toInt = ((a_kinds S) ((f_size S).toInt - p0.toInt - 1).toNat).toInt % 8 := by simpa only [fx2] using hw1
      refine lv_iconst (v := 3) hx hb d_Mo_number_65 (by decide) ?_
      refine lv_icmp_ne (tgt := 81) hx hb d_Mo_number_66 (by decide) (fun c66_1 => ?_) (fun c66_1 => ?_)
      · first | have fc66_1 : rv1.toInt < 3 := (by have := zt_ne (show rv1.toInt = _ from rfl) tI_3 c66_1; omega) | have fc66_1 : 3 < rv1.toInt := (by have := zt_ne (show rv1.toInt = _ from rfl) tI_3 c66_1; omega) | skip
        refine lv_aload_n hx hb d_Mo_number_81 rfl (lv_at hl 1 rfl) ?_
        refine lv_iload_n hx hb d_Mo_number_82 rfl (lv_at hl 0 rfl) ?_
        refine jm_ci (w := (fun _ => (((j1, (a_kinds S), (a_codes S), (a_reals S), (f_size S), (f_taken S), (a_words S), (a_many S)), S.2.1, S.2.2.1, S.2.2.2.1, S.2.2.2.2.1, S.2.2.2.2.2) : MS))) hK hP hD hS hA (va_runV (As := [.int x2]) (rest := []) F (m_kindOf l D T h0 ar (((j1, (a_kinds S), (a_codes S), (a_reals S), (f_size S), (f_taken S), (a_words S), (a_many S)), S.2.1, S.2.2.1, S.2.2.2.1, S.2.2.2.2.1, S.2.2.2.2.2) : MS) x2 H.size (show 0 ≤ x2.toInt ∧ x2.toInt < 1300 by first | omega | (simp only [fx2]; omega)) (show 0 ≤ ((a_kinds S) x2.toInt.toNat).toInt by first | omega | (simp only [fx2]; omega))) (j_cV (k := 1) (C := "PageScribeModel") hts k_7_174 k_1_12 k_7_171 k_7_173 k_0_102 (by decide +kernel) ⟨Nat.le_of_ble_eq_true rfl, Nat.le_of_ble_eq_true rfl⟩) (jm_pre hK hP hD) rfl rfl hl.1 rfl (lv_room (Nat.le_of_ble_eq_true rfl)) d_Mo_number_83 ⟨Nat.le_of_ble_eq_true rfl, Nat.le_of_ble_eq_true rfl⟩) (fun rv2 u2 H locs hw2 hP hD hS => ?_)
        have hP : va_P D classes (mW T h0 ar (((j1, (a_kinds S), (a_codes S), (a_reals S), (f_size S), (f_taken S), (a_words S), (a_many S)), S.2.1, S.2.2.1, S.2.2.2.1, S.2.2.2.2.1, S.2.2.2.2.2) : MS)) H := hP
        have hD : va_D A (mW T h0 ar (((j1, (a_kinds S), (a_codes S), (a_reals S), (f_size S), (f_taken S), (a_words S), (a_many S)), S.2.1, S.2.2.1, S.2.2.2.1, S.2.2.2.2.1, S.2.2.2.2.2) : MS)) := hD
        have qhw2 : rv2.toInt = ((a_kinds S) ((f_size S).toInt - p0.toInt - 1).toNat).toInt % 8 := by simpa only [fx2] using hw2
        refine lv_iconst (v := 5) hx hb d_Mo_number_86 (by decide) ?_
        refine lv_icmp_ne (tgt := 102) hx hb d_Mo_number_87 (by decide) (fun c87_1 => ?_) (fun c87_1 => ?_)
        · first | have fc87_1 : rv2.toInt < 5 := (by have := zt_ne (show rv2.toInt = _ from rfl) tI_5 c87_1; omega) | have fc87_1 : 5 < rv2.toInt := (by have := zt_ne (show rv2.toInt = _ from rfl) tI_5 c87_1; omega) | skip
          refine lv_aload_n hx hb d_Mo_number_102 rfl (lv_at hl 1 rfl) ?_
          refine va_get (D := D) (ci := 11) (v := .ref (ar 1)) (C := "PageScribeModel") (T := F_Mo) (N := 45) hx hb hts i_Mo hown hK hP 0 mW_0 cl_11 2 (by decide) (hts _ k_6_162) (fun _ h9 => h9) (mg_codes _ _) d_Mo_number_103 ?_
          refine lv_iload_n hx hb d_Mo_number_106 rfl (lv_at hl 0 rfl) ?_
          refine va_lald hx hb hK hP 2 1 (ma_codes _ _ _ _) rfl (zt_in fx2 (by omega) (by omega)) d_Mo_number_107 ?_
          refine lv_topl (fun x3 ex3 => ?_)
          have gx3 : x3 = (a_codes S) ((f_size S).toInt - p0.toInt - 1).toNat := ex3.trans (congrArg _ (zt_ix fx2))
          have fx3 : x3.toInt = ((a_codes S) ((f_size S).toInt - p0.toInt - 1).toNat).toInt := by rw [gx3]
          have kx3 : vOk ((a_kinds S) ((f_size S).toInt - p0.toInt - 1).toNat) ((a_codes S) ((f_size S).toInt - p0.toInt - 1).toNat) ((a_reals S) ((f_size S).toInt - p0.toInt - 1).toNat) := i_vals (((f_size S).toInt - p0.toInt - 1).toNat) (by omega)
          refine lv_l2i (v := (x3).toInt32) hx hb d_Mo_number_108 rfl ?_
          refine lv_topi (fun x4 ex4 => ?_)
          have wx4 := zt_rng x4
          exact j_iret F hr hlocks hK hS (((j1, (a_kinds S), (a_codes S), (a_reals S), (f_size S), (f_taken S), (a_words S), (a_many S)), S.2.1, S.2.2.1, S.2.2.2.1, S.2.2.2.2.1, S.2.2.2.2.2) : MS) ⟨⟨i_size, i_taken, i_vals, i_room, i_dicts, i_deep, i_open, i_cells, i_points, i_part, i_length, i_knows, i_page, i_text, i_pats, i_fuel, i_fr, i_ink⟩, (kA_r S), (kF_r S)⟩ hP hD d_Mo_number_109
        · have fc87_1 : rv2.toInt = 5 := zt_eq (show rv2.toInt = _ from rfl) tI_5 c87_1
          refine lv_aload_n hx hb d_Mo_number_90 rfl (lv_at hl 1 rfl) ?_
          refine va_get (D := D) (ci := 11) (v := .ref (ar 1)) (C := "PageScribeModel") (T := F_Mo) (N := 45) hx hb hts i_Mo hown hK hP 0 mW_0 cl_11 2 (by decide) (hts _ k_6_162) (fun _ h9 => h9) (mg_codes _ _) d_Mo_number_91 ?_
          refine lv_iload_n hx hb d_Mo_number_94 rfl (lv_at hl 0 rfl) ?_
          refine va_lald hx hb hK hP 2 1 (ma_codes _ _ _ _) rfl (zt_in fx2 (by omega) (by omega)) d_Mo_number_95 ?_
          refine lv_topl (fun x5 ex5 => ?_)
          have gx5 : x5 = (a_codes S) ((f_size S).toInt - p0.toInt - 1).toNat := ex5.trans (congrArg _ (zt_ix fx2))
          have fx5 : x5.toInt = ((a_codes S) ((f_size S).toInt - p0.toInt - 1).toNat).toInt := by rw [gx5]
          have kx5 : vOk ((a_kinds S) ((f_size S).toInt - p0.toInt - 1).toNat) ((a_codes S) ((f_size S).toInt - p0.toInt - 1).toNat) ((a_reals S) ((f_size S).toInt - p0.toInt - 1).toNat) := i_vals (((f_size S).toInt - p0.toInt - 1).toNat) (by omega)
          have aa := vk_ar8 kx5 (by omega)
          refine j_ci (wc := []) (wr := (mW T h0 ar (((j1, (a_kinds S), (a_codes S), (a_reals S), (f_size S), (f_taken S), (a_words S), (a_many S)), S.2.1, S.2.2.1, S.2.2.2.1, S.2.2.2.2.1, S.2.2.2.2.2) : MS))) hK hP hD hS hA [] isc rfl isc_all isc_nd (fun _ _ => List.not_mem_nil) (va_runS (As := [.long x5]) (rest := []) F (m_count l D T x5 H.size (show 0 ≤ x5.toInt ∧ x5.toInt < 1048576 by omega)) (j_cS (k := 1) hts k_8_7 k_1_12 k_8_5 k_8_6 (by decide +kernel) ⟨Nat.le_of_ble_eq_true rfl, Nat.le_of_ble_eq_true rfl⟩) (j_preS hK hP hD [] rfl (by decide) (fun _ _ _ _ h => h) (fun _ _ _ => trivial)) rfl rfl hl.1 rfl (lv_room (Nat.le_of_ble_eq_true rfl)) d_Mo_number_96 ⟨Nat.le_of_ble_eq_true rfl, Nat.le_of_ble_eq_true rfl⟩) (fun rv3 u3 H locs hw3 hP hD hS => ?_)
          have hP : va_P D classes (mW T h0 ar (((j1, (a_kinds S), (a_codes S), (a_reals S), (f_size S), (f_taken S), (a_words S), (a_many S)), S.2.1, S.2.2.1, S.2.2.2.1, S.2.2.2.2.1, S.2.2.2.2.2) : MS)) H := hP
          have hD : va_D A (mW T h0 ar (((j1, (a_kinds S), (a_codes S), (a_reals S), (f_size S), (f_taken S), (a_words S), (a_many S)), S.2.1, S.2.2.1, S.2.2.2.1, S.2.2.2.2.1, S.2.2.2.2.2) : MS)) := hD
          have qhw3 : rv3.toInt = x5.toInt / 1024 := hw3
          refine lv_goto (tgt := 109) hx hb d_Mo_number_99 (by decide) ?_
          exact j_iret F hr hlocks hK hS (((j1, (a_kinds S), (a_codes S), (a_reals S), (f_size S), (f_taken S), (a_words S), (a_many S)), S.2.1, S.2.2.1, S.2.2.2.1, S.2.2.2.2.1, S.2.2.2.2.2) : MS) ⟨⟨i_size, i_taken, i_vals, i_room, i_dicts, i_deep, i_open, i_cells, i_points, i_part, i_length, i_knows, i_page, i_text, i_pats, i_fuel, i_fr, i_ink⟩, (kA_r S), (kF_r S)⟩ hP hD d_Mo_number_109
      · have fc66_1 : rv1.toInt = 3 := zt_eq (show rv1.toInt = _ from rfl) tI_3 c66_1
        refine lv_aload_n hx hb d_Mo_number_69 rfl (lv_at hl 1 rfl) ?_
        refine va_get (D := D) (ci := 11) (v := .ref (ar 1)) (C := "PageScribeModel") (T := F_Mo) (N := 45) hx hb hts i_Mo hown hK hP 0 mW_0 cl_11 2 (by decide) (hts _ k_6_162) (fun _ h9 => h9) (mg_codes _ _) d_Mo_number_70 ?_
        refine lv_iload_n hx hb d_Mo_number_73 rfl (lv_at hl 0 rfl) ?_
        refine va_lald hx hb hK hP 2 1 (ma_codes _ _ _ _) rfl (zt_in fx2 (by omega) (by omega)) d_Mo_number_74 ?_
        refine lv_topl (fun x6 ex6 => ?_)
        have gx6 : x6 = (a_codes S) ((f_size S).toInt - p0.toInt - 1).toNat := ex6.trans (congrArg _ (zt_ix fx2))
        have fx6 : x6.toInt = ((a_codes S) ((f_size S).toInt - p0.toInt - 1).toNat).toInt := by rw [gx6]
        have kx6 : vOk ((a_kinds S) ((f_size S).toInt - p0.toInt - 1).toNat) ((a_codes S) ((f_size S).toInt - p0.toInt - 1).toNat) ((a_reals S) ((f_size S).toInt - p0.toInt - 1).toNat) := i_vals (((f_size S).toInt - p0.toInt - 1).toNat) (by omega)
        refine j_ci (wc := []) (wr := (mW T h0 ar (((j1, (a_kinds S), (a_codes S), (a_reals S), (f_size S), (f_taken S), (a_words S), (a_many S)), S.2.1, S.2.2.1, S.2.2.2.1, S.2.2.2.2.1, S.2.2.2.2.2) : MS))) hK hP hD hS hA [] isc rfl isc_all isc_nd (fun _ _ => List.not_mem_nil) (va_runS (As := [.long x6]) (rest := []) F (m_letters l D T x6 H.size) (j_cS (k := 1) hts k_8_148 k_1_12 k_8_146 k_8_147 (by decide +kernel) ⟨Nat.le_of_ble_eq_true rfl, Nat.le_of_ble_eq_true rfl⟩) (j_preS hK hP hD [] rfl (by decide) (fun _ _ _ _ h => h) (fun _ _ _ => trivial)) rfl rfl hl.1 rfl (lv_room (Nat.le_of_ble_eq_true rfl)) d_Mo_number_75 ⟨Nat.le_of_ble_eq_true rfl, Nat.le_of_ble_eq_true rfl⟩) (fun rv4 u4 H locs hw4 hP hD hS => ?_)
        have hP : va_P D classes (mW T h0 ar (((j1, (a_kinds S), (a_codes S), (a_reals S), (f_size S), (f_taken S), (a_words S), (a_many S)), S.2.1, S.2.2.1, S.2.2.2.1, S.2.2.2.2.1, S.2.2.2.2.2) : MS)) H := hP
        have hD : va_D A (mW T h0 ar (((j1, (a_kinds S), (a_codes S), (a_reals S), (f_size S), (f_taken S), (a_words S), (a_many S)), S.2.1, S.2.2.1, S.2.2.2.1, S.2.2.2.2.1, S.2.2.2.2.2) : MS)) := hD
        have qhw4 : 0 ≤ rv4.toInt ∧ rv4.toInt ≤ 12 := hw4
        refine lv_goto (tgt := 109) hx hb d_Mo_number_78 (by decide) ?_
        exact j_iret F hr hlocks hK hS (((j1, (a_kinds S), (a_codes S), (a_reals S), (f_size S), (f_taken S), (a_words S), (a_many S)), S.2.1, S.2.2.1, S.2.2.2.1, S.2.2.2.2.1, S.2.2.2.2.2) : MS) ⟨⟨i_size, i_taken, i_vals, i_room, i_dicts, i_deep, i_open, i_cells, i_points, i_part, i_length, i_knows, i_page, i_text, i_pats, i_fuel, i_fr, i_ink⟩, (kA_r S), (kF_r S)⟩ hP hD d_Mo_number_109
    · have fc46_1 : 0 < j1.toInt := Int.not_le.mp (zt_nle (show j1.toInt = _ from rfl) tI_0 c46_1)
      refine lv_iconst (v := 0) hx hb d_Mo_number_49 (by decide) ?_
      exact j_iret F hr hlocks hK hS (((j1, (a_kinds S), (a_codes S), (a_reals S), (f_size S), (f_taken S), (a_words S), (a_many S)), S.2.1, S.2.2.1, S.2.2.2.1, S.2.2.2.2.1, S.2.2.2.2.2) : MS) ⟨⟨i_size, i_taken, i_vals, i_room, i_dicts, i_deep, i_open, i_cells, i_points, i_part, i_length, i_knows, i_page, i_text, i_pats, i_fuel, i_fr, i_ink⟩, (kA_r S), (kF_r S)⟩ hP hD d_Mo_number_50
  · refine lv_iload_n hx hb d_Mo_number_1 rfl (lv_at hl 1 rfl) ?_
    refine lv_if_lt (tgt := 13) hx hb d_Mo_number_2 (by decide) (fun c2_1 => ?_) (fun c2_1 => ?_)
    · have fc2_1 : p0.toInt < 0 := zt_lt (show p0.toInt = _ from rfl) tI_0 c2_1
      refine lv_iconst (v := 1) hx hb d_Mo_number_13 (by decide) ?_
      refine lv_goto (tgt := 39) hx hb d_Mo_number_14 (by decide) ?_
      exact key1 (1 : Int32) _ _ _ ⟨(show ((1 : Int32).toInt = 1 ∧ (p0.toInt < 0 ∨ (f_size S).toInt ≤ p0.toInt)) ∨ ((1 : Int32).toInt = 0 ∧ 0 ≤ p0.toInt ∧ p0.toInt < (f_size S).toInt) ∨ ((1 : Int32).toInt = 2 ∧ 0 ≤ p0.toInt ∧ p0.toInt < (f_size S).toInt) by have := tI_1; omega), hP, hD, hS, lv_sub hl [0, 1] rfl⟩
    · have fc2_1 : 0 ≤ p0.toInt := Int.not_lt.mp (zt_nlt (show p0.toInt = _ from rfl) tI_0 c2_1)
      refine lv_iload_n hx hb d_Mo_number_5 rfl (lv_at hl 1 rfl) ?_
      refine lv_aload_n hx hb d_Mo_number_6 rfl (lv_at hl 0 rfl) ?_
      refine va_get (D := D) (ci := 11) (v := .int (f_size S)) (C := "PageScribeModel") (T := F_Mo) (N := 45) hx hb hts i_Mo hown hK hP 0 mW_0 cl_11 4 (by decide) (hts _ k_6_164) (fun _ h9 => h9) (mg_size _ _) d_Mo_number_7 ?_
      refine lv_icmp_lt (tgt := 17) hx hb d_Mo_number_10 (by decide) (fun c10_1 => ?_) (fun c10_1 => ?_)
      · have fc10_1 : p0.toInt < (f_size S).toInt := zt_lt (show p0.toInt = _ from rfl) (show (f_size S).toInt = _ from rfl) c10_1
        refine lv_aload_n hx hb d_Mo_number_17 rfl (lv_at hl 0 rfl) ?_
        refine va_get (D := D) (ci := 11) (v := .ref (ar 0)) (C := "PageScribeModel") (T := F_Mo) (N := 45) hx hb hts i_Mo hown hK hP 0 mW_0 cl_11 1 (by decide) (hts _ k_6_161) (fun _ h9 => h9) (mg_kinds _ _) d_Mo_number_18 ?_
        refine lv_aload_n hx hb d_Mo_number_21 rfl (lv_at hl 0 rfl) ?_
        refine va_get (D := D) (ci := 11) (v := .int (f_size S)) (C := "PageScribeModel") (T := F_Mo) (N := 45) hx hb hts i_Mo hown hK hP 0 mW_0 cl_11 4 (by decide) (hts _ k_6_164) (fun _ h9 => h9) (mg_size _ _) d_Mo_number_22 ?_
        refine lv_iconst (v := 1) hx hb d_Mo_number_25 (by decide) ?_
        refine lv_isub hx hb d_Mo_number_26 ?_
        refine lv_topi (fun x7 ex7 => ?_)
        have fx7 : x7.toInt = ((f_size S).toInt - 1) := by rw [ex7]; exact (zt_sub (show (f_size S).toInt = _ from rfl) tI_1 (by omega) (by omega)).trans (by omega)
        refine lv_iload_n hx hb d_Mo_number_27 rfl (lv_at hl 1 rfl) ?_
        refine lv_isub hx hb d_Mo_number_28 ?_
        refine lv_topi (fun x8 ex8 => ?_)
        have fx8 : x8.toInt = ((f_size S).toInt - p0.toInt - 1) := by rw [ex8]; exact (zt_sub fx7 (show p0.toInt = _ from rfl) (by omega) (by omega)).trans (by omega)
        refine va_iald hx hb hK hP 1 0 (ma_kinds _ _ _ _) rfl (zt_in fx8 (by omega) (by omega)) d_Mo_number_29 ?_
        refine lv_topi (fun x9 ex9 => ?_)
        have gx9 : x9 = (a_kinds S) ((f_size S).toInt - p0.toInt - 1).toNat := ex9.trans (congrArg _ (zt_ix fx8))
        have fx9 : x9.toInt = ((a_kinds S) ((f_size S).toInt - p0.toInt - 1).toNat).toInt := by rw [gx9]
        have kx9 : vOk ((a_kinds S) ((f_size S).toInt - p0.toInt - 1).toNat) ((a_codes S) ((f_size S).toInt - p0.toInt - 1).toNat) ((a_reals S) ((f_size S).toInt - p0.toInt - 1).toNat) := i_vals (((f_size S).toInt - p0.toInt - 1).toNat) (by omega)
        have rx9 := vk_rng kx9
        refine lv_iconst (v := 1) hx hb d_Mo_number_30 (by decide) ?_
        refine lv_icmp_ne (tgt := 38) hx hb d_Mo_number_31 (by decide) (fun c31_1 => ?_) (fun c31_1 => ?_)
        · first | have fc31_1 : x9.toInt < 1 := (by have := zt_ne (show x9.toInt = _ from rfl) tI_1 c31_1; omega) | have fc31_1 : 1 < x9.toInt := (by have := zt_ne (show x9.toInt = _ from rfl) tI_1 c31_1; omega) | skip
          refine lv_iconst (v := 0) hx hb d_Mo_number_38 (by decide) ?_
          exact key1 (0 : Int32) _ _ _ ⟨(show ((0 : Int32).toInt = 1 ∧ (p0.toInt < 0 ∨ (f_size S).toInt ≤ p0.toInt)) ∨ ((0 : Int32).toInt = 0 ∧ 0 ≤ p0.toInt ∧ p0.toInt < (f_size S).toInt) ∨ ((0 : Int32).toInt = 2 ∧ 0 ≤ p0.toInt ∧ p0.toInt < (f_size S).toInt) by have := tI_0; omega), hP, hD, hS, lv_sub hl [0, 1] rfl⟩
        · have fc31_1 : x9.toInt = 1 := zt_eq (show x9.toInt = _ from rfl) tI_1 c31_1
          refine lv_iconst (v := 2) hx hb d_Mo_number_34 (by decide) ?_
          refine lv_goto (tgt := 39) hx hb d_Mo_number_35 (by decide) ?_
          exact key1 (2 : Int32) _ _ _ ⟨(show ((2 : Int32).toInt = 1 ∧ (p0.toInt < 0 ∨ (f_size S).toInt ≤ p0.toInt)) ∨ ((2 : Int32).toInt = 0 ∧ 0 ≤ p0.toInt ∧ p0.toInt < (f_size S).toInt) ∨ ((2 : Int32).toInt = 2 ∧ 0 ≤ p0.toInt ∧ p0.toInt < (f_size S).toInt) by have := tI_2; omega), hP, hD, hS, lv_sub hl [0, 1] rfl⟩
      · have fc10_1 : (f_size S).toInt ≤ p0.toInt := Int.not_lt.mp (zt_nlt (show p0.toInt = _ from rfl) (show (f_size S).toInt = _ from rfl) c10_1)
        refine lv_iconst (v := 1) hx hb d_Mo_number_13 (by decide) ?_
        refine lv_goto (tgt := 39) hx hb d_Mo_number_14 (by decide) ?_
        exact key1 (1 : Int32) _ _ _ ⟨(show ((1 : Int32).toInt = 1 ∧ (p0.toInt < 0 ∨ (f_size S).toInt ≤ p0.toInt)) ∨ ((1 : Int32).toInt = 0 ∧ 0 ≤ p0.toInt ∧ p0.toInt < (f_size S).toInt) ∨ ((1 : Int32).toInt = 2 ∧ 0 ≤ p0.toInt ∧ p0.toInt < (f_size S).toInt) by have := tI_1; omega), hP, hD, hS, lv_sub hl [0, 1] rfl⟩
theorem d_Mo_real_0 : decode prog_15_method_82_code 0 = .ok (.aload_n 0, 1) := by decide +kernel
theorem d_Mo_real_37 : decode prog_15_method_82_code 37 = .ok (.putfield 242, 3) := by decide +kernel
theorem d_Mo_real_40 : decode prog_15_method_82_code 40 = .ok (.aload_n 0, 1) := by decide +kernel
theorem d_Mo_real_41 : decode prog_15_method_82_code 41 = .ok (.getfield 242, 3) := by decide +kernel
theorem d_Mo_real_44 : decode prog_15_method_82_code 44 = .ok (.ifCond .le 7, 3) := by decide +kernel
theorem d_Mo_real_51 : decode prog_15_method_82_code 51 = .ok (.aload_n 0, 1) := by decide +kernel
theorem d_Mo_real_52 : decode prog_15_method_82_code 52 = .ok (.aload_n 0, 1) := by decide +kernel
theorem d_Mo_real_53 : decode prog_15_method_82_code 53 = .ok (.getfield 247, 3) := by decide +kernel
theorem d_Mo_real_56 : decode prog_15_method_82_code 56 = .ok (.iconst 1, 1) := by decide +kernel
theorem d_Mo_real_57 : decode prog_15_method_82_code 57 = .ok (.isub, 1) := by decide +kernel
theorem d_Mo_real_58 : decode prog_15_method_82_code 58 = .ok (.iload_n 1, 1) := by decide +kernel
theorem d_Mo_real_59 : decode prog_15_method_82_code 59 = .ok (.isub, 1) := by decide +kernel
theorem d_Mo_real_60 : decode prog_15_method_82_code 60 = .ok (.invokevirtual 473, 3) := by decide +kernel
theorem d_Mo_real_63 : decode prog_15_method_82_code 63 = .ok (.dreturn, 1) := by decide +kernel
theorem d_Mo_real_47 : decode prog_15_method_82_code 47 = .ok (.dconst 0, 1) := by decide +kernel
theorem d_Mo_real_48 : decode prog_15_method_82_code 48 = .ok (.goto 15, 3) := by decide +kernel
theorem d_Mo_real_1 : decode prog_15_method_82_code 1 = .ok (.iload_n 1, 1) := by decide +kernel
theorem d_Mo_real_2 : decode prog_15_method_82_code 2 = .ok (.ifCond .lt 11, 3) := by decide +kernel
theorem d_Mo_real_13 : decode prog_15_method_82_code 13 = .ok (.iconst 1, 1) := by decide +kernel
theorem d_Mo_real_14 : decode prog_15_method_82_code 14 = .ok (.goto 23, 3) := by decide +kernel
theorem d_Mo_real_5 : decode prog_15_method_82_code 5 = .ok (.iload_n 1, 1) := by decide +kernel
theorem d_Mo_real_6 : decode prog_15_method_82_code 6 = .ok (.aload_n 0, 1) := by decide +kernel
theorem d_Mo_real_7 : decode prog_15_method_82_code 7 = .ok (.getfield 247, 3) := by decide +kernel
theorem d_Mo_real_10 : decode prog_15_method_82_code 10 = .ok (.if_icmp .lt 7, 3) := by decide +kernel
theorem d_Mo_real_17 : decode prog_15_method_82_code 17 = .ok (.aload_n 0, 1) := by decide +kernel
theorem d_Mo_real_18 : decode prog_15_method_82_code 18 = .ok (.aload_n 0, 1) := by decide +kernel
theorem d_Mo_real_19 : decode prog_15_method_82_code 19 = .ok (.getfield 247, 3) := by decide +kernel
theorem d_Mo_real_22 : decode prog_15_method_82_code 22 = .ok (.iconst 1, 1) := by decide +kernel
theorem d_Mo_real_23 : decode prog_15_method_82_code 23 = .ok (.isub, 1) := by decide +kernel
theorem d_Mo_real_24 : decode prog_15_method_82_code 24 = .ok (.iload_n 1, 1) := by decide +kernel
theorem d_Mo_real_25 : decode prog_15_method_82_code 25 = .ok (.isub, 1) := by decide +kernel
theorem d_Mo_real_26 : decode prog_15_method_82_code 26 = .ok (.invokevirtual 418, 3) := by decide +kernel
theorem d_Mo_real_29 : decode prog_15_method_82_code 29 = .ok (.ifCond .ne 7, 3) := by decide +kernel
theorem d_Mo_real_36 : decode prog_15_method_82_code 36 = .ok (.iconst 0, 1) := by decide +kernel
theorem d_Mo_real_32 : decode prog_15_method_82_code 32 = .ok (.iconst 2, 1) := by decide +kernel
theorem d_Mo_real_33 : decode prog_15_method_82_code 33 = .ok (.goto 4, 3) := by decide +kernel
set_option maxHeartbeats 4000000 in
set_option maxRecDepth 100000 in
theorem m_real (l : Launch) (D : va_G) (T : Nat → ClassId) (h0 : Nat) (ar : Nat → Nat) (S : MS) (p0 : Int32) (sz : Nat) (hI : MI S) : Met l ⟨"PageScribeModel", "real", "(I)D"⟩ (wy ⟨"PageScribeModel", "real", "(I)D"⟩ prog_15_method_82_code 2 (some .double)) ({ frames := 1, cells := 0, slots := 0, locals := 70 }) (va_Pc [.ref h0, .int p0] (Pw D T (mW T h0 ar S) sz E0)) (va_Qd (fun (r : UInt64) (u : MS) => MI u ∧ kA S u ∧ kF S u) (fun u t => Bw D T (va_A (mW T h0 ar S) sz) (mW T h0 ar u) t) (va_A (mW T h0 ar S) sz)) 0 0 (va_A (mW T h0 ar S) sz) := by
  refine j_met (y := ⟨"PageScribeModel", "real", "(I)D"⟩) (b := prog_15_method_82_code) (n := 2) (ret := (some .double)) (av := [.ref h0, .int p0]) (Qc := fun A => va_Qd (fun (r : UInt64) (u : MS) => MI u ∧ kA S u ∧ kF S u) (fun u t => Bw D T A (mW T h0 ar u) t) A) (by decide +kernel) (Nat.le_of_ble_eq_true rfl) (fun p e s m args below meth c A ls F hr hlocks hnm hK hP hD hS hA hN hE hl => ?_)
  obtain ⟨hx, hb, hml, hown, hts⟩ := id F
  have hl : lv_has ls 2 [(0, .ref h0), (1, .int p0)] := hl
  obtain ⟨i_size, i_taken, i_vals, i_room, i_dicts, i_deep, i_open, i_cells, i_points, i_part, i_length, i_knows, i_page, i_text, i_pats, i_fuel, i_fr, i_ink⟩ := id hI
  refine lv_aload_n hx hb d_Mo_real_0 rfl (lv_at hl 0 rfl) ?_
  refine j_joinH (α := Int32) (fun x H locs ls => ((x.toInt = 1 ∧ (p0.toInt < 0 ∨ (f_size S).toInt ≤ p0.toInt)) ∨ (x.toInt = 0 ∧ 0 ≤ p0.toInt ∧ p0.toInt < (f_size S).toInt) ∨ (x.toInt = 2 ∧ 0 ≤ p0.toInt ∧ p0.toInt < (f_size S).toInt)) ∧ va_P D classes (mW T h0 ar S) H ∧ va_D A (mW T h0 ar S) ∧ va_S A s.heap H locs ∧ lv_has ls 2 [(0, .ref h0), (1, .int p0)]) (fun x ls => F0 m 37 ls (.int x :: [.ref h0])) (fun x H locs ls hI9 => ?_) (fun key1 => ?_)
  · obtain ⟨j1, rfl⟩ : ∃ z, z = x := ⟨_, rfl⟩
    obtain ⟨hj1, hP, hD, hS, hl⟩ := hI9
    have hj1 : (j1.toInt = 1 ∧ (p0.toInt < 0 ∨ (f_size S).toInt ≤ p0.toInt)) ∨ (j1.toInt = 0 ∧ 0 ≤ p0.toInt ∧ p0.toInt < (f_size S).toInt) ∨ (j1.toInt = 2 ∧ 0 ≤ p0.toInt ∧ p0.toInt < (f_size S).toInt) := hj1
    have hP : va_P D classes (mW T h0 ar S) H := hP
    have hD : va_D A (mW T h0 ar S) := hD
    have hl : lv_has ls 2 [(0, .ref h0), (1, .int p0)] := hl
    refine va_put (D := D) (ci := 11) (v := .int j1) (ty := .int) (C := "PageScribeModel") (T := F_Mo) (N := 45) hx hb hts i_Mo t_Mo t_Mo_ok n_Mo hown hK hP hD hS 0 mW_0 cl_11 0 (by decide) (hts _ k_6_160) (fun _ h9 => h9) rfl (by decide +kernel) rfl rfl (Nat.le_of_ble_eq_true rfl) d_Mo_real_37 (fun H locs hP hD hS => ?_)
    rw [mp_thrown] at hP hD
    have hP : va_P D classes (mW T h0 ar (((j1, (a_kinds S), (a_codes S), (a_reals S), (f_size S), (f_taken S), (a_words S), (a_many S)), S.2.1, S.2.2.1, S.2.2.2.1, S.2.2.2.2.1, S.2.2.2.2.2) : MS)) H := hP
    have hD : va_D A (mW T h0 ar (((j1, (a_kinds S), (a_codes S), (a_reals S), (f_size S), (f_taken S), (a_words S), (a_many S)), S.2.1, S.2.2.1, S.2.2.2.1, S.2.2.2.2.1, S.2.2.2.2.2) : MS)) := hD
    refine lv_aload_n hx hb d_Mo_real_40 rfl (lv_at hl 0 rfl) ?_
    refine va_get (D := D) (ci := 11) (v := .int j1) (C := "PageScribeModel") (T := F_Mo) (N := 45) hx hb hts i_Mo hown hK hP 0 mW_0 cl_11 0 (by decide) (hts _ k_6_160) (fun _ h9 => h9) (mg_thrown _ _) d_Mo_real_41 ?_
    refine lv_if_le (tgt := 51) hx hb d_Mo_real_44 (by decide) (fun c44_1 => ?_) (fun c44_1 => ?_)
    · have fc44_1 : j1.toInt ≤ 0 := zt_le (show j1.toInt = _ from rfl) tI_0 c44_1
      refine lv_aload_n hx hb d_Mo_real_51 rfl (lv_at hl 0 rfl) ?_
      refine lv_aload_n hx hb d_Mo_real_52 rfl (lv_at hl 0 rfl) ?_
      refine va_get (D := D) (ci := 11) (v := .int (f_size S)) (C := "PageScribeModel") (T := F_Mo) (N := 45) hx hb hts i_Mo hown hK hP 0 mW_0 cl_11 4 (by decide) (hts _ k_6_164) (fun _ h9 => h9) (mg_size _ _) d_Mo_real_53 ?_
      refine lv_iconst (v := 1) hx hb d_Mo_real_56 (by decide) ?_
      refine lv_isub hx hb d_Mo_real_57 ?_
      refine lv_topi (fun x1 ex1 => ?_)
      have fx1 : x1.toInt = ((f_size S).toInt - 1) := by rw [ex1]; exact (zt_sub (show (f_size S).toInt = _ from rfl) tI_1 (by omega) (by omega)).trans (by omega)
      refine lv_iload_n hx hb d_Mo_real_58 rfl (lv_at hl 1 rfl) ?_
      refine lv_isub hx hb d_Mo_real_59 ?_
      refine lv_topi (fun x2 ex2 => ?_)
      have fx2 : x2.toInt = ((f_size S).toInt - p0.toInt - 1) := by rw [ex2]; exact (zt_sub fx1 (show p0.toInt = _ from rfl) (by omega) (by omega)).trans (by omega)
      have kv1 : vOk ((a_kinds S) (((f_size S).toInt - p0.toInt - 1).toNat)) ((a_codes S) (((f_size S).toInt - p0.toInt - 1).toNat)) ((a_reals S) (((f_size S).toInt - p0.toInt - 1).toNat)) := i_vals (((f_size S).toInt - p0.toInt - 1).toNat) (by omega)
      have rkv1 := vk_rng kv1
      refine jm_cd (w := (fun _ => (((j1, (a_kinds S), (a_codes S), (a_reals S), (f_size S), (f_taken S), (a_words S), (a_many S)), S.2.1, S.2.2.1, S.2.2.2.1, S.2.2.2.2.1, S.2.2.2.2.2) : MS))) hK hP hD hS hA (va_runV (As := [.int x2]) (rest := []) F (m_numberAt l D T h0 ar (((j1, (a_kinds S), (a_codes S), (a_reals S), (f_size S), (f_taken S), (a_words S), (a_many S)), S.2.1, S.2.2.1, S.2.2.2.1, S.2.2.2.2.1, S.2.2.2.2.2) : MS) x2 H.size ⟨i_size, i_taken, i_vals, i_room, i_dicts, i_deep, i_open, i_cells, i_points, i_part, i_length, i_knows, i_page, i_text, i_pats, i_fuel, i_fr, i_ink⟩ (show 0 ≤ x2.toInt ∧ x2.toInt < 1300 by first | omega | (simp only [fx2]; omega))) (j_cV (k := 1) (C := "PageScribeModel") hts k_7_207 k_1_12 k_7_204 k_7_206 k_0_110 (by decide +kernel) ⟨Nat.le_of_ble_eq_true rfl, Nat.le_of_ble_eq_true rfl⟩) (jm_pre hK hP hD) rfl rfl hl.1 rfl (lv_room (Nat.le_of_ble_eq_true rfl)) d_Mo_real_60 ⟨Nat.le_of_ble_eq_true rfl, Nat.le_of_ble_eq_true rfl⟩) (fun rv1 u1 H locs hw1 hP hD hS => ?_)
      have hP : va_P D classes (mW T h0 ar (((j1, (a_kinds S), (a_codes S), (a_reals S), (f_size S), (f_taken S), (a_words S), (a_many S)), S.2.1, S.2.2.1, S.2.2.2.1, S.2.2.2.2.1, S.2.2.2.2.2) : MS)) H := hP
      have hD : va_D A (mW T h0 ar (((j1, (a_kinds S), (a_codes S), (a_reals S), (f_size S), (f_taken S), (a_words S), (a_many S)), S.2.1, S.2.2.1, S.2.2.2.1, S.2.2.2.2.1, S.2.2.2.2.2) : MS)) := hD
      have qhw1 : dB rv1 := by simpa only [fx2] using hw1
      exact j_dret F hr hlocks hK hS (((j1, (a_kinds S), (a_codes S), (a_reals S), (f_size S), (f_taken S), (a_words S), (a_many S)), S.2.1, S.2.2.1, S.2.2.2.1, S.2.2.2.2.1, S.2.2.2.2.2) : MS) ⟨⟨i_size, i_taken, i_vals, i_room, i_dicts, i_deep, i_open, i_cells, i_points, i_part, i_length, i_knows, i_page, i_text, i_pats, i_fuel, i_fr, i_ink⟩, (kA_r S), (kF_r S)⟩ hP hD d_Mo_real_63
    · have fc44_1 : 0 < j1.toInt := Int.not_le.mp (zt_nle (show j1.toInt = _ from rfl) tI_0 c44_1)
      refine lv_dconst0 hx hb d_Mo_real_47 ?_
      have := tD_0
      refine lv_goto (tgt := 63) hx hb d_Mo_real_48 (by decide) ?_
      exact j_dret F hr hlocks hK hS (((j1, (a_kinds S), (a_codes S), (a_reals S), (f_size S), (f_taken S), (a_words S), (a_many S)), S.2.1, S.2.2.1, S.2.2.2.1, S.2.2.2.2.1, S.2.2.2.2.2) : MS) ⟨⟨i_size, i_taken, i_vals, i_room, i_dicts, i_deep, i_open, i_cells, i_points, i_part, i_length, i_knows, i_page, i_text, i_pats, i_fuel, i_fr, i_ink⟩, (kA_r S), (kF_r S)⟩ hP hD d_Mo_real_63
  · refine lv_iload_n hx hb d_Mo_real_1 rfl (lv_at hl 1 rfl) ?_
    refine lv_if_lt (tgt := 13) hx hb d_Mo_real_2 (by decide) (fun c2_1 => ?_) (fun c2_1 => ?_)
    · have fc2_1 : p0.toInt < 0 := zt_lt (show p0.toInt = _ from rfl) tI_0 c2_1
      refine lv_iconst (v := 1) hx hb d_Mo_real_13 (by decide) ?_
      refine lv_goto (tgt := 37) hx hb d_Mo_real_14 (by decide) ?_
      exact key1 (1 : Int32) _ _ _ ⟨(show ((1 : Int32).toInt = 1 ∧ (p0.toInt < 0 ∨ (f_size S).toInt ≤ p0.toInt)) ∨ ((1 : Int32).toInt = 0 ∧ 0 ≤ p0.toInt ∧ p0.toInt < (f_size S).toInt) ∨ ((1 : Int32).toInt = 2 ∧ 0 ≤ p0.toInt ∧ p0.toInt < (f_size S).toInt) by have := tI_1; omega), hP, hD, hS, lv_sub hl [0, 1] rfl⟩
    · have fc2_1 : 0 ≤ p0.toInt := Int.not_lt.mp (zt_nlt (show p0.toInt = _ from rfl) tI_0 c2_1)
      refine lv_iload_n hx hb d_Mo_real_5 rfl (lv_at hl 1 rfl) ?_
      refine lv_aload_n hx hb d_Mo_real_6 rfl (lv_at hl 0 rfl) ?_
      refine va_get (D := D) (ci := 11) (v := .int (f_size S)) (C := "PageScribeModel") (T := F_Mo) (N := 45) hx hb hts i_Mo hown hK hP 0 mW_0 cl_11 4 (by decide) (hts _ k_6_164) (fun _ h9 => h9) (mg_size _ _) d_Mo_real_7 ?_
      refine lv_icmp_lt (tgt := 17) hx hb d_Mo_real_10 (by decide) (fun c10_1 => ?_) (fun c10_1 => ?_)
      · have fc10_1 : p0.toInt < (f_size S).toInt := zt_lt (show p0.toInt = _ from rfl) (show (f_size S).toInt = _ from rfl) c10_1
        refine lv_aload_n hx hb d_Mo_real_17 rfl (lv_at hl 0 rfl) ?_
        refine lv_aload_n hx hb d_Mo_real_18 rfl (lv_at hl 0 rfl) ?_
        refine va_get (D := D) (ci := 11) (v := .int (f_size S)) (C := "PageScribeModel") (T := F_Mo) (N := 45) hx hb hts i_Mo hown hK hP 0 mW_0 cl_11 4 (by decide) (hts _ k_6_164) (fun _ h9 => h9) (mg_size _ _) d_Mo_real_19 ?_
        refine lv_iconst (v := 1) hx hb d_Mo_real_22 (by decide) ?_
        refine lv_isub hx hb d_Mo_real_23 ?_
        refine lv_topi (fun x3 ex3 => ?_)
        have fx3 : x3.toInt = ((f_size S).toInt - 1) := by rw [ex3]; exact (zt_sub (show (f_size S).toInt = _ from rfl) tI_1 (by omega) (by omega)).trans (by omega)
        refine lv_iload_n hx hb d_Mo_real_24 rfl (lv_at hl 1 rfl) ?_
        refine lv_isub hx hb d_Mo_real_25 ?_
        refine lv_topi (fun x4 ex4 => ?_)
        have fx4 : x4.toInt = ((f_size S).toInt - p0.toInt - 1) := by rw [ex4]; exact (zt_sub fx3 (show p0.toInt = _ from rfl) (by omega) (by omega)).trans (by omega)
        have kv2 : vOk ((a_kinds S) (((f_size S).toInt - p0.toInt - 1).toNat)) ((a_codes S) (((f_size S).toInt - p0.toInt - 1).toNat)) ((a_reals S) (((f_size S).toInt - p0.toInt - 1).toNat)) := i_vals (((f_size S).toInt - p0.toInt - 1).toNat) (by omega)
        have rkv2 := vk_rng kv2
        refine jm_ci (w := (fun _ => S)) hK hP hD hS hA (va_runV (As := [.int x4]) (rest := [.ref h0]) F (m_isNumber l D T h0 ar S x4 s.heap.size (show 0 ≤ x4.toInt ∧ x4.toInt < 1300 by first | omega | (simp only [fx4]; omega))) (j_cV (k := 1) (C := "PageScribeModel") hts k_7_166 k_1_12 k_7_163 k_7_165 k_0_100 (by decide +kernel) ⟨Nat.le_of_ble_eq_true rfl, Nat.le_of_ble_eq_true rfl⟩) (jm_pre hK hP hD) rfl rfl hl.1 rfl (lv_room (Nat.le_of_ble_eq_true rfl)) d_Mo_real_26 ⟨Nat.le_of_ble_eq_true rfl, Nat.le_of_ble_eq_true rfl⟩) (fun rv2 u2 H locs hw2 hP hD hS => ?_)
        have hP : va_P D classes (mW T h0 ar S) H := hP
        have hD : va_D A (mW T h0 ar S) := hD
        have qhw2 : (rv2.toInt = 1 ∧ ((a_kinds S) ((f_size S).toInt - p0.toInt - 1).toNat).toInt < 2) ∨ (rv2.toInt = 0 ∧ ¬ ((a_kinds S) ((f_size S).toInt - p0.toInt - 1).toNat).toInt < 2) := by simpa only [fx4] using hw2
        refine lv_if_ne (tgt := 36) hx hb d_Mo_real_29 (by decide) (fun c29_1 => ?_) (fun c29_1 => ?_)
        · first | have fc29_1 : rv2.toInt < 0 := (by have := zt_ne (show rv2.toInt = _ from rfl) tI_0 c29_1; omega) | have fc29_1 : 0 < rv2.toInt := (by have := zt_ne (show rv2.toInt = _ from rfl) tI_0 c29_1; omega) | skip
          refine lv_iconst (v := 0) hx hb d_Mo_real_36 (by decide) ?_
          exact key1 (0 : Int32) _ _ _ ⟨(show ((0 : Int32).toInt = 1 ∧ (p0.toInt < 0 ∨ (f_size S).toInt ≤ p0.toInt)) ∨ ((0 : Int32).toInt = 0 ∧ 0 ≤ p0.toInt ∧ p0.toInt < (f_size S).toInt) ∨ ((0 : Int32).toInt = 2 ∧ 0 ≤ p0.toInt ∧ p0.toInt < (f_size S).toInt) by have := tI_0; omega), hP, hD, hS, lv_sub hl [0, 1] rfl⟩
        · have fc29_1 : rv2.toInt = 0 := zt_eq (show rv2.toInt = _ from rfl) tI_0 c29_1
          refine lv_iconst (v := 2) hx hb d_Mo_real_32 (by decide) ?_
          refine lv_goto (tgt := 37) hx hb d_Mo_real_33 (by decide) ?_
          exact key1 (2 : Int32) _ _ _ ⟨(show ((2 : Int32).toInt = 1 ∧ (p0.toInt < 0 ∨ (f_size S).toInt ≤ p0.toInt)) ∨ ((2 : Int32).toInt = 0 ∧ 0 ≤ p0.toInt ∧ p0.toInt < (f_size S).toInt) ∨ ((2 : Int32).toInt = 2 ∧ 0 ≤ p0.toInt ∧ p0.toInt < (f_size S).toInt) by have := tI_2; omega), hP, hD, hS, lv_sub hl [0, 1] rfl⟩
      · have fc10_1 : (f_size S).toInt ≤ p0.toInt := Int.not_lt.mp (zt_nlt (show p0.toInt = _ from rfl) (show (f_size S).toInt = _ from rfl) c10_1)
        refine lv_iconst (v := 1) hx hb d_Mo_real_13 (by decide) ?_
        refine lv_goto (tgt := 37) hx hb d_Mo_real_14 (by decide) ?_
        exact key1 (1 : Int32) _ _ _ ⟨(show ((1 : Int32).toInt = 1 ∧ (p0.toInt < 0 ∨ (f_size S).toInt ≤ p0.toInt)) ∨ ((1 : Int32).toInt = 0 ∧ 0 ≤ p0.toInt ∧ p0.toInt < (f_size S).toInt) ∨ ((1 : Int32).toInt = 2 ∧ 0 ≤ p0.toInt ∧ p0.toInt < (f_size S).toInt) by have := tI_1; omega), hP, hD, hS, lv_sub hl [0, 1] rfl⟩
theorem zl_31 {x y : Int64} {z : Int32} (e : z = y.toInt32) (e2 : y = x &&& 31) : 0 ≤ z.toInt ∧ z.toInt ≤ 31 := by
  have h : y.toBitVec.toNat ≤ 31 := by
    rw [e2, Int64.toBitVec_and, BitVec.toNat_and]
    exact Nat.and_le_right
  have h2 : y.toInt = (y.toBitVec.toNat : Int) := by
    rw [← Int64.toInt_toBitVec, BitVec.toInt_eq_toNat_cond, if_pos (by omega)]
  rw [e, zt_l2i h2 (by omega) (by omega)]
  omega
theorem d_Mo_letter_0 : decode prog_15_method_83_code 0 = .ok (.aload_n 0, 1) := by decide +kernel
theorem d_Mo_letter_1 : decode prog_15_method_83_code 1 = .ok (.iconst 0, 1) := by decide +kernel
theorem d_Mo_letter_2 : decode prog_15_method_83_code 2 = .ok (.putfield 242, 3) := by decide +kernel
theorem d_Mo_letter_5 : decode prog_15_method_83_code 5 = .ok (.iload_n 1, 1) := by decide +kernel
theorem d_Mo_letter_6 : decode prog_15_method_83_code 6 = .ok (.ifCond .lt 31, 3) := by decide +kernel
theorem d_Mo_letter_37 : decode prog_15_method_83_code 37 = .ok (.iconst (-1), 1) := by decide +kernel
theorem d_Mo_letter_38 : decode prog_15_method_83_code 38 = .ok (.ireturn, 1) := by decide +kernel
theorem d_Mo_letter_9 : decode prog_15_method_83_code 9 = .ok (.iload_n 1, 1) := by decide +kernel
theorem d_Mo_letter_10 : decode prog_15_method_83_code 10 = .ok (.aload_n 0, 1) := by decide +kernel
theorem d_Mo_letter_11 : decode prog_15_method_83_code 11 = .ok (.getfield 247, 3) := by decide +kernel
theorem d_Mo_letter_14 : decode prog_15_method_83_code 14 = .ok (.if_icmp .ge 23, 3) := by decide +kernel
theorem d_Mo_letter_17 : decode prog_15_method_83_code 17 = .ok (.aload_n 0, 1) := by decide +kernel
theorem d_Mo_letter_18 : decode prog_15_method_83_code 18 = .ok (.aload_n 0, 1) := by decide +kernel
theorem d_Mo_letter_19 : decode prog_15_method_83_code 19 = .ok (.getfield 247, 3) := by decide +kernel
theorem d_Mo_letter_22 : decode prog_15_method_83_code 22 = .ok (.iconst 1, 1) := by decide +kernel
theorem d_Mo_letter_23 : decode prog_15_method_83_code 23 = .ok (.isub, 1) := by decide +kernel
theorem d_Mo_letter_24 : decode prog_15_method_83_code 24 = .ok (.iload_n 1, 1) := by decide +kernel
theorem d_Mo_letter_25 : decode prog_15_method_83_code 25 = .ok (.isub, 1) := by decide +kernel
theorem d_Mo_letter_26 : decode prog_15_method_83_code 26 = .ok (.invokevirtual 421, 3) := by decide +kernel
theorem d_Mo_letter_29 : decode prog_15_method_83_code 29 = .ok (.iconst 3, 1) := by decide +kernel
theorem d_Mo_letter_30 : decode prog_15_method_83_code 30 = .ok (.if_icmp .ne 7, 3) := by decide +kernel
theorem d_Mo_letter_33 : decode prog_15_method_83_code 33 = .ok (.iload_n 2, 1) := by decide +kernel
theorem d_Mo_letter_34 : decode prog_15_method_83_code 34 = .ok (.ifCond .ge 5, 3) := by decide +kernel
theorem d_Mo_letter_39 : decode prog_15_method_83_code 39 = .ok (.aload_n 0, 1) := by decide +kernel
theorem d_Mo_letter_40 : decode prog_15_method_83_code 40 = .ok (.getfield 13, 3) := by decide +kernel
theorem d_Mo_letter_43 : decode prog_15_method_83_code 43 = .ok (.aload_n 0, 1) := by decide +kernel
theorem d_Mo_letter_44 : decode prog_15_method_83_code 44 = .ok (.getfield 247, 3) := by decide +kernel
theorem d_Mo_letter_47 : decode prog_15_method_83_code 47 = .ok (.iconst 1, 1) := by decide +kernel
theorem d_Mo_letter_48 : decode prog_15_method_83_code 48 = .ok (.isub, 1) := by decide +kernel
theorem d_Mo_letter_49 : decode prog_15_method_83_code 49 = .ok (.iload_n 1, 1) := by decide +kernel
theorem d_Mo_letter_50 : decode prog_15_method_83_code 50 = .ok (.isub, 1) := by decide +kernel
theorem d_Mo_letter_51 : decode prog_15_method_83_code 51 = .ok (.laload, 1) := by decide +kernel
theorem d_Mo_letter_52 : decode prog_15_method_83_code 52 = .ok (.lstore_n 3, 1) := by decide +kernel
theorem d_Mo_letter_53 : decode prog_15_method_83_code 53 = .ok (.iload_n 2, 1) := by decide +kernel
theorem d_Mo_letter_54 : decode prog_15_method_83_code 54 = .ok (.lload_n 3, 1) := by decide +kernel
theorem d_Mo_letter_55 : decode prog_15_method_83_code 55 = .ok (.invokestatic 566, 3) := by decide +kernel
theorem d_Mo_letter_58 : decode prog_15_method_83_code 58 = .ok (.if_icmp .lt 5, 3) := by decide +kernel
theorem d_Mo_letter_63 : decode prog_15_method_83_code 63 = .ok (.lload_n 3, 1) := by decide +kernel
theorem d_Mo_letter_64 : decode prog_15_method_83_code 64 = .ok (.iconst 5, 1) := by decide +kernel
theorem d_Mo_letter_65 : decode prog_15_method_83_code 65 = .ok (.iload_n 2, 1) := by decide +kernel
theorem d_Mo_letter_66 : decode prog_15_method_83_code 66 = .ok (.imul, 1) := by decide +kernel
theorem d_Mo_letter_67 : decode prog_15_method_83_code 67 = .ok (.lshr, 1) := by decide +kernel
theorem d_Mo_letter_68 : decode prog_15_method_83_code 68 = .ok (.ldc2_w 493, 3) := by decide +kernel
theorem d_Mo_letter_71 : decode prog_15_method_83_code 71 = .ok (.land, 1) := by decide +kernel
theorem d_Mo_letter_72 : decode prog_15_method_83_code 72 = .ok (.l2i, 1) := by decide +kernel
theorem d_Mo_letter_73 : decode prog_15_method_83_code 73 = .ok (.istore 5, 2) := by decide +kernel
theorem d_Mo_letter_75 : decode prog_15_method_83_code 75 = .ok (.iload 5, 2) := by decide +kernel
theorem d_Mo_letter_77 : decode prog_15_method_83_code 77 = .ok (.bipush 27, 2) := by decide +kernel
theorem d_Mo_letter_79 : decode prog_15_method_83_code 79 = .ok (.if_icmp .ne 8, 3) := by decide +kernel
theorem d_Mo_letter_87 : decode prog_15_method_83_code 87 = .ok (.iload 5, 2) := by decide +kernel
theorem d_Mo_letter_89 : decode prog_15_method_83_code 89 = .ok (.bipush 28, 2) := by decide +kernel
theorem d_Mo_letter_91 : decode prog_15_method_83_code 91 = .ok (.if_icmp .ne 8, 3) := by decide +kernel
theorem d_Mo_letter_99 : decode prog_15_method_83_code 99 = .ok (.bipush 96, 2) := by decide +kernel
theorem d_Mo_letter_101 : decode prog_15_method_83_code 101 = .ok (.iload 5, 2) := by decide +kernel
theorem d_Mo_letter_103 : decode prog_15_method_83_code 103 = .ok (.iadd, 1) := by decide +kernel
theorem d_Mo_letter_104 : decode prog_15_method_83_code 104 = .ok (.ireturn, 1) := by decide +kernel
theorem d_Mo_letter_94 : decode prog_15_method_83_code 94 = .ok (.bipush 93, 2) := by decide +kernel
theorem d_Mo_letter_96 : decode prog_15_method_83_code 96 = .ok (.goto 8, 3) := by decide +kernel
theorem d_Mo_letter_82 : decode prog_15_method_83_code 82 = .ok (.bipush 91, 2) := by decide +kernel
theorem d_Mo_letter_84 : decode prog_15_method_83_code 84 = .ok (.goto 20, 3) := by decide +kernel
theorem d_Mo_letter_61 : decode prog_15_method_83_code 61 = .ok (.iconst (-1), 1) := by decide +kernel
theorem d_Mo_letter_62 : decode prog_15_method_83_code 62 = .ok (.ireturn, 1) := by decide +kernel
set_option maxHeartbeats 4000000 in
set_option maxRecDepth 100000 in
theorem m_letter (l : Launch) (D : va_G) (T : Nat → ClassId) (h0 : Nat) (ar : Nat → Nat) (S : MS) (p0 : Int32) (p1 : Int32) (sz : Nat) (hI : MI S) : Met l ⟨"PageScribeModel", "letter", "(II)I"⟩ (wy ⟨"PageScribeModel", "letter", "(II)I"⟩ prog_15_method_83_code 6 (some .int)) ({ frames := 1, cells := 0, slots := 0, locals := 70 }) (va_Pc [.ref h0, .int p0, .int p1] (Pw D T (mW T h0 ar S) sz E0)) (va_Qi (fun (r : Int32) (u : MS) => MI u ∧ kA S u ∧ kF S u) (fun u t => Bw D T (va_A (mW T h0 ar S) sz) (mW T h0 ar u) t) (va_A (mW T h0 ar S) sz)) 0 0 (va_A (mW T h0 ar S) sz) := by
  refine j_met (y := ⟨"PageScribeModel", "letter", "(II)I"⟩) (b := prog_15_method_83_code) (n := 6) (ret := (some .int)) (av := [.ref h0, .int p0, .int p1]) (Qc := fun A => va_Qi (fun (r : Int32) (u : MS) => MI u ∧ kA S u ∧ kF S u) (fun u t => Bw D T A (mW T h0 ar u) t) A) (by decide +kernel) (Nat.le_of_ble_eq_true rfl) (fun p e s m args below meth c A ls F hr hlocks hnm hK hP hD hS hA hN hE hl => ?_)
  obtain ⟨hx, hb, hml, hown, hts⟩ := id F
  have hl : lv_has ls 6 [(0, .ref h0), (1, .int p0), (2, .int p1)] := hl
  obtain ⟨i_size, i_taken, i_vals, i_room, i_dicts, i_deep, i_open, i_cells, i_points, i_part, i_length, i_knows, i_page, i_text, i_pats, i_fuel, i_fr, i_ink⟩ := id hI
  refine lv_aload_n hx hb d_Mo_letter_0 rfl (lv_at hl 0 rfl) ?_
  refine lv_iconst (v := 0) hx hb d_Mo_letter_1 (by decide) ?_
  refine va_put (D := D) (ci := 11) (v := .int 0) (ty := .int) (C := "PageScribeModel") (T := F_Mo) (N := 45) hx hb hts i_Mo t_Mo t_Mo_ok n_Mo hown hK hP hD hS 0 mW_0 cl_11 0 (by decide) (hts _ k_6_160) (fun _ h9 => h9) rfl (by decide +kernel) rfl rfl (Nat.le_of_ble_eq_true rfl) d_Mo_letter_2 (fun H locs hP hD hS => ?_)
  rw [mp_thrown] at hP hD
  have hP : va_P D classes (mW T h0 ar (((0, (a_kinds S), (a_codes S), (a_reals S), (f_size S), (f_taken S), (a_words S), (a_many S)), S.2.1, S.2.2.1, S.2.2.2.1, S.2.2.2.2.1, S.2.2.2.2.2) : MS)) H := hP
  have hD : va_D A (mW T h0 ar (((0, (a_kinds S), (a_codes S), (a_reals S), (f_size S), (f_taken S), (a_words S), (a_many S)), S.2.1, S.2.2.1, S.2.2.2.1, S.2.2.2.2.1, S.2.2.2.2.2) : MS)) := hD
  refine lv_iload_n hx hb d_Mo_letter_5 rfl (lv_at hl 1 rfl) ?_
  refine lv_if_lt (tgt := 37) hx hb d_Mo_letter_6 (by decide) (fun c6_1 => ?_) (fun c6_1 => ?_)
  · have fc6_1 : p0.toInt < 0 := zt_lt (show p0.toInt = _ from rfl) tI_0 c6_1
    refine lv_iconst (v := (-1)) hx hb d_Mo_letter_37 (by decide) ?_
    exact j_iret F hr hlocks hK hS (((0, (a_kinds S), (a_codes S), (a_reals S), (f_size S), (f_taken S), (a_words S), (a_many S)), S.2.1, S.2.2.1, S.2.2.2.1, S.2.2.2.2.1, S.2.2.2.2.2) : MS) ⟨⟨i_size, i_taken, i_vals, i_room, i_dicts, i_deep, i_open, i_cells, i_points, i_part, i_length, i_knows, i_page, i_text, i_pats, i_fuel, i_fr, i_ink⟩, (kA_r S), (kF_r S)⟩ hP hD d_Mo_letter_38
  · have fc6_1 : 0 ≤ p0.toInt := Int.not_lt.mp (zt_nlt (show p0.toInt = _ from rfl) tI_0 c6_1)
    refine lv_iload_n hx hb d_Mo_letter_9 rfl (lv_at hl 1 rfl) ?_
    refine lv_aload_n hx hb d_Mo_letter_10 rfl (lv_at hl 0 rfl) ?_
    refine va_get (D := D) (ci := 11) (v := .int (f_size S)) (C := "PageScribeModel") (T := F_Mo) (N := 45) hx hb hts i_Mo hown hK hP 0 mW_0 cl_11 4 (by decide) (hts _ k_6_164) (fun _ h9 => h9) (mg_size _ _) d_Mo_letter_11 ?_
    refine lv_icmp_ge (tgt := 37) hx hb d_Mo_letter_14 (by decide) (fun c14_1 => ?_) (fun c14_1 => ?_)
    · have fc14_1 : (f_size S).toInt ≤ p0.toInt := zt_le (show (f_size S).toInt = _ from rfl) (show p0.toInt = _ from rfl) c14_1
      refine lv_iconst (v := (-1)) hx hb d_Mo_letter_37 (by decide) ?_
      exact j_iret F hr hlocks hK hS (((0, (a_kinds S), (a_codes S), (a_reals S), (f_size S), (f_taken S), (a_words S), (a_many S)), S.2.1, S.2.2.1, S.2.2.2.1, S.2.2.2.2.1, S.2.2.2.2.2) : MS) ⟨⟨i_size, i_taken, i_vals, i_room, i_dicts, i_deep, i_open, i_cells, i_points, i_part, i_length, i_knows, i_page, i_text, i_pats, i_fuel, i_fr, i_ink⟩, (kA_r S), (kF_r S)⟩ hP hD d_Mo_letter_38
    · have fc14_1 : p0.toInt < (f_size S).toInt := Int.not_le.mp (zt_nle (show (f_size S).toInt = _ from rfl) (show p0.toInt = _ from rfl) c14_1)
      refine lv_aload_n hx hb d_Mo_letter_17 rfl (lv_at hl 0 rfl) ?_
      refine lv_aload_n hx hb d_Mo_letter_18 rfl (lv_at hl 0 rfl) ?_
      refine va_get (D := D) (ci := 11) (v := .int (f_size S)) (C := "PageScribeModel") (T := F_Mo) (N := 45) hx hb hts i_Mo hown hK hP 0 mW_0 cl_11 4 (by decide) (hts _ k_6_164) (fun _ h9 => h9) (mg_size _ _) d_Mo_letter_19 ?_
      refine lv_iconst (v := 1) hx hb d_Mo_letter_22 (by decide) ?_
      refine lv_isub hx hb d_Mo_letter_23 ?_
      refine lv_topi (fun x1 ex1 => ?_)
      have fx1 : x1.toInt = ((f_size S).toInt - 1) := by rw [ex1]; exact (zt_sub (show (f_size S).toInt = _ from rfl) tI_1 (by omega) (by omega)).trans (by omega)
      refine lv_iload_n hx hb d_Mo_letter_24 rfl (lv_at hl 1 rfl) ?_
      refine lv_isub hx hb d_Mo_letter_25 ?_
      refine lv_topi (fun x2 ex2 => ?_)
      have fx2 : x2.toInt = ((f_size S).toInt - p0.toInt - 1) := by rw [ex2]; exact (zt_sub fx1 (show p0.toInt = _ from rfl) (by omega) (by omega)).trans (by omega)
      have kv1 : vOk ((a_kinds S) (((f_size S).toInt - p0.toInt - 1).toNat)) ((a_codes S) (((f_size S).toInt - p0.toInt - 1).toNat)) ((a_reals S) (((f_size S).toInt - p0.toInt - 1).toNat)) := i_vals (((f_size S).toInt - p0.toInt - 1).toNat) (by omega)
      have rkv1 := vk_rng kv1
      refine jm_ci (w := (fun _ => (((0, (a_kinds S), (a_codes S), (a_reals S), (f_size S), (f_taken S), (a_words S), (a_many S)), S.2.1, S.2.2.1, S.2.2.2.1, S.2.2.2.2.1, S.2.2.2.2.2) : MS))) hK hP hD hS hA (va_runV (As := [.int x2]) (rest := []) F (m_kindOf l D T h0 ar (((0, (a_kinds S), (a_codes S), (a_reals S), (f_size S), (f_taken S), (a_words S), (a_many S)), S.2.1, S.2.2.1, S.2.2.2.1, S.2.2.2.2.1, S.2.2.2.2.2) : MS) x2 H.size (show 0 ≤ x2.toInt ∧ x2.toInt < 1300 by have := tI_0; first | omega | (simp only [fx2]; omega)) (show 0 ≤ ((a_kinds S) x2.toInt.toNat).toInt by have := tI_0; first | omega | (simp only [fx2]; omega))) (j_cV (k := 1) (C := "PageScribeModel") hts k_7_174 k_1_12 k_7_171 k_7_173 k_0_102 (by decide +kernel) ⟨Nat.le_of_ble_eq_true rfl, Nat.le_of_ble_eq_true rfl⟩) (jm_pre hK hP hD) rfl rfl hl.1 rfl (lv_room (Nat.le_of_ble_eq_true rfl)) d_Mo_letter_26 ⟨Nat.le_of_ble_eq_true rfl, Nat.le_of_ble_eq_true rfl⟩) (fun rv1 u1 H locs hw1 hP hD hS => ?_)
      have hP : va_P D classes (mW T h0 ar (((0, (a_kinds S), (a_codes S), (a_reals S), (f_size S), (f_taken S), (a_words S), (a_many S)), S.2.1, S.2.2.1, S.2.2.2.1, S.2.2.2.2.1, S.2.2.2.2.2) : MS)) H := hP
      have hD : va_D A (mW T h0 ar (((0, (a_kinds S), (a_codes S), (a_reals S), (f_size S), (f_taken S), (a_words S), (a_many S)), S.2.1, S.2.2.1, S.2.2.2.1, S.2.2.2.2.1, S.2.2.2.2.2) : MS)) := hD
      have qhw1 : rv1.toInt = ((a_kinds S) ((f_size S).toInt - p0.toInt - 1).toNat).toInt % 8 := by simpa only [fx2, tI_0] using hw1
      refine lv_iconst (v := 3) hx hb d_Mo_letter_29 (by decide) ?_
      refine lv_icmp_ne (tgt := 37) hx hb d_Mo_letter_30 (by decide) (fun c30_1 => ?_) (fun c30_1 => ?_)
      · first | have fc30_1 : rv1.toInt < 3 := (by have := zt_ne (show rv1.toInt = _ from rfl) tI_3 c30_1; omega) | have fc30_1 : 3 < rv1.toInt := (by have := zt_ne (show rv1.toInt = _ from rfl) tI_3 c30_1; omega) | skip
        refine lv_iconst (v := (-1)) hx hb d_Mo_letter_37 (by decide) ?_
        exact j_iret F hr hlocks hK hS (((0, (a_kinds S), (a_codes S), (a_reals S), (f_size S), (f_taken S), (a_words S), (a_many S)), S.2.1, S.2.2.1, S.2.2.2.1, S.2.2.2.2.1, S.2.2.2.2.2) : MS) ⟨⟨i_size, i_taken, i_vals, i_room, i_dicts, i_deep, i_open, i_cells, i_points, i_part, i_length, i_knows, i_page, i_text, i_pats, i_fuel, i_fr, i_ink⟩, (kA_r S), (kF_r S)⟩ hP hD d_Mo_letter_38
      · have fc30_1 : rv1.toInt = 3 := zt_eq (show rv1.toInt = _ from rfl) tI_3 c30_1
        refine lv_iload_n hx hb d_Mo_letter_33 rfl (lv_at hl 2 rfl) ?_
        refine lv_if_ge (tgt := 39) hx hb d_Mo_letter_34 (by decide) (fun c34_1 => ?_) (fun c34_1 => ?_)
        · have fc34_1 : 0 ≤ p1.toInt := zt_le tI_0 (show p1.toInt = _ from rfl) c34_1
          refine lv_aload_n hx hb d_Mo_letter_39 rfl (lv_at hl 0 rfl) ?_
          refine va_get (D := D) (ci := 11) (v := .ref (ar 1)) (C := "PageScribeModel") (T := F_Mo) (N := 45) hx hb hts i_Mo hown hK hP 0 mW_0 cl_11 2 (by decide) (hts _ k_6_162) (fun _ h9 => h9) (mg_codes _ _) d_Mo_letter_40 ?_
          refine lv_aload_n hx hb d_Mo_letter_43 rfl (lv_at hl 0 rfl) ?_
          refine va_get (D := D) (ci := 11) (v := .int (f_size S)) (C := "PageScribeModel") (T := F_Mo) (N := 45) hx hb hts i_Mo hown hK hP 0 mW_0 cl_11 4 (by decide) (hts _ k_6_164) (fun _ h9 => h9) (mg_size _ _) d_Mo_letter_44 ?_
          refine lv_iconst (v := 1) hx hb d_Mo_letter_47 (by decide) ?_
          refine lv_isub hx hb d_Mo_letter_48 ?_
          refine j_eqi (y := x1) ex1.symm ?_
          refine lv_iload_n hx hb d_Mo_letter_49 rfl (lv_at hl 1 rfl) ?_
          refine lv_isub hx hb d_Mo_letter_50 ?_
          refine j_eqi (y := x2) ex2.symm ?_
          refine va_lald hx hb hK hP 2 1 (ma_codes _ _ _ _) rfl (zt_in fx2 (by omega) (by omega)) d_Mo_letter_51 ?_
          refine lv_topl (fun x3 ex3 => ?_)
          have gx3 : x3 = (a_codes S) ((f_size S).toInt - p0.toInt - 1).toNat := ex3.trans (congrArg _ (zt_ix fx2))
          have fx3 : x3.toInt = ((a_codes S) ((f_size S).toInt - p0.toInt - 1).toNat).toInt := by rw [gx3]
          have kx3 : vOk ((a_kinds S) ((f_size S).toInt - p0.toInt - 1).toNat) ((a_codes S) ((f_size S).toInt - p0.toInt - 1).toNat) ((a_reals S) ((f_size S).toInt - p0.toInt - 1).toNat) := i_vals (((f_size S).toInt - p0.toInt - 1).toNat) (by omega)
          refine lv_lstore_n (lv' := [(3, .long x3), (0, .ref h0), (1, .int p0), (2, .int p1)]) hx hb d_Mo_letter_52 rfl hl (by decide) rfl (fun ls hl => ?_)
          refine lv_iload_n hx hb d_Mo_letter_53 rfl (lv_at hl 3 rfl) ?_
          refine lv_lload_n hx hb d_Mo_letter_54 rfl (lv_at hl 0 rfl) ?_
          refine j_ci (wc := []) (wr := (mW T h0 ar (((0, (a_kinds S), (a_codes S), (a_reals S), (f_size S), (f_taken S), (a_words S), (a_many S)), S.2.1, S.2.2.1, S.2.2.2.1, S.2.2.2.2.1, S.2.2.2.2.2) : MS))) hK hP hD hS hA [] isc rfl isc_all isc_nd (fun _ _ => List.not_mem_nil) (va_runS (As := [.long x3]) (rest := [.int p1]) F (m_letters l D T x3 H.size) (j_cS (k := 1) hts k_8_148 k_1_12 k_8_146 k_8_147 (by decide +kernel) ⟨Nat.le_of_ble_eq_true rfl, Nat.le_of_ble_eq_true rfl⟩) (j_preS hK hP hD [] rfl (by decide) (fun _ _ _ _ h => h) (fun _ _ _ => trivial)) rfl rfl hl.1 rfl (lv_room (Nat.le_of_ble_eq_true rfl)) d_Mo_letter_55 ⟨Nat.le_of_ble_eq_true rfl, Nat.le_of_ble_eq_true rfl⟩) (fun rv2 u2 H locs hw2 hP hD hS => ?_)
          have hP : va_P D classes (mW T h0 ar (((0, (a_kinds S), (a_codes S), (a_reals S), (f_size S), (f_taken S), (a_words S), (a_many S)), S.2.1, S.2.2.1, S.2.2.2.1, S.2.2.2.2.1, S.2.2.2.2.2) : MS)) H := hP
          have hD : va_D A (mW T h0 ar (((0, (a_kinds S), (a_codes S), (a_reals S), (f_size S), (f_taken S), (a_words S), (a_many S)), S.2.1, S.2.2.1, S.2.2.2.1, S.2.2.2.2.1, S.2.2.2.2.2) : MS)) := hD
          have qhw2 : 0 ≤ rv2.toInt ∧ rv2.toInt ≤ 12 := by simpa only [tI_0] using hw2
          refine lv_icmp_lt (tgt := 63) hx hb d_Mo_letter_58 (by decide) (fun c58_1 => ?_) (fun c58_1 => ?_)
          · have fc58_1 : p1.toInt < rv2.toInt := zt_lt (show p1.toInt = _ from rfl) (show rv2.toInt = _ from rfl) c58_1
            refine lv_lload_n hx hb d_Mo_letter_63 rfl (lv_at hl 0 rfl) ?_
            refine lv_iconst (v := 5) hx hb d_Mo_letter_64 (by decide) ?_
            refine lv_iload_n hx hb d_Mo_letter_65 rfl (lv_at hl 3 rfl) ?_
            refine lv_imul hx hb d_Mo_letter_66 ?_
            refine lv_topi (fun x4 ex4 => ?_)
            refine lv_lshr (v := (x3 >>> ((x4 : Int32).toInt64 &&& 63))) hx hb d_Mo_letter_67 rfl ?_
            refine lv_topl (fun x5 ex5 => ?_)
            refine lv_ldc2 (v := (31)) hx hb hown (hts _ k_7_239) d_Mo_letter_68 ?_
            refine lv_land hx hb d_Mo_letter_71 ?_
            refine lv_topl (fun x6 ex6 => ?_)
            try have fx6 : x6.toInt = x5.toInt % 32 := by rw [ex6]; exact zu_mod (k := 5) (show x5.toInt = _ from rfl) tJ_31 (by decide) (by decide) (by omega)
            refine lv_l2i (v := (x6).toInt32) hx hb d_Mo_letter_72 rfl ?_
            refine lv_topi (fun x7 ex7 => ?_)
            have wx7 := zt_rng x7
            have fx7 := zl_31 ex7 ex6
            refine lv_istore (lv' := [(5, .int x7), (3, .long x3), (0, .ref h0), (1, .int p0), (2, .int p1)]) hx hb d_Mo_letter_73 hl (by decide) rfl (fun ls hl => ?_)
            refine lv_iload hx hb d_Mo_letter_75 (lv_at hl 0 rfl) ?_
            refine lv_bipush (v := 27) hx hb d_Mo_letter_77 (by decide) ?_
            refine lv_icmp_ne (tgt := 87) hx hb d_Mo_letter_79 (by decide) (fun c79_1 => ?_) (fun c79_1 => ?_)
            · first | have fc79_1 : x7.toInt < 27 := (by have := zt_ne (show x7.toInt = _ from rfl) tI_27 c79_1; omega) | have fc79_1 : 27 < x7.toInt := (by have := zt_ne (show x7.toInt = _ from rfl) tI_27 c79_1; omega) | skip
              refine lv_iload hx hb d_Mo_letter_87 (lv_at hl 0 rfl) ?_
              refine lv_bipush (v := 28) hx hb d_Mo_letter_89 (by decide) ?_
              refine lv_icmp_ne (tgt := 99) hx hb d_Mo_letter_91 (by decide) (fun c91_1 => ?_) (fun c91_1 => ?_)
              · first | have fc91_1 : x7.toInt < 28 := (by have := zt_ne (show x7.toInt = _ from rfl) tI_28 c91_1; omega) | have fc91_1 : 28 < x7.toInt := (by have := zt_ne (show x7.toInt = _ from rfl) tI_28 c91_1; omega) | skip
                refine lv_bipush (v := 96) hx hb d_Mo_letter_99 (by decide) ?_
                refine lv_iload hx hb d_Mo_letter_101 (lv_at hl 0 rfl) ?_
                refine lv_iadd hx hb d_Mo_letter_103 ?_
                refine lv_topi (fun x8 ex8 => ?_)
                have fx8 : x8.toInt = (x7.toInt + 96) := by rw [ex8]; exact (zt_add tI_96 (show x7.toInt = _ from rfl) (by omega) (by omega)).trans (by omega)
                exact j_iret F hr hlocks hK hS (((0, (a_kinds S), (a_codes S), (a_reals S), (f_size S), (f_taken S), (a_words S), (a_many S)), S.2.1, S.2.2.1, S.2.2.2.1, S.2.2.2.2.1, S.2.2.2.2.2) : MS) ⟨⟨i_size, i_taken, i_vals, i_room, i_dicts, i_deep, i_open, i_cells, i_points, i_part, i_length, i_knows, i_page, i_text, i_pats, i_fuel, i_fr, i_ink⟩, (kA_r S), (kF_r S)⟩ hP hD d_Mo_letter_104
              · have fc91_1 : x7.toInt = 28 := zt_eq (show x7.toInt = _ from rfl) tI_28 c91_1
                refine lv_bipush (v := 93) hx hb d_Mo_letter_94 (by decide) ?_
                refine lv_goto (tgt := 104) hx hb d_Mo_letter_96 (by decide) ?_
                exact j_iret F hr hlocks hK hS (((0, (a_kinds S), (a_codes S), (a_reals S), (f_size S), (f_taken S), (a_words S), (a_many S)), S.2.1, S.2.2.1, S.2.2.2.1, S.2.2.2.2.1, S.2.2.2.2.2) : MS) ⟨⟨i_size, i_taken, i_vals, i_room, i_dicts, i_deep, i_open, i_cells, i_points, i_part, i_length, i_knows, i_page, i_text, i_pats, i_fuel, i_fr, i_ink⟩, (kA_r S), (kF_r S)⟩ hP hD d_Mo_letter_104
            · have fc79_1 : x7.toInt = 27 := zt_eq (show x7.toInt = _ from rfl) tI_27 c79_1
              refine lv_bipush (v := 91) hx hb d_Mo_letter_82 (by decide) ?_
              refine lv_goto (tgt := 104) hx hb d_Mo_letter_84 (by decide) ?_
              exact j_iret F hr hlocks hK hS (((0, (a_kinds S), (a_codes S), (a_reals S), (f_size S), (f_taken S), (a_words S), (a_many S)), S.2.1, S.2.2.1, S.2.2.2.1, S.2.2.2.2.1, S.2.2.2.2.2) : MS) ⟨⟨i_size, i_taken, i_vals, i_room, i_dicts, i_deep, i_open, i_cells, i_points, i_part, i_length, i_knows, i_page, i_text, i_pats, i_fuel, i_fr, i_ink⟩, (kA_r S), (kF_r S)⟩ hP hD d_Mo_letter_104
          · have fc58_1 : rv2.toInt ≤ p1.toInt := Int.not_lt.mp (zt_nlt (show p1.toInt = _ from rfl) (show rv2.toInt = _ from rfl) c58_1)
            refine lv_iconst (v := (-1)) hx hb d_Mo_letter_61 (by decide) ?_
            exact j_iret F hr hlocks hK hS (((0, (a_kinds S), (a_codes S), (a_reals S), (f_size S), (f_taken S), (a_words S), (a_many S)), S.2.1, S.2.2.1, S.2.2.2.1, S.2.2.2.2.1, S.2.2.2.2.2) : MS) ⟨⟨i_size, i_taken, i_vals, i_room, i_dicts, i_deep, i_open, i_cells, i_points, i_part, i_length, i_knows, i_page, i_text, i_pats, i_fuel, i_fr, i_ink⟩, (kA_r S), (kF_r S)⟩ hP hD d_Mo_letter_62
        · have fc34_1 : p1.toInt < 0 := Int.not_le.mp (zt_nle tI_0 (show p1.toInt = _ from rfl) c34_1)
          refine lv_iconst (v := (-1)) hx hb d_Mo_letter_37 (by decide) ?_
          exact j_iret F hr hlocks hK hS (((0, (a_kinds S), (a_codes S), (a_reals S), (f_size S), (f_taken S), (a_words S), (a_many S)), S.2.1, S.2.2.1, S.2.2.2.1, S.2.2.2.2.1, S.2.2.2.2.2) : MS) ⟨⟨i_size, i_taken, i_vals, i_room, i_dicts, i_deep, i_open, i_cells, i_points, i_part, i_length, i_knows, i_page, i_text, i_pats, i_fuel, i_fr, i_ink⟩, (kA_r S), (kF_r S)⟩ hP hD d_Mo_letter_38
theorem d_Mo_used_0 : decode prog_15_method_84_code 0 = .ok (.aload_n 0, 1) := by decide +kernel
theorem d_Mo_used_1 : decode prog_15_method_84_code 1 = .ok (.iconst 0, 1) := by decide +kernel
theorem d_Mo_used_2 : decode prog_15_method_84_code 2 = .ok (.putfield 242, 3) := by decide +kernel
theorem d_Mo_used_5 : decode prog_15_method_84_code 5 = .ok (.iconst 0, 1) := by decide +kernel
theorem d_Mo_used_6 : decode prog_15_method_84_code 6 = .ok (.istore_n 2, 1) := by decide +kernel
theorem d_Mo_used_7 : decode prog_15_method_84_code 7 = .ok (.iconst 1, 1) := by decide +kernel
theorem d_Mo_used_8 : decode prog_15_method_84_code 8 = .ok (.istore_n 3, 1) := by decide +kernel
theorem d_Mo_used_9 : decode prog_15_method_84_code 9 = .ok (.iload_n 3, 1) := by decide +kernel
theorem d_Mo_used_10 : decode prog_15_method_84_code 10 = .ok (.bipush 7, 2) := by decide +kernel
theorem d_Mo_used_12 : decode prog_15_method_84_code 12 = .ok (.if_icmp .ge 26, 3) := by decide +kernel
theorem d_Mo_used_38 : decode prog_15_method_84_code 38 = .ok (.iload_n 1, 1) := by decide +kernel
theorem d_Mo_used_39 : decode prog_15_method_84_code 39 = .ok (.ifCond .ne 10, 3) := by decide +kernel
theorem d_Mo_used_49 : decode prog_15_method_84_code 49 = .ok (.iload_n 1, 1) := by decide +kernel
theorem d_Mo_used_50 : decode prog_15_method_84_code 50 = .ok (.iconst 1, 1) := by decide +kernel
theorem d_Mo_used_51 : decode prog_15_method_84_code 51 = .ok (.if_icmp .ne 7, 3) := by decide +kernel
theorem d_Mo_used_58 : decode prog_15_method_84_code 58 = .ok (.iload_n 1, 1) := by decide +kernel
theorem d_Mo_used_59 : decode prog_15_method_84_code 59 = .ok (.iconst 2, 1) := by decide +kernel
theorem d_Mo_used_60 : decode prog_15_method_84_code 60 = .ok (.if_icmp .ne 10, 3) := by decide +kernel
theorem d_Mo_used_70 : decode prog_15_method_84_code 70 = .ok (.iload_n 1, 1) := by decide +kernel
theorem d_Mo_used_71 : decode prog_15_method_84_code 71 = .ok (.iconst 3, 1) := by decide +kernel
theorem d_Mo_used_72 : decode prog_15_method_84_code 72 = .ok (.if_icmp .ne 10, 3) := by decide +kernel
theorem d_Mo_used_82 : decode prog_15_method_84_code 82 = .ok (.iload_n 1, 1) := by decide +kernel
theorem d_Mo_used_83 : decode prog_15_method_84_code 83 = .ok (.iconst 4, 1) := by decide +kernel
theorem d_Mo_used_84 : decode prog_15_method_84_code 84 = .ok (.if_icmp .ne 10, 3) := by decide +kernel
theorem d_Mo_used_94 : decode prog_15_method_84_code 94 = .ok (.iload_n 1, 1) := by decide +kernel
theorem d_Mo_used_95 : decode prog_15_method_84_code 95 = .ok (.iconst 5, 1) := by decide +kernel
theorem d_Mo_used_96 : decode prog_15_method_84_code 96 = .ok (.if_icmp .ne 10, 3) := by decide +kernel
theorem d_Mo_used_106 : decode prog_15_method_84_code 106 = .ok (.iload_n 1, 1) := by decide +kernel
theorem d_Mo_used_107 : decode prog_15_method_84_code 107 = .ok (.bipush 6, 2) := by decide +kernel
theorem d_Mo_used_109 : decode prog_15_method_84_code 109 = .ok (.if_icmp .ne 10, 3) := by decide +kernel
theorem d_Mo_used_119 : decode prog_15_method_84_code 119 = .ok (.iconst (-1), 1) := by decide +kernel
theorem d_Mo_used_120 : decode prog_15_method_84_code 120 = .ok (.ireturn, 1) := by decide +kernel
theorem d_Mo_used_112 : decode prog_15_method_84_code 112 = .ok (.aload_n 0, 1) := by decide +kernel
theorem d_Mo_used_113 : decode prog_15_method_84_code 113 = .ok (.getfield 270, 3) := by decide +kernel
theorem d_Mo_used_116 : decode prog_15_method_84_code 116 = .ok (.goto 4, 3) := by decide +kernel
theorem d_Mo_used_99 : decode prog_15_method_84_code 99 = .ok (.aload_n 0, 1) := by decide +kernel
theorem d_Mo_used_100 : decode prog_15_method_84_code 100 = .ok (.getfield 311, 3) := by decide +kernel
theorem d_Mo_used_103 : decode prog_15_method_84_code 103 = .ok (.goto 17, 3) := by decide +kernel
theorem d_Mo_used_87 : decode prog_15_method_84_code 87 = .ok (.aload_n 0, 1) := by decide +kernel
theorem d_Mo_used_88 : decode prog_15_method_84_code 88 = .ok (.getfield 547, 3) := by decide +kernel
theorem d_Mo_used_91 : decode prog_15_method_84_code 91 = .ok (.goto 29, 3) := by decide +kernel
theorem d_Mo_used_75 : decode prog_15_method_84_code 75 = .ok (.aload_n 0, 1) := by decide +kernel
theorem d_Mo_used_76 : decode prog_15_method_84_code 76 = .ok (.getfield 534, 3) := by decide +kernel
theorem d_Mo_used_79 : decode prog_15_method_84_code 79 = .ok (.goto 41, 3) := by decide +kernel
theorem d_Mo_used_63 : decode prog_15_method_84_code 63 = .ok (.aload_n 0, 1) := by decide +kernel
theorem d_Mo_used_64 : decode prog_15_method_84_code 64 = .ok (.getfield 33, 3) := by decide +kernel
theorem d_Mo_used_67 : decode prog_15_method_84_code 67 = .ok (.goto 53, 3) := by decide +kernel
theorem d_Mo_used_54 : decode prog_15_method_84_code 54 = .ok (.iload_n 2, 1) := by decide +kernel
theorem d_Mo_used_55 : decode prog_15_method_84_code 55 = .ok (.goto 65, 3) := by decide +kernel
theorem d_Mo_used_42 : decode prog_15_method_84_code 42 = .ok (.aload_n 0, 1) := by decide +kernel
theorem d_Mo_used_43 : decode prog_15_method_84_code 43 = .ok (.getfield 325, 3) := by decide +kernel
theorem d_Mo_used_46 : decode prog_15_method_84_code 46 = .ok (.goto 74, 3) := by decide +kernel
theorem d_Mo_used_15 : decode prog_15_method_84_code 15 = .ok (.iload_n 2, 1) := by decide +kernel
theorem d_Mo_used_30 : decode prog_15_method_84_code 30 = .ok (.iadd, 1) := by decide +kernel
theorem d_Mo_used_31 : decode prog_15_method_84_code 31 = .ok (.istore_n 2, 1) := by decide +kernel
theorem d_Mo_used_32 : decode prog_15_method_84_code 32 = .ok (.iinc 3 1, 3) := by decide +kernel
theorem d_Mo_used_35 : decode prog_15_method_84_code 35 = .ok (.goto (-26), 3) := by decide +kernel
theorem d_Mo_used_16 : decode prog_15_method_84_code 16 = .ok (.aload_n 0, 1) := by decide +kernel
theorem d_Mo_used_17 : decode prog_15_method_84_code 17 = .ok (.getfield 27, 3) := by decide +kernel
theorem d_Mo_used_20 : decode prog_15_method_84_code 20 = .ok (.iload_n 3, 1) := by decide +kernel
theorem d_Mo_used_21 : decode prog_15_method_84_code 21 = .ok (.iaload, 1) := by decide +kernel
theorem d_Mo_used_22 : decode prog_15_method_84_code 22 = .ok (.ifCond .le 7, 3) := by decide +kernel
theorem d_Mo_used_29 : decode prog_15_method_84_code 29 = .ok (.iconst 0, 1) := by decide +kernel
theorem d_Mo_used_25 : decode prog_15_method_84_code 25 = .ok (.iconst 1, 1) := by decide +kernel
theorem d_Mo_used_26 : decode prog_15_method_84_code 26 = .ok (.goto 4, 3) := by decide +kernel
set_option maxHeartbeats 4000000 in
set_option maxRecDepth 100000 in
theorem m_used (l : Launch) (D : va_G) (T : Nat → ClassId) (h0 : Nat) (ar : Nat → Nat) (S : MS) (p0 : Int32) (sz : Nat) (hI : MI S) : Met l ⟨"PageScribeModel", "used", "(I)I"⟩ (wy ⟨"PageScribeModel", "used", "(I)I"⟩ prog_15_method_84_code 4 (some .int)) ({ frames := 0, cells := 0, slots := 0, locals := 0 }) (va_Pc [.ref h0, .int p0] (Pw D T (mW T h0 ar S) sz E0)) (va_Qi (fun (r : Int32) (u : MS) => MI u ∧ kA S u ∧ kF S u) (fun u t => Bw D T (va_A (mW T h0 ar S) sz) (mW T h0 ar u) t) (va_A (mW T h0 ar S) sz)) 0 0 (va_A (mW T h0 ar S) sz) := by
  refine j_met (y := ⟨"PageScribeModel", "used", "(I)I"⟩) (b := prog_15_method_84_code) (n := 4) (ret := (some .int)) (av := [.ref h0, .int p0]) (Qc := fun A => va_Qi (fun (r : Int32) (u : MS) => MI u ∧ kA S u ∧ kF S u) (fun u t => Bw D T A (mW T h0 ar u) t) A) (by decide +kernel) (Nat.le_of_ble_eq_true rfl) (fun p e s m args below meth c A ls F hr hlocks hnm hK hP hD hS hA hN hE hl => ?_)
  obtain ⟨hx, hb, hml, hown, hts⟩ := id F
  have hl : lv_has ls 4 [(0, .ref h0), (1, .int p0)] := hl
  obtain ⟨i_size, i_taken, i_vals, i_room, i_dicts, i_deep, i_open, i_cells, i_points, i_part, i_length, i_knows, i_page, i_text, i_pats, i_fuel, i_fr, i_ink⟩ := id hI
  refine lv_aload_n hx hb d_Mo_used_0 rfl (lv_at hl 0 rfl) ?_
  refine lv_iconst (v := 0) hx hb d_Mo_used_1 (by decide) ?_
  refine va_put (D := D) (ci := 11) (v := .int 0) (ty := .int) (C := "PageScribeModel") (T := F_Mo) (N := 45) hx hb hts i_Mo t_Mo t_Mo_ok n_Mo hown hK hP hD hS 0 mW_0 cl_11 0 (by decide) (hts _ k_6_160) (fun _ h9 => h9) rfl (by decide +kernel) rfl rfl (Nat.le_of_ble_eq_true rfl) d_Mo_used_2 (fun H locs hP hD hS => ?_)
  rw [mp_thrown] at hP hD
  have hP : va_P D classes (mW T h0 ar (((0, (a_kinds S), (a_codes S), (a_reals S), (f_size S), (f_taken S), (a_words S), (a_many S)), S.2.1, S.2.2.1, S.2.2.2.1, S.2.2.2.2.1, S.2.2.2.2.2) : MS)) H := hP
  have hD : va_D A (mW T h0 ar (((0, (a_kinds S), (a_codes S), (a_reals S), (f_size S), (f_taken S), (a_words S), (a_many S)), S.2.1, S.2.2.1, S.2.2.2.1, S.2.2.2.2.1, S.2.2.2.2.2) : MS)) := hD
  refine lv_iconst (v := 0) hx hb d_Mo_used_5 (by decide) ?_
  refine lv_istore_n (lv' := [(2, .int 0), (0, .ref h0), (1, .int p0)]) hx hb d_Mo_used_6 rfl hl (by decide) rfl (fun ls hl => ?_)
  refine lv_iconst (v := 1) hx hb d_Mo_used_7 (by decide) ?_
  refine lv_istore_n (lv' := [(3, .int 1), (2, .int 0), (0, .ref h0), (1, .int p0)]) hx hb d_Mo_used_8 rfl hl (by decide) rfl (fun ls hl => ?_)
  refine j_loop (α := Int32 × Int32) (fun k x H locs ls => (1 ≤ x.2.toInt ∧ x.2.toInt ≤ 7 ∧ 7 ≤ x.2.toInt + ((k : Nat) : Int) ∧ 0 ≤ x.1.toInt ∧ x.1.toInt ≤ x.2.toInt) ∧ va_P D classes (mW T h0 ar (((0, (a_kinds S), (a_codes S), (a_reals S), (f_size S), (f_taken S), (a_words S), (a_many S)), S.2.1, S.2.2.1, S.2.2.2.1, S.2.2.2.2.1, S.2.2.2.2.2) : MS)) H ∧ va_D A (mW T h0 ar (((0, (a_kinds S), (a_codes S), (a_reals S), (f_size S), (f_taken S), (a_words S), (a_many S)), S.2.1, S.2.2.1, S.2.2.2.1, S.2.2.2.2.1, S.2.2.2.2.2) : MS)) ∧ va_S A s.heap H locs ∧ lv_has ls 4 [(3, .int x.2), (2, .int x.1), (0, .ref h0), (1, .int p0)]) (fun _ _ ls => F0 m 9 ls []) (fun k x H locs ls hI9 ih => ?_) 7 ((0 : Int32), (1 : Int32)) _ _ _ ⟨(show 1 ≤ (1 : Int32).toInt ∧ (1 : Int32).toInt ≤ 7 ∧ 7 ≤ (1 : Int32).toInt + ((7 : Nat) : Int) ∧ 0 ≤ (0 : Int32).toInt ∧ (0 : Int32).toInt ≤ (1 : Int32).toInt by have := tI_0; have := tI_1; have := tI_0; omega), hP, hD, hS, lv_sub hl [0, 1, 2, 3] rfl⟩
  obtain ⟨n, i⟩ := x
  obtain ⟨hf1, hP, hD, hS, hl⟩ := hI9
  have hf1 : 1 ≤ i.toInt ∧ i.toInt ≤ 7 ∧ 7 ≤ i.toInt + ((k : Nat) : Int) ∧ 0 ≤ n.toInt ∧ n.toInt ≤ i.toInt := hf1
  have hP : va_P D classes (mW T h0 ar (((0, (a_kinds S), (a_codes S), (a_reals S), (f_size S), (f_taken S), (a_words S), (a_many S)), S.2.1, S.2.2.1, S.2.2.2.1, S.2.2.2.2.1, S.2.2.2.2.2) : MS)) H := hP
  have hD : va_D A (mW T h0 ar (((0, (a_kinds S), (a_codes S), (a_reals S), (f_size S), (f_taken S), (a_words S), (a_many S)), S.2.1, S.2.2.1, S.2.2.2.1, S.2.2.2.2.1, S.2.2.2.2.2) : MS)) := hD
  have hl : lv_has ls 4 [(3, .int i), (2, .int n), (0, .ref h0), (1, .int p0)] := hl
  refine lv_iload_n hx hb d_Mo_used_9 rfl (lv_at hl 0 rfl) ?_
  refine lv_bipush (v := 7) hx hb d_Mo_used_10 (by decide) ?_
  refine lv_icmp_ge (tgt := 38) hx hb d_Mo_used_12 (by decide) (fun c12_1 => ?_) (fun c12_1 => ?_)
  · have fc12_1 : 7 ≤ i.toInt := zt_le tI_7 (show i.toInt = _ from rfl) c12_1
    refine lv_iload_n hx hb d_Mo_used_38 rfl (lv_at hl 3 rfl) ?_
    refine lv_if_ne (tgt := 49) hx hb d_Mo_used_39 (by decide) (fun c39_1 => ?_) (fun c39_1 => ?_)
    · first | have fc39_1 : p0.toInt < 0 := (by have := zt_ne (show p0.toInt = _ from rfl) tI_0 c39_1; omega) | have fc39_1 : 0 < p0.toInt := (by have := zt_ne (show p0.toInt = _ from rfl) tI_0 c39_1; omega) | skip
      refine lv_iload_n hx hb d_Mo_used_49 rfl (lv_at hl 3 rfl) ?_
      refine lv_iconst (v := 1) hx hb d_Mo_used_50 (by decide) ?_
      refine lv_icmp_ne (tgt := 58) hx hb d_Mo_used_51 (by decide) (fun c51_1 => ?_) (fun c51_1 => ?_)
      · first | have fc51_1 : p0.toInt < 1 := (by have := zt_ne (show p0.toInt = _ from rfl) tI_1 c51_1; omega) | have fc51_1 : 1 < p0.toInt := (by have := zt_ne (show p0.toInt = _ from rfl) tI_1 c51_1; omega) | skip
        refine lv_iload_n hx hb d_Mo_used_58 rfl (lv_at hl 3 rfl) ?_
        refine lv_iconst (v := 2) hx hb d_Mo_used_59 (by decide) ?_
        refine lv_icmp_ne (tgt := 70) hx hb d_Mo_used_60 (by decide) (fun c60_1 => ?_) (fun c60_1 => ?_)
        · first | have fc60_1 : p0.toInt < 2 := (by have := zt_ne (show p0.toInt = _ from rfl) tI_2 c60_1; omega) | have fc60_1 : 2 < p0.toInt := (by have := zt_ne (show p0.toInt = _ from rfl) tI_2 c60_1; omega) | skip
          refine lv_iload_n hx hb d_Mo_used_70 rfl (lv_at hl 3 rfl) ?_
          refine lv_iconst (v := 3) hx hb d_Mo_used_71 (by decide) ?_
          refine lv_icmp_ne (tgt := 82) hx hb d_Mo_used_72 (by decide) (fun c72_1 => ?_) (fun c72_1 => ?_)
          · first | have fc72_1 : p0.toInt < 3 := (by have := zt_ne (show p0.toInt = _ from rfl) tI_3 c72_1; omega) | have fc72_1 : 3 < p0.toInt := (by have := zt_ne (show p0.toInt = _ from rfl) tI_3 c72_1; omega) | skip
            refine lv_iload_n hx hb d_Mo_used_82 rfl (lv_at hl 3 rfl) ?_
            refine lv_iconst (v := 4) hx hb d_Mo_used_83 (by decide) ?_
            refine lv_icmp_ne (tgt := 94) hx hb d_Mo_used_84 (by decide) (fun c84_1 => ?_) (fun c84_1 => ?_)
            · first | have fc84_1 : p0.toInt < 4 := (by have := zt_ne (show p0.toInt = _ from rfl) tI_4 c84_1; omega) | have fc84_1 : 4 < p0.toInt := (by have := zt_ne (show p0.toInt = _ from rfl) tI_4 c84_1; omega) | skip
              refine lv_iload_n hx hb d_Mo_used_94 rfl (lv_at hl 3 rfl) ?_
              refine lv_iconst (v := 5) hx hb d_Mo_used_95 (by decide) ?_
              refine lv_icmp_ne (tgt := 106) hx hb d_Mo_used_96 (by decide) (fun c96_1 => ?_) (fun c96_1 => ?_)
              · first | have fc96_1 : p0.toInt < 5 := (by have := zt_ne (show p0.toInt = _ from rfl) tI_5 c96_1; omega) | have fc96_1 : 5 < p0.toInt := (by have := zt_ne (show p0.toInt = _ from rfl) tI_5 c96_1; omega) | skip
                refine lv_iload_n hx hb d_Mo_used_106 rfl (lv_at hl 3 rfl) ?_
                refine lv_bipush (v := 6) hx hb d_Mo_used_107 (by decide) ?_
                refine lv_icmp_ne (tgt := 119) hx hb d_Mo_used_109 (by decide) (fun c109_1 => ?_) (fun c109_1 => ?_)
                · first | have fc109_1 : p0.toInt < 6 := (by have := zt_ne (show p0.toInt = _ from rfl) tI_6 c109_1; omega) | have fc109_1 : 6 < p0.toInt := (by have := zt_ne (show p0.toInt = _ from rfl) tI_6 c109_1; omega) | skip
                  refine lv_iconst (v := (-1)) hx hb d_Mo_used_119 (by decide) ?_
                  exact j_iret F hr hlocks hK hS (((0, (a_kinds S), (a_codes S), (a_reals S), (f_size S), (f_taken S), (a_words S), (a_many S)), S.2.1, S.2.2.1, S.2.2.2.1, S.2.2.2.2.1, S.2.2.2.2.2) : MS) ⟨⟨i_size, i_taken, i_vals, i_room, i_dicts, i_deep, i_open, i_cells, i_points, i_part, i_length, i_knows, i_page, i_text, i_pats, i_fuel, i_fr, i_ink⟩, (kA_r S), (kF_r S)⟩ hP hD d_Mo_used_120
                · have fc109_1 : p0.toInt = 6 := zt_eq (show p0.toInt = _ from rfl) tI_6 c109_1
                  refine lv_aload_n hx hb d_Mo_used_112 rfl (lv_at hl 2 rfl) ?_
                  refine va_get (D := D) (ci := 11) (v := .int (f_length S)) (C := "PageScribeModel") (T := F_Mo) (N := 45) hx hb hts i_Mo hown hK hP 0 mW_0 cl_11 24 (by decide) (hts _ k_6_184) (fun _ h9 => h9) (mg_length _ _) d_Mo_used_113 ?_
                  refine lv_goto (tgt := 120) hx hb d_Mo_used_116 (by decide) ?_
                  exact j_iret F hr hlocks hK hS (((0, (a_kinds S), (a_codes S), (a_reals S), (f_size S), (f_taken S), (a_words S), (a_many S)), S.2.1, S.2.2.1, S.2.2.2.1, S.2.2.2.2.1, S.2.2.2.2.2) : MS) ⟨⟨i_size, i_taken, i_vals, i_room, i_dicts, i_deep, i_open, i_cells, i_points, i_part, i_length, i_knows, i_page, i_text, i_pats, i_fuel, i_fr, i_ink⟩, (kA_r S), (kF_r S)⟩ hP hD d_Mo_used_120
              · have fc96_1 : p0.toInt = 5 := zt_eq (show p0.toInt = _ from rfl) tI_5 c96_1
                refine lv_aload_n hx hb d_Mo_used_99 rfl (lv_at hl 2 rfl) ?_
                refine va_get (D := D) (ci := 11) (v := .int (f_knows S)) (C := "PageScribeModel") (T := F_Mo) (N := 45) hx hb hts i_Mo hown hK hP 0 mW_0 cl_11 30 (by decide) (hts _ k_6_190) (fun _ h9 => h9) (mg_knows _ _) d_Mo_used_100 ?_
                refine lv_goto (tgt := 120) hx hb d_Mo_used_103 (by decide) ?_
                exact j_iret F hr hlocks hK hS (((0, (a_kinds S), (a_codes S), (a_reals S), (f_size S), (f_taken S), (a_words S), (a_many S)), S.2.1, S.2.2.1, S.2.2.2.1, S.2.2.2.2.1, S.2.2.2.2.2) : MS) ⟨⟨i_size, i_taken, i_vals, i_room, i_dicts, i_deep, i_open, i_cells, i_points, i_part, i_length, i_knows, i_page, i_text, i_pats, i_fuel, i_fr, i_ink⟩, (kA_r S), (kF_r S)⟩ hP hD d_Mo_used_120
            · have fc84_1 : p0.toInt = 4 := zt_eq (show p0.toInt = _ from rfl) tI_4 c84_1
              refine lv_aload_n hx hb d_Mo_used_87 rfl (lv_at hl 2 rfl) ?_
              refine va_get (D := D) (ci := 11) (v := .int (f_points S)) (C := "PageScribeModel") (T := F_Mo) (N := 45) hx hb hts i_Mo hown hK hP 0 mW_0 cl_11 41 (by decide) (hts _ k_6_201) (fun _ h9 => h9) (mg_points _ _) d_Mo_used_88 ?_
              refine lv_goto (tgt := 120) hx hb d_Mo_used_91 (by decide) ?_
              exact j_iret F hr hlocks hK hS (((0, (a_kinds S), (a_codes S), (a_reals S), (f_size S), (f_taken S), (a_words S), (a_many S)), S.2.1, S.2.2.1, S.2.2.2.1, S.2.2.2.2.1, S.2.2.2.2.2) : MS) ⟨⟨i_size, i_taken, i_vals, i_room, i_dicts, i_deep, i_open, i_cells, i_points, i_part, i_length, i_knows, i_page, i_text, i_pats, i_fuel, i_fr, i_ink⟩, (kA_r S), (kF_r S)⟩ hP hD d_Mo_used_120
          · have fc72_1 : p0.toInt = 3 := zt_eq (show p0.toInt = _ from rfl) tI_3 c72_1
            refine lv_aload_n hx hb d_Mo_used_75 rfl (lv_at hl 2 rfl) ?_
            refine va_get (D := D) (ci := 11) (v := .int (f_open S)) (C := "PageScribeModel") (T := F_Mo) (N := 45) hx hb hts i_Mo hown hK hP 0 mW_0 cl_11 12 (by decide) (hts _ k_6_172) (fun _ h9 => h9) (mg_open _ _) d_Mo_used_76 ?_
            refine lv_goto (tgt := 120) hx hb d_Mo_used_79 (by decide) ?_
            exact j_iret F hr hlocks hK hS (((0, (a_kinds S), (a_codes S), (a_reals S), (f_size S), (f_taken S), (a_words S), (a_many S)), S.2.1, S.2.2.1, S.2.2.2.1, S.2.2.2.2.1, S.2.2.2.2.2) : MS) ⟨⟨i_size, i_taken, i_vals, i_room, i_dicts, i_deep, i_open, i_cells, i_points, i_part, i_length, i_knows, i_page, i_text, i_pats, i_fuel, i_fr, i_ink⟩, (kA_r S), (kF_r S)⟩ hP hD d_Mo_used_120
        · have fc60_1 : p0.toInt = 2 := zt_eq (show p0.toInt = _ from rfl) tI_2 c60_1
          refine lv_aload_n hx hb d_Mo_used_63 rfl (lv_at hl 2 rfl) ?_
          refine va_get (D := D) (ci := 11) (v := .int (f_deep S)) (C := "PageScribeModel") (T := F_Mo) (N := 45) hx hb hts i_Mo hown hK hP 0 mW_0 cl_11 10 (by decide) (hts _ k_6_170) (fun _ h9 => h9) (mg_deep _ _) d_Mo_used_64 ?_
          refine lv_goto (tgt := 120) hx hb d_Mo_used_67 (by decide) ?_
          exact j_iret F hr hlocks hK hS (((0, (a_kinds S), (a_codes S), (a_reals S), (f_size S), (f_taken S), (a_words S), (a_many S)), S.2.1, S.2.2.1, S.2.2.2.1, S.2.2.2.2.1, S.2.2.2.2.2) : MS) ⟨⟨i_size, i_taken, i_vals, i_room, i_dicts, i_deep, i_open, i_cells, i_points, i_part, i_length, i_knows, i_page, i_text, i_pats, i_fuel, i_fr, i_ink⟩, (kA_r S), (kF_r S)⟩ hP hD d_Mo_used_120
      · have fc51_1 : p0.toInt = 1 := zt_eq (show p0.toInt = _ from rfl) tI_1 c51_1
        refine lv_iload_n hx hb d_Mo_used_54 rfl (lv_at hl 1 rfl) ?_
        refine lv_goto (tgt := 120) hx hb d_Mo_used_55 (by decide) ?_
        exact j_iret F hr hlocks hK hS (((0, (a_kinds S), (a_codes S), (a_reals S), (f_size S), (f_taken S), (a_words S), (a_many S)), S.2.1, S.2.2.1, S.2.2.2.1, S.2.2.2.2.1, S.2.2.2.2.2) : MS) ⟨⟨i_size, i_taken, i_vals, i_room, i_dicts, i_deep, i_open, i_cells, i_points, i_part, i_length, i_knows, i_page, i_text, i_pats, i_fuel, i_fr, i_ink⟩, (kA_r S), (kF_r S)⟩ hP hD d_Mo_used_120
    · have fc39_1 : p0.toInt = 0 := zt_eq (show p0.toInt = _ from rfl) tI_0 c39_1
      refine lv_aload_n hx hb d_Mo_used_42 rfl (lv_at hl 2 rfl) ?_
      refine va_get (D := D) (ci := 11) (v := .int (f_taken S)) (C := "PageScribeModel") (T := F_Mo) (N := 45) hx hb hts i_Mo hown hK hP 0 mW_0 cl_11 5 (by decide) (hts _ k_6_165) (fun _ h9 => h9) (mg_taken _ _) d_Mo_used_43 ?_
      refine lv_goto (tgt := 120) hx hb d_Mo_used_46 (by decide) ?_
      exact j_iret F hr hlocks hK hS (((0, (a_kinds S), (a_codes S), (a_reals S), (f_size S), (f_taken S), (a_words S), (a_many S)), S.2.1, S.2.2.1, S.2.2.2.1, S.2.2.2.2.1, S.2.2.2.2.2) : MS) ⟨⟨i_size, i_taken, i_vals, i_room, i_dicts, i_deep, i_open, i_cells, i_points, i_part, i_length, i_knows, i_page, i_text, i_pats, i_fuel, i_fr, i_ink⟩, (kA_r S), (kF_r S)⟩ hP hD d_Mo_used_120
  · have fc12_1 : i.toInt < 7 := Int.not_le.mp (zt_nle tI_7 (show i.toInt = _ from rfl) c12_1)
    refine lv_iload_n hx hb d_Mo_used_15 rfl (lv_at hl 1 rfl) ?_
    refine j_joinH (α := Int32) (fun x H locs ls => (x.toInt = 0 ∨ x.toInt = 1) ∧ va_P D classes (mW T h0 ar (((0, (a_kinds S), (a_codes S), (a_reals S), (f_size S), (f_taken S), (a_words S), (a_many S)), S.2.1, S.2.2.1, S.2.2.2.1, S.2.2.2.2.1, S.2.2.2.2.2) : MS)) H ∧ va_D A (mW T h0 ar (((0, (a_kinds S), (a_codes S), (a_reals S), (f_size S), (f_taken S), (a_words S), (a_many S)), S.2.1, S.2.2.1, S.2.2.2.1, S.2.2.2.2.1, S.2.2.2.2.2) : MS)) ∧ va_S A s.heap H locs ∧ lv_has ls 4 [(3, .int i), (2, .int n), (0, .ref h0), (1, .int p0)]) (fun x ls => F0 m 30 ls (.int x :: [.int n])) (fun x H locs ls hI9 => ?_) (fun key1 => ?_)
    · obtain ⟨j1, rfl⟩ : ∃ z, z = x := ⟨_, rfl⟩
      obtain ⟨hj1, hP, hD, hS, hl⟩ := hI9
      have hj1 : j1.toInt = 0 ∨ j1.toInt = 1 := hj1
      have hP : va_P D classes (mW T h0 ar (((0, (a_kinds S), (a_codes S), (a_reals S), (f_size S), (f_taken S), (a_words S), (a_many S)), S.2.1, S.2.2.1, S.2.2.2.1, S.2.2.2.2.1, S.2.2.2.2.2) : MS)) H := hP
      have hD : va_D A (mW T h0 ar (((0, (a_kinds S), (a_codes S), (a_reals S), (f_size S), (f_taken S), (a_words S), (a_many S)), S.2.1, S.2.2.1, S.2.2.2.1, S.2.2.2.2.1, S.2.2.2.2.2) : MS)) := hD
      have hl : lv_has ls 4 [(3, .int i), (2, .int n), (0, .ref h0), (1, .int p0)] := hl
      refine lv_iadd hx hb d_Mo_used_30 ?_
      refine lv_topi (fun x1 ex1 => ?_)
      have fx1 : x1.toInt = (j1.toInt + n.toInt) := by rw [ex1]; exact (zt_add (show n.toInt = _ from rfl) (show j1.toInt = _ from rfl) (by omega) (by omega)).trans (by omega)
      refine lv_istore_n (lv' := [(2, .int x1), (3, .int i), (0, .ref h0), (1, .int p0)]) hx hb d_Mo_used_31 rfl hl (by decide) rfl (fun ls hl => ?_)
      refine lv_iinc (v := (i + 1)) (lv' := [(3, .int (i + 1)), (2, .int x1), (0, .ref h0), (1, .int p0)]) hx hb d_Mo_used_32 hl (k := 1) rfl (by first | rfl | decide) (by decide) rfl (fun ls hl => ?_)
      obtain ⟨x2, ex2⟩ : ∃ z, z = (i + 1) := ⟨_, rfl⟩
      rw [← ex2] at hl
      have fx2 : x2.toInt = (i.toInt + 1) := by rw [ex2]; exact (zt_add (show i.toInt = _ from rfl) tI_1 (by omega) (by omega)).trans (by omega)
      have hl : lv_has ls 4 [(3, .int x2), (2, .int x1), (0, .ref h0), (1, .int p0)] := hl
      refine lv_goto (tgt := 9) hx hb d_Mo_used_35 (by decide) ?_
      exact ih (k - 1) (x1, x2) _ _ _ (by omega) ⟨(show 1 ≤ x2.toInt ∧ x2.toInt ≤ 7 ∧ 7 ≤ x2.toInt + (((k - 1) : Nat) : Int) ∧ 0 ≤ x1.toInt ∧ x1.toInt ≤ x2.toInt by have := tI_0; omega), hP, hD, hS, lv_sub hl [0, 1, 2, 3] rfl⟩
    · refine lv_aload_n hx hb d_Mo_used_16 rfl (lv_at hl 2 rfl) ?_
      refine va_get (D := D) (ci := 11) (v := .ref (ar 5)) (C := "PageScribeModel") (T := F_Mo) (N := 45) hx hb hts i_Mo hown hK hP 0 mW_0 cl_11 8 (by decide) (hts _ k_6_168) (fun _ h9 => h9) (mg_room _ _) d_Mo_used_17 ?_
      refine lv_iload_n hx hb d_Mo_used_20 rfl (lv_at hl 0 rfl) ?_
      refine va_iald hx hb hK hP 6 0 (ma_room _ _ _ _) rfl (zt_in (show i.toInt = _ from rfl) (by omega) (by omega)) d_Mo_used_21 ?_
      refine lv_topi (fun x3 ex3 => ?_)
      have gx3 : x3 = (a_room S) i.toInt.toNat := ex3.trans (congrArg _ (zt_ix (show i.toInt = _ from rfl)))
      have fx3 : x3.toInt = ((a_room S) i.toInt.toNat).toInt := by rw [gx3]
      have kx3 := rm_at i_room (k := i.toInt.toNat) (by omega)
      refine lv_if_le (tgt := 29) hx hb d_Mo_used_22 (by decide) (fun c22_1 => ?_) (fun c22_1 => ?_)
      · have fc22_1 : x3.toInt ≤ 0 := zt_le (show x3.toInt = _ from rfl) tI_0 c22_1
        refine lv_iconst (v := 0) hx hb d_Mo_used_29 (by decide) ?_
        exact key1 (0 : Int32) _ _ _ ⟨(show (0 : Int32).toInt = 0 ∨ (0 : Int32).toInt = 1 by have := tI_0; have := tI_0; omega), hP, hD, hS, lv_sub hl [0, 1, 2, 3] rfl⟩
      · have fc22_1 : 0 < x3.toInt := Int.not_le.mp (zt_nle (show x3.toInt = _ from rfl) tI_0 c22_1)
        refine lv_iconst (v := 1) hx hb d_Mo_used_25 (by decide) ?_
        refine lv_goto (tgt := 30) hx hb d_Mo_used_26 (by decide) ?_
        exact key1 (1 : Int32) _ _ _ ⟨(show (1 : Int32).toInt = 0 ∨ (1 : Int32).toInt = 1 by have := tI_1; have := tI_0; omega), hP, hD, hS, lv_sub hl [0, 1, 2, 3] rfl⟩
theorem d_Mo_pixel_0 : decode prog_15_method_85_code 0 = .ok (.aload_n 0, 1) := by decide +kernel
theorem d_Mo_pixel_1 : decode prog_15_method_85_code 1 = .ok (.iconst 0, 1) := by decide +kernel
theorem d_Mo_pixel_2 : decode prog_15_method_85_code 2 = .ok (.putfield 242, 3) := by decide +kernel
theorem d_Mo_pixel_5 : decode prog_15_method_85_code 5 = .ok (.iload_n 1, 1) := by decide +kernel
theorem d_Mo_pixel_6 : decode prog_15_method_85_code 6 = .ok (.ifCond .lt 23, 3) := by decide +kernel
theorem d_Mo_pixel_29 : decode prog_15_method_85_code 29 = .ok (.iconst (-1), 1) := by decide +kernel
theorem d_Mo_pixel_30 : decode prog_15_method_85_code 30 = .ok (.goto 14, 3) := by decide +kernel
theorem d_Mo_pixel_44 : decode prog_15_method_85_code 44 = .ok (.ireturn, 1) := by decide +kernel
theorem d_Mo_pixel_9 : decode prog_15_method_85_code 9 = .ok (.iload_n 1, 1) := by decide +kernel
theorem d_Mo_pixel_10 : decode prog_15_method_85_code 10 = .ok (.aload_n 0, 1) := by decide +kernel
theorem d_Mo_pixel_11 : decode prog_15_method_85_code 11 = .ok (.getfield 236, 3) := by decide +kernel
theorem d_Mo_pixel_14 : decode prog_15_method_85_code 14 = .ok (.if_icmp .ge 15, 3) := by decide +kernel
theorem d_Mo_pixel_17 : decode prog_15_method_85_code 17 = .ok (.iload_n 2, 1) := by decide +kernel
theorem d_Mo_pixel_18 : decode prog_15_method_85_code 18 = .ok (.ifCond .lt 11, 3) := by decide +kernel
theorem d_Mo_pixel_21 : decode prog_15_method_85_code 21 = .ok (.iload_n 2, 1) := by decide +kernel
theorem d_Mo_pixel_22 : decode prog_15_method_85_code 22 = .ok (.aload_n 0, 1) := by decide +kernel
theorem d_Mo_pixel_23 : decode prog_15_method_85_code 23 = .ok (.getfield 239, 3) := by decide +kernel
theorem d_Mo_pixel_26 : decode prog_15_method_85_code 26 = .ok (.if_icmp .lt 7, 3) := by decide +kernel
theorem d_Mo_pixel_33 : decode prog_15_method_85_code 33 = .ok (.aload_n 0, 1) := by decide +kernel
theorem d_Mo_pixel_34 : decode prog_15_method_85_code 34 = .ok (.getfield 71, 3) := by decide +kernel
theorem d_Mo_pixel_37 : decode prog_15_method_85_code 37 = .ok (.bipush 24, 2) := by decide +kernel
theorem d_Mo_pixel_39 : decode prog_15_method_85_code 39 = .ok (.iload_n 2, 1) := by decide +kernel
theorem d_Mo_pixel_40 : decode prog_15_method_85_code 40 = .ok (.imul, 1) := by decide +kernel
theorem d_Mo_pixel_41 : decode prog_15_method_85_code 41 = .ok (.iload_n 1, 1) := by decide +kernel
theorem d_Mo_pixel_42 : decode prog_15_method_85_code 42 = .ok (.iadd, 1) := by decide +kernel
theorem d_Mo_pixel_43 : decode prog_15_method_85_code 43 = .ok (.iaload, 1) := by decide +kernel
set_option maxHeartbeats 4000000 in
set_option maxRecDepth 100000 in
theorem m_pixel (l : Launch) (D : va_G) (T : Nat → ClassId) (h0 : Nat) (ar : Nat → Nat) (S : MS) (p0 : Int32) (p1 : Int32) (sz : Nat) (hI : MI S) : Met l ⟨"PageScribeModel", "pixel", "(II)I"⟩ (wy ⟨"PageScribeModel", "pixel", "(II)I"⟩ prog_15_method_85_code 3 (some .int)) ({ frames := 0, cells := 0, slots := 0, locals := 0 }) (va_Pc [.ref h0, .int p0, .int p1] (Pw D T (mW T h0 ar S) sz E0)) (va_Qi (fun (r : Int32) (u : MS) => MI u ∧ kA S u ∧ kF S u) (fun u t => Bw D T (va_A (mW T h0 ar S) sz) (mW T h0 ar u) t) (va_A (mW T h0 ar S) sz)) 0 0 (va_A (mW T h0 ar S) sz) := by
  refine j_met (y := ⟨"PageScribeModel", "pixel", "(II)I"⟩) (b := prog_15_method_85_code) (n := 3) (ret := (some .int)) (av := [.ref h0, .int p0, .int p1]) (Qc := fun A => va_Qi (fun (r : Int32) (u : MS) => MI u ∧ kA S u ∧ kF S u) (fun u t => Bw D T A (mW T h0 ar u) t) A) (by decide +kernel) (Nat.le_of_ble_eq_true rfl) (fun p e s m args below meth c A ls F hr hlocks hnm hK hP hD hS hA hN hE hl => ?_)
  obtain ⟨hx, hb, hml, hown, hts⟩ := id F
  have hl : lv_has ls 3 [(0, .ref h0), (1, .int p0), (2, .int p1)] := hl
  obtain ⟨i_size, i_taken, i_vals, i_room, i_dicts, i_deep, i_open, i_cells, i_points, i_part, i_length, i_knows, i_page, i_text, i_pats, i_fuel, i_fr, i_ink⟩ := id hI
  refine lv_aload_n hx hb d_Mo_pixel_0 rfl (lv_at hl 0 rfl) ?_
  refine lv_iconst (v := 0) hx hb d_Mo_pixel_1 (by decide) ?_
  refine va_put (D := D) (ci := 11) (v := .int 0) (ty := .int) (C := "PageScribeModel") (T := F_Mo) (N := 45) hx hb hts i_Mo t_Mo t_Mo_ok n_Mo hown hK hP hD hS 0 mW_0 cl_11 0 (by decide) (hts _ k_6_160) (fun _ h9 => h9) rfl (by decide +kernel) rfl rfl (Nat.le_of_ble_eq_true rfl) d_Mo_pixel_2 (fun H locs hP hD hS => ?_)
  rw [mp_thrown] at hP hD
  have hP : va_P D classes (mW T h0 ar (((0, (a_kinds S), (a_codes S), (a_reals S), (f_size S), (f_taken S), (a_words S), (a_many S)), S.2.1, S.2.2.1, S.2.2.2.1, S.2.2.2.2.1, S.2.2.2.2.2) : MS)) H := hP
  have hD : va_D A (mW T h0 ar (((0, (a_kinds S), (a_codes S), (a_reals S), (f_size S), (f_taken S), (a_words S), (a_many S)), S.2.1, S.2.2.1, S.2.2.2.1, S.2.2.2.2.1, S.2.2.2.2.2) : MS)) := hD
  refine lv_iload_n hx hb d_Mo_pixel_5 rfl (lv_at hl 1 rfl) ?_
  refine lv_if_lt (tgt := 29) hx hb d_Mo_pixel_6 (by decide) (fun c6_1 => ?_) (fun c6_1 => ?_)
  · have fc6_1 : p0.toInt < 0 := zt_lt (show p0.toInt = _ from rfl) tI_0 c6_1
    refine lv_iconst (v := (-1)) hx hb d_Mo_pixel_29 (by decide) ?_
    refine lv_goto (tgt := 44) hx hb d_Mo_pixel_30 (by decide) ?_
    exact j_iret F hr hlocks hK hS (((0, (a_kinds S), (a_codes S), (a_reals S), (f_size S), (f_taken S), (a_words S), (a_many S)), S.2.1, S.2.2.1, S.2.2.2.1, S.2.2.2.2.1, S.2.2.2.2.2) : MS) ⟨⟨i_size, i_taken, i_vals, i_room, i_dicts, i_deep, i_open, i_cells, i_points, i_part, i_length, i_knows, i_page, i_text, i_pats, i_fuel, i_fr, i_ink⟩, (kA_r S), (kF_r S)⟩ hP hD d_Mo_pixel_44
  · have fc6_1 : 0 ≤ p0.toInt := Int.not_lt.mp (zt_nlt (show p0.toInt = _ from rfl) tI_0 c6_1)
    refine lv_iload_n hx hb d_Mo_pixel_9 rfl (lv_at hl 1 rfl) ?_
    refine lv_aload_n hx hb d_Mo_pixel_10 rfl (lv_at hl 0 rfl) ?_
    refine va_get (D := D) (ci := 11) (v := .int (f_columns S)) (C := "PageScribeModel") (T := F_Mo) (N := 45) hx hb hts i_Mo hown hK hP 0 mW_0 cl_11 34 (by decide) (hts _ k_6_194) (fun _ h9 => h9) (mg_columns _ _) d_Mo_pixel_11 ?_
    refine lv_icmp_ge (tgt := 29) hx hb d_Mo_pixel_14 (by decide) (fun c14_1 => ?_) (fun c14_1 => ?_)
    · have fc14_1 : (f_columns S).toInt ≤ p0.toInt := zt_le (show (f_columns S).toInt = _ from rfl) (show p0.toInt = _ from rfl) c14_1
      refine lv_iconst (v := (-1)) hx hb d_Mo_pixel_29 (by decide) ?_
      refine lv_goto (tgt := 44) hx hb d_Mo_pixel_30 (by decide) ?_
      exact j_iret F hr hlocks hK hS (((0, (a_kinds S), (a_codes S), (a_reals S), (f_size S), (f_taken S), (a_words S), (a_many S)), S.2.1, S.2.2.1, S.2.2.2.1, S.2.2.2.2.1, S.2.2.2.2.2) : MS) ⟨⟨i_size, i_taken, i_vals, i_room, i_dicts, i_deep, i_open, i_cells, i_points, i_part, i_length, i_knows, i_page, i_text, i_pats, i_fuel, i_fr, i_ink⟩, (kA_r S), (kF_r S)⟩ hP hD d_Mo_pixel_44
    · have fc14_1 : p0.toInt < (f_columns S).toInt := Int.not_le.mp (zt_nle (show (f_columns S).toInt = _ from rfl) (show p0.toInt = _ from rfl) c14_1)
      refine lv_iload_n hx hb d_Mo_pixel_17 rfl (lv_at hl 2 rfl) ?_
      refine lv_if_lt (tgt := 29) hx hb d_Mo_pixel_18 (by decide) (fun c18_1 => ?_) (fun c18_1 => ?_)
      · have fc18_1 : p1.toInt < 0 := zt_lt (show p1.toInt = _ from rfl) tI_0 c18_1
        refine lv_iconst (v := (-1)) hx hb d_Mo_pixel_29 (by decide) ?_
        refine lv_goto (tgt := 44) hx hb d_Mo_pixel_30 (by decide) ?_
        exact j_iret F hr hlocks hK hS (((0, (a_kinds S), (a_codes S), (a_reals S), (f_size S), (f_taken S), (a_words S), (a_many S)), S.2.1, S.2.2.1, S.2.2.2.1, S.2.2.2.2.1, S.2.2.2.2.2) : MS) ⟨⟨i_size, i_taken, i_vals, i_room, i_dicts, i_deep, i_open, i_cells, i_points, i_part, i_length, i_knows, i_page, i_text, i_pats, i_fuel, i_fr, i_ink⟩, (kA_r S), (kF_r S)⟩ hP hD d_Mo_pixel_44
      · have fc18_1 : 0 ≤ p1.toInt := Int.not_lt.mp (zt_nlt (show p1.toInt = _ from rfl) tI_0 c18_1)
        refine lv_iload_n hx hb d_Mo_pixel_21 rfl (lv_at hl 2 rfl) ?_
        refine lv_aload_n hx hb d_Mo_pixel_22 rfl (lv_at hl 0 rfl) ?_
        refine va_get (D := D) (ci := 11) (v := .int (f_rows S)) (C := "PageScribeModel") (T := F_Mo) (N := 45) hx hb hts i_Mo hown hK hP 0 mW_0 cl_11 35 (by decide) (hts _ k_6_195) (fun _ h9 => h9) (mg_rows _ _) d_Mo_pixel_23 ?_
        refine lv_icmp_lt (tgt := 33) hx hb d_Mo_pixel_26 (by decide) (fun c26_1 => ?_) (fun c26_1 => ?_)
        · have fc26_1 : p1.toInt < (f_rows S).toInt := zt_lt (show p1.toInt = _ from rfl) (show (f_rows S).toInt = _ from rfl) c26_1
          refine lv_aload_n hx hb d_Mo_pixel_33 rfl (lv_at hl 0 rfl) ?_
          refine va_get (D := D) (ci := 11) (v := .ref (ar 18)) (C := "PageScribeModel") (T := F_Mo) (N := 45) hx hb hts i_Mo hown hK hP 0 mW_0 cl_11 36 (by decide) (hts _ k_6_196) (fun _ h9 => h9) (mg_pixels _ _) d_Mo_pixel_34 ?_
          refine lv_bipush (v := 24) hx hb d_Mo_pixel_37 (by decide) ?_
          refine lv_iload_n hx hb d_Mo_pixel_39 rfl (lv_at hl 2 rfl) ?_
          refine lv_imul hx hb d_Mo_pixel_40 ?_
          refine lv_topi (fun x1 ex1 => ?_)
          have fx1 : x1.toInt = (24 * p1.toInt) := by rw [ex1]; exact (zt_mul tI_24 (show p1.toInt = _ from rfl) rfl (by omega) (by omega)).trans (by omega)
          refine lv_iload_n hx hb d_Mo_pixel_41 rfl (lv_at hl 1 rfl) ?_
          refine lv_iadd hx hb d_Mo_pixel_42 ?_
          refine lv_topi (fun x2 ex2 => ?_)
          have fx2 : x2.toInt = (p0.toInt + 24 * p1.toInt) := by rw [ex2]; exact (zt_add fx1 (show p0.toInt = _ from rfl) (by omega) (by omega)).trans (by omega)
          refine va_iald hx hb hK hP 19 0 (ma_pixels _ _ _ _) rfl (zt_in fx2 (by omega) (by omega)) d_Mo_pixel_43 ?_
          refine lv_topi (fun x3 ex3 => ?_)
          have gx3 : x3 = (a_pixels S) (p0.toInt + 24 * p1.toInt).toNat := ex3.trans (congrArg _ (zt_ix fx2))
          have fx3 : x3.toInt = ((a_pixels S) (p0.toInt + 24 * p1.toInt).toNat).toInt := by rw [gx3]
          exact j_iret F hr hlocks hK hS (((0, (a_kinds S), (a_codes S), (a_reals S), (f_size S), (f_taken S), (a_words S), (a_many S)), S.2.1, S.2.2.1, S.2.2.2.1, S.2.2.2.2.1, S.2.2.2.2.2) : MS) ⟨⟨i_size, i_taken, i_vals, i_room, i_dicts, i_deep, i_open, i_cells, i_points, i_part, i_length, i_knows, i_page, i_text, i_pats, i_fuel, i_fr, i_ink⟩, (kA_r S), (kF_r S)⟩ hP hD d_Mo_pixel_44
        · have fc26_1 : (f_rows S).toInt ≤ p1.toInt := Int.not_lt.mp (zt_nlt (show p1.toInt = _ from rfl) (show (f_rows S).toInt = _ from rfl) c26_1)
          refine lv_iconst (v := (-1)) hx hb d_Mo_pixel_29 (by decide) ?_
          refine lv_goto (tgt := 44) hx hb d_Mo_pixel_30 (by decide) ?_
          exact j_iret F hr hlocks hK hS (((0, (a_kinds S), (a_codes S), (a_reals S), (f_size S), (f_taken S), (a_words S), (a_many S)), S.2.1, S.2.2.1, S.2.2.2.1, S.2.2.2.2.1, S.2.2.2.2.2) : MS) ⟨⟨i_size, i_taken, i_vals, i_room, i_dicts, i_deep, i_open, i_cells, i_points, i_part, i_length, i_knows, i_page, i_text, i_pats, i_fuel, i_fr, i_ink⟩, (kA_r S), (kF_r S)⟩ hP hD d_Mo_pixel_44
theorem d_Mo_page_0 : decode prog_15_method_86_code 0 = .ok (.aload_n 0, 1) := by decide +kernel
theorem d_Mo_page_1 : decode prog_15_method_86_code 1 = .ok (.iconst 0, 1) := by decide +kernel
theorem d_Mo_page_2 : decode prog_15_method_86_code 2 = .ok (.putfield 242, 3) := by decide +kernel
theorem d_Mo_page_5 : decode prog_15_method_86_code 5 = .ok (.iconst 0, 1) := by decide +kernel
theorem d_Mo_page_6 : decode prog_15_method_86_code 6 = .ok (.istore_n 1, 1) := by decide +kernel
theorem d_Mo_page_7 : decode prog_15_method_86_code 7 = .ok (.iconst 0, 1) := by decide +kernel
theorem d_Mo_page_8 : decode prog_15_method_86_code 8 = .ok (.istore_n 2, 1) := by decide +kernel
theorem d_Mo_page_9 : decode prog_15_method_86_code 9 = .ok (.iload_n 2, 1) := by decide +kernel
theorem d_Mo_page_10 : decode prog_15_method_86_code 10 = .ok (.sipush 384, 3) := by decide +kernel
theorem d_Mo_page_13 : decode prog_15_method_86_code 13 = .ok (.if_icmp .ge 33, 3) := by decide +kernel
theorem tI_384 : (384 : Int32).toInt = 384 := by decide +kernel
theorem d_Mo_page_46 : decode prog_15_method_86_code 46 = .ok (.iload_n 1, 1) := by decide +kernel
theorem d_Mo_page_47 : decode prog_15_method_86_code 47 = .ok (.ireturn, 1) := by decide +kernel
theorem d_Mo_page_16 : decode prog_15_method_86_code 16 = .ok (.iload_n 1, 1) := by decide +kernel
theorem d_Mo_page_31 : decode prog_15_method_86_code 31 = .ok (.iadd, 1) := by decide +kernel
theorem d_Mo_page_32 : decode prog_15_method_86_code 32 = .ok (.istore_n 1, 1) := by decide +kernel
theorem d_Mo_page_33 : decode prog_15_method_86_code 33 = .ok (.aload_n 0, 1) := by decide +kernel
theorem d_Mo_page_34 : decode prog_15_method_86_code 34 = .ok (.getfield 71, 3) := by decide +kernel
theorem d_Mo_page_37 : decode prog_15_method_86_code 37 = .ok (.iload_n 2, 1) := by decide +kernel
theorem d_Mo_page_38 : decode prog_15_method_86_code 38 = .ok (.iconst 0, 1) := by decide +kernel
theorem d_Mo_page_39 : decode prog_15_method_86_code 39 = .ok (.iastore, 1) := by decide +kernel
theorem d_Mo_page_40 : decode prog_15_method_86_code 40 = .ok (.iinc 2 1, 3) := by decide +kernel
theorem d_Mo_page_43 : decode prog_15_method_86_code 43 = .ok (.goto (-34), 3) := by decide +kernel
theorem d_Mo_page_17 : decode prog_15_method_86_code 17 = .ok (.aload_n 0, 1) := by decide +kernel
theorem d_Mo_page_18 : decode prog_15_method_86_code 18 = .ok (.getfield 71, 3) := by decide +kernel
theorem d_Mo_page_21 : decode prog_15_method_86_code 21 = .ok (.iload_n 2, 1) := by decide +kernel
theorem d_Mo_page_22 : decode prog_15_method_86_code 22 = .ok (.iaload, 1) := by decide +kernel
theorem d_Mo_page_23 : decode prog_15_method_86_code 23 = .ok (.ifCond .le 7, 3) := by decide +kernel
theorem d_Mo_page_30 : decode prog_15_method_86_code 30 = .ok (.iconst 0, 1) := by decide +kernel
theorem d_Mo_page_26 : decode prog_15_method_86_code 26 = .ok (.iconst 1, 1) := by decide +kernel
theorem d_Mo_page_27 : decode prog_15_method_86_code 27 = .ok (.goto 4, 3) := by decide +kernel
set_option maxHeartbeats 4000000 in
set_option maxRecDepth 100000 in
theorem m_page (l : Launch) (D : va_G) (T : Nat → ClassId) (h0 : Nat) (ar : Nat → Nat) (S : MS)  (sz : Nat) (hI : MI S) : Met l ⟨"PageScribeModel", "page", "()I"⟩ (wy ⟨"PageScribeModel", "page", "()I"⟩ prog_15_method_86_code 3 (some .int)) ({ frames := 0, cells := 0, slots := 0, locals := 0 }) (va_Pc [.ref h0] (Pw D T (mW T h0 ar S) sz E0)) (va_Qi (fun (r : Int32) (u : MS) => MI u ∧ kA S u ∧ kF S u) (fun u t => Bw D T (va_A (mW T h0 ar S) sz) (mW T h0 ar u) t) (va_A (mW T h0 ar S) sz)) 0 0 (va_A (mW T h0 ar S) sz) := by
  refine j_met (y := ⟨"PageScribeModel", "page", "()I"⟩) (b := prog_15_method_86_code) (n := 3) (ret := (some .int)) (av := [.ref h0]) (Qc := fun A => va_Qi (fun (r : Int32) (u : MS) => MI u ∧ kA S u ∧ kF S u) (fun u t => Bw D T A (mW T h0 ar u) t) A) (by decide +kernel) (Nat.le_of_ble_eq_true rfl) (fun p e s m args below meth c A ls F hr hlocks hnm hK hP hD hS hA hN hE hl => ?_)
  obtain ⟨hx, hb, hml, hown, hts⟩ := id F
  have hl : lv_has ls 3 [(0, .ref h0)] := hl
  obtain ⟨i_size, i_taken, i_vals, i_room, i_dicts, i_deep, i_open, i_cells, i_points, i_part, i_length, i_knows, i_page, i_text, i_pats, i_fuel, i_fr, i_ink⟩ := id hI
  refine lv_aload_n hx hb d_Mo_page_0 rfl (lv_at hl 0 rfl) ?_
  refine lv_iconst (v := 0) hx hb d_Mo_page_1 (by decide) ?_
  refine va_put (D := D) (ci := 11) (v := .int 0) (ty := .int) (C := "PageScribeModel") (T := F_Mo) (N := 45) hx hb hts i_Mo t_Mo t_Mo_ok n_Mo hown hK hP hD hS 0 mW_0 cl_11 0 (by decide) (hts _ k_6_160) (fun _ h9 => h9) rfl (by decide +kernel) rfl rfl (Nat.le_of_ble_eq_true rfl) d_Mo_page_2 (fun H locs hP hD hS => ?_)
  rw [mp_thrown] at hP hD
  have hP : va_P D classes (mW T h0 ar (((0, (a_kinds S), (a_codes S), (a_reals S), (f_size S), (f_taken S), (a_words S), (a_many S)), S.2.1, S.2.2.1, S.2.2.2.1, S.2.2.2.2.1, S.2.2.2.2.2) : MS)) H := hP
  have hD : va_D A (mW T h0 ar (((0, (a_kinds S), (a_codes S), (a_reals S), (f_size S), (f_taken S), (a_words S), (a_many S)), S.2.1, S.2.2.1, S.2.2.2.1, S.2.2.2.2.1, S.2.2.2.2.2) : MS)) := hD
  refine lv_iconst (v := 0) hx hb d_Mo_page_5 (by decide) ?_
  refine lv_istore_n (lv' := [(1, .int 0), (0, .ref h0)]) hx hb d_Mo_page_6 rfl hl (by decide) rfl (fun ls hl => ?_)
  refine lv_iconst (v := 0) hx hb d_Mo_page_7 (by decide) ?_
  refine lv_istore_n (lv' := [(2, .int 0), (1, .int 0), (0, .ref h0)]) hx hb d_Mo_page_8 rfl hl (by decide) rfl (fun ls hl => ?_)
  refine j_loop (α := MS × Int32 × Int32) (fun k x H locs ls => (0 ≤ x.2.2.toInt ∧ x.2.2.toInt ≤ 384 ∧ 384 ≤ x.2.2.toInt + ((k : Nat) : Int) ∧ 0 ≤ x.2.1.toInt ∧ x.2.1.toInt ≤ x.2.2.toInt) ∧ MI x.1 ∧ kA S x.1 ∧ kF S x.1 ∧ va_P D classes (mW T h0 ar x.1) H ∧ va_D A (mW T h0 ar x.1) ∧ va_S A s.heap H locs ∧ lv_has ls 3 [(2, .int x.2.2), (1, .int x.2.1), (0, .ref h0)]) (fun _ _ ls => F0 m 9 ls []) (fun k x H locs ls hI9 ih => ?_) 384 ((((0, (a_kinds S), (a_codes S), (a_reals S), (f_size S), (f_taken S), (a_words S), (a_many S)), S.2.1, S.2.2.1, S.2.2.2.1, S.2.2.2.2.1, S.2.2.2.2.2) : MS), (0 : Int32), (0 : Int32)) _ _ _ ⟨(show 0 ≤ (0 : Int32).toInt ∧ (0 : Int32).toInt ≤ 384 ∧ 384 ≤ (0 : Int32).toInt + ((384 : Nat) : Int) ∧ 0 ≤ (0 : Int32).toInt ∧ (0 : Int32).toInt ≤ (0 : Int32).toInt by have := tI_0; have := tI_0; have := tI_0; omega), ⟨i_size, i_taken, i_vals, i_room, i_dicts, i_deep, i_open, i_cells, i_points, i_part, i_length, i_knows, i_page, i_text, i_pats, i_fuel, i_fr, i_ink⟩, (show kA S (((0, (a_kinds S), (a_codes S), (a_reals S), (f_size S), (f_taken S), (a_words S), (a_many S)), S.2.1, S.2.2.1, S.2.2.2.1, S.2.2.2.2.1, S.2.2.2.2.2) : MS) from (kA_r S)), (show kF S (((0, (a_kinds S), (a_codes S), (a_reals S), (f_size S), (f_taken S), (a_words S), (a_many S)), S.2.1, S.2.2.1, S.2.2.2.1, S.2.2.2.2.1, S.2.2.2.2.2) : MS) from (kF_r S)), hP, hD, hS, lv_sub hl [0, 1, 2] rfl⟩
  obtain ⟨S1, n, i⟩ := x
  obtain ⟨hf1, hIx, klA_S1, klF_S1, hP, hD, hS, hl⟩ := hI9
  obtain ⟨i_size, i_taken, i_vals, i_room, i_dicts, i_deep, i_open, i_cells, i_points, i_part, i_length, i_knows, i_page, i_text, i_pats, i_fuel, i_fr, i_ink⟩ := (show MI S1 from hIx)
  have klA_S1 : kA S S1 := klA_S1
  have klF_S1 : kF S S1 := klF_S1
  have hf1 : 0 ≤ i.toInt ∧ i.toInt ≤ 384 ∧ 384 ≤ i.toInt + ((k : Nat) : Int) ∧ 0 ≤ n.toInt ∧ n.toInt ≤ i.toInt := hf1
  have hP : va_P D classes (mW T h0 ar S1) H := hP
  have hD : va_D A (mW T h0 ar S1) := hD
  have hl : lv_has ls 3 [(2, .int i), (1, .int n), (0, .ref h0)] := hl
  refine lv_iload_n hx hb d_Mo_page_9 rfl (lv_at hl 0 rfl) ?_
  refine lv_sipush (v := 384) hx hb d_Mo_page_10 (by decide) ?_
  refine lv_icmp_ge (tgt := 46) hx hb d_Mo_page_13 (by decide) (fun c13_1 => ?_) (fun c13_1 => ?_)
  · have fc13_1 : 384 ≤ i.toInt := zt_le tI_384 (show i.toInt = _ from rfl) c13_1
    refine lv_iload_n hx hb d_Mo_page_46 rfl (lv_at hl 1 rfl) ?_
    exact j_iret F hr hlocks hK hS S1 ⟨⟨i_size, i_taken, i_vals, i_room, i_dicts, i_deep, i_open, i_cells, i_points, i_part, i_length, i_knows, i_page, i_text, i_pats, i_fuel, i_fr, i_ink⟩, klA_S1, klF_S1⟩ hP hD d_Mo_page_47
  · have fc13_1 : i.toInt < 384 := Int.not_le.mp (zt_nle tI_384 (show i.toInt = _ from rfl) c13_1)
    refine lv_iload_n hx hb d_Mo_page_16 rfl (lv_at hl 1 rfl) ?_
    refine j_joinH (α := Int32) (fun x H locs ls => (x.toInt = 0 ∨ x.toInt = 1) ∧ va_P D classes (mW T h0 ar S1) H ∧ va_D A (mW T h0 ar S1) ∧ va_S A s.heap H locs ∧ lv_has ls 3 [(2, .int i), (1, .int n), (0, .ref h0)]) (fun x ls => F0 m 31 ls (.int x :: [.int n])) (fun x H locs ls hI9 => ?_) (fun key1 => ?_)
    · obtain ⟨j1, rfl⟩ : ∃ z, z = x := ⟨_, rfl⟩
      obtain ⟨hj1, hP, hD, hS, hl⟩ := hI9
      have hj1 : j1.toInt = 0 ∨ j1.toInt = 1 := hj1
      have hP : va_P D classes (mW T h0 ar S1) H := hP
      have hD : va_D A (mW T h0 ar S1) := hD
      have hl : lv_has ls 3 [(2, .int i), (1, .int n), (0, .ref h0)] := hl
      refine lv_iadd hx hb d_Mo_page_31 ?_
      refine lv_topi (fun x1 ex1 => ?_)
      have fx1 : x1.toInt = (j1.toInt + n.toInt) := by rw [ex1]; exact (zt_add (show n.toInt = _ from rfl) (show j1.toInt = _ from rfl) (by omega) (by omega)).trans (by omega)
      refine lv_istore_n (lv' := [(1, .int x1), (2, .int i), (0, .ref h0)]) hx hb d_Mo_page_32 rfl hl (by decide) rfl (fun ls hl => ?_)
      refine lv_aload_n hx hb d_Mo_page_33 rfl (lv_at hl 2 rfl) ?_
      refine va_get (D := D) (ci := 11) (v := .ref (ar 18)) (C := "PageScribeModel") (T := F_Mo) (N := 45) hx hb hts i_Mo hown hK hP 0 mW_0 cl_11 36 (by decide) (hts _ k_6_196) (fun _ h9 => h9) (mg_pixels _ _) d_Mo_page_34 ?_
      refine lv_iload_n hx hb d_Mo_page_37 rfl (lv_at hl 1 rfl) ?_
      refine lv_iconst (v := 0) hx hb d_Mo_page_38 (by decide) ?_
      refine va_iast hx hb hK hP hD hS 19 0 (ma_pixels _ _ _ _) rfl (zt_in (show i.toInt = _ from rfl) (by omega) (by omega)) d_Mo_page_39 (fun H locs hP hD hS => ?_)
      rw [ms_pixels] at hP hD
      rw [zt_ix (show i.toInt = _ from rfl)] at hP hD
      have hP : va_P D classes (mW T h0 ar ((S1.1, S1.2.1, S1.2.2.1, S1.2.2.2.1, ((f_steps S1), (f_failure S1), (f_columns S1), (f_rows S1), (upd (a_pixels S1) (i.toInt.toNat) (0 : Int32)), (f_gray S1), (a_across S1), (a_along S1)), S1.2.2.2.2.2) : MS)) H := hP
      have hD : va_D A (mW T h0 ar ((S1.1, S1.2.1, S1.2.2.1, S1.2.2.2.1, ((f_steps S1), (f_failure S1), (f_columns S1), (f_rows S1), (upd (a_pixels S1) (i.toInt.toNat) (0 : Int32)), (f_gray S1), (a_across S1), (a_along S1)), S1.2.2.2.2.2) : MS)) := hD
      refine lv_iinc (v := (i + 1)) (lv' := [(2, .int (i + 1)), (1, .int x1), (0, .ref h0)]) hx hb d_Mo_page_40 hl (k := 1) rfl (by first | rfl | decide) (by decide) rfl (fun ls hl => ?_)
      obtain ⟨x2, ex2⟩ : ∃ z, z = (i + 1) := ⟨_, rfl⟩
      rw [← ex2] at hl
      have fx2 : x2.toInt = (i.toInt + 1) := by rw [ex2]; exact (zt_add (show i.toInt = _ from rfl) tI_1 (by omega) (by omega)).trans (by omega)
      have hl : lv_has ls 3 [(2, .int x2), (1, .int x1), (0, .ref h0)] := hl
      refine lv_goto (tgt := 9) hx hb d_Mo_page_43 (by decide) ?_
      exact ih (k - 1) (((S1.1, S1.2.1, S1.2.2.1, S1.2.2.2.1, ((f_steps S1), (f_failure S1), (f_columns S1), (f_rows S1), (upd (a_pixels S1) (i.toInt.toNat) (0 : Int32)), (f_gray S1), (a_across S1), (a_along S1)), S1.2.2.2.2.2) : MS), x1, x2) _ _ _ (by omega) ⟨(show 0 ≤ x2.toInt ∧ x2.toInt ≤ 384 ∧ 384 ≤ x2.toInt + (((k - 1) : Nat) : Int) ∧ 0 ≤ x1.toInt ∧ x1.toInt ≤ x2.toInt by omega), ⟨i_size, i_taken, i_vals, i_room, i_dicts, i_deep, i_open, i_cells, i_points, i_part, i_length, i_knows, i_page, i_text, i_pats, i_fuel, i_fr, i_ink⟩, (show kA S ((S1.1, S1.2.1, S1.2.2.1, S1.2.2.2.1, ((f_steps S1), (f_failure S1), (f_columns S1), (f_rows S1), (upd (a_pixels S1) (i.toInt.toNat) (0 : Int32)), (f_gray S1), (a_across S1), (a_along S1)), S1.2.2.2.2.2) : MS) from klA_S1), (show kF S ((S1.1, S1.2.1, S1.2.2.1, S1.2.2.2.1, ((f_steps S1), (f_failure S1), (f_columns S1), (f_rows S1), (upd (a_pixels S1) (i.toInt.toNat) (0 : Int32)), (f_gray S1), (a_across S1), (a_along S1)), S1.2.2.2.2.2) : MS) from klF_S1), hP, hD, hS, lv_sub hl [0, 1, 2] rfl⟩
    · refine lv_aload_n hx hb d_Mo_page_17 rfl (lv_at hl 2 rfl) ?_
      refine va_get (D := D) (ci := 11) (v := .ref (ar 18)) (C := "PageScribeModel") (T := F_Mo) (N := 45) hx hb hts i_Mo hown hK hP 0 mW_0 cl_11 36 (by decide) (hts _ k_6_196) (fun _ h9 => h9) (mg_pixels _ _) d_Mo_page_18 ?_
      refine lv_iload_n hx hb d_Mo_page_21 rfl (lv_at hl 0 rfl) ?_
      refine va_iald hx hb hK hP 19 0 (ma_pixels _ _ _ _) rfl (zt_in (show i.toInt = _ from rfl) (by omega) (by omega)) d_Mo_page_22 ?_
      refine lv_topi (fun x3 ex3 => ?_)
      have gx3 : x3 = (a_pixels S1) i.toInt.toNat := ex3.trans (congrArg _ (zt_ix (show i.toInt = _ from rfl)))
      have fx3 : x3.toInt = ((a_pixels S1) i.toInt.toNat).toInt := by rw [gx3]
      refine lv_if_le (tgt := 30) hx hb d_Mo_page_23 (by decide) (fun c23_1 => ?_) (fun c23_1 => ?_)
      · have fc23_1 : x3.toInt ≤ 0 := zt_le (show x3.toInt = _ from rfl) tI_0 c23_1
        refine lv_iconst (v := 0) hx hb d_Mo_page_30 (by decide) ?_
        exact key1 (0 : Int32) _ _ _ ⟨(show (0 : Int32).toInt = 0 ∨ (0 : Int32).toInt = 1 by have := tI_0; omega), hP, hD, hS, lv_sub hl [0, 1, 2] rfl⟩
      · have fc23_1 : 0 < x3.toInt := Int.not_le.mp (zt_nle (show x3.toInt = _ from rfl) tI_0 c23_1)
        refine lv_iconst (v := 1) hx hb d_Mo_page_26 (by decide) ?_
        refine lv_goto (tgt := 31) hx hb d_Mo_page_27 (by decide) ?_
        exact key1 (1 : Int32) _ _ _ ⟨(show (1 : Int32).toInt = 0 ∨ (1 : Int32).toInt = 1 by have := tI_1; omega), hP, hD, hS, lv_sub hl [0, 1, 2] rfl⟩
