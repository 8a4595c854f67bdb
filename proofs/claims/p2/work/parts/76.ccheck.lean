theorem d_Stack_fits_0 : decode prog_9_method_12_code 0 = .ok (.iconst 0, 1) := by decide +kernel
theorem d_Stack_fits_1 : decode prog_9_method_12_code 1 = .ok (.istore 4, 2) := by decide +kernel
theorem d_Stack_fits_3 : decode prog_9_method_12_code 3 = .ok (.iload 4, 2) := by decide +kernel
theorem d_Stack_fits_5 : decode prog_9_method_12_code 5 = .ok (.iload_n 3, 1) := by decide +kernel
theorem d_Stack_fits_6 : decode prog_9_method_12_code 6 = .ok (.if_icmp .ge 35, 3) := by decide +kernel
theorem d_Stack_fits_41 : decode prog_9_method_12_code 41 = .ok (.iconst 1, 1) := by decide +kernel
theorem d_Stack_fits_42 : decode prog_9_method_12_code 42 = .ok (.ireturn, 1) := by decide +kernel
theorem d_Stack_fits_9 : decode prog_9_method_12_code 9 = .ok (.aload_n 0, 1) := by decide +kernel
theorem d_Stack_fits_10 : decode prog_9_method_12_code 10 = .ok (.iload_n 3, 1) := by decide +kernel
theorem d_Stack_fits_11 : decode prog_9_method_12_code 11 = .ok (.iconst 1, 1) := by decide +kernel
theorem d_Stack_fits_12 : decode prog_9_method_12_code 12 = .ok (.isub, 1) := by decide +kernel
theorem d_Stack_fits_13 : decode prog_9_method_12_code 13 = .ok (.iload 4, 2) := by decide +kernel
theorem d_Stack_fits_15 : decode prog_9_method_12_code 15 = .ok (.isub, 1) := by decide +kernel
theorem d_Stack_fits_16 : decode prog_9_method_12_code 16 = .ok (.invokevirtual 26, 3) := by decide +kernel
theorem d_Stack_fits_19 : decode prog_9_method_12_code 19 = .ok (.aload_n 1, 1) := by decide +kernel
theorem d_Stack_fits_20 : decode prog_9_method_12_code 20 = .ok (.iload_n 2, 1) := by decide +kernel
theorem d_Stack_fits_21 : decode prog_9_method_12_code 21 = .ok (.iload 4, 2) := by decide +kernel
theorem d_Stack_fits_23 : decode prog_9_method_12_code 23 = .ok (.iadd, 1) := by decide +kernel
theorem d_Stack_fits_24 : decode prog_9_method_12_code 24 = .ok (.invokevirtual 55, 3) := by decide +kernel
theorem k_2_160 : Cond.code ⟨"java/lang/String", "charAt", "(I)C"⟩ prog_24_method_56_code 2 (some .char) ∈ gw := gw_of (tb_2 (List.mem_of_getElem? (i := 160) (by decide +kernel))) (by decide +kernel)
theorem k_4_26 : Cond.methodLink "PageScribe$Stack" 55 ⟨"java/lang/String", "charAt", "(I)C"⟩ ∈ gw := gw_of (tb_4 (List.mem_of_getElem? (i := 26) (by decide +kernel))) (by decide +kernel)
theorem k_2_158 : Cond.instanceMethod ⟨"java/lang/String", "charAt", "(I)C"⟩ ∈ gw := gw_of (tb_2 (List.mem_of_getElem? (i := 158) (by decide +kernel))) (by decide +kernel)
theorem k_2_159 : Cond.selects "java/lang/String" ⟨"java/lang/String", "charAt", "(I)C"⟩ ⟨"java/lang/String", "charAt", "(I)C"⟩ ∈ gw := gw_of (tb_2 (List.mem_of_getElem? (i := 159) (by decide +kernel))) (by decide +kernel)
theorem d_Stack_fits_27 : decode prog_9_method_12_code 27 = .ok (.invokestatic 59, 3) := by decide +kernel
theorem k_4_29 : Cond.code ⟨"PageScribe$Stack", "isOne", "(IC)Z"⟩ prog_9_method_13_code 2 (some .boolean) ∈ gw := gw_of (tb_4 (List.mem_of_getElem? (i := 29) (by decide +kernel))) (by decide +kernel)
theorem k_4_27 : Cond.methodLink "PageScribe$Stack" 59 ⟨"PageScribe$Stack", "isOne", "(IC)Z"⟩ ∈ gw := gw_of (tb_4 (List.mem_of_getElem? (i := 27) (by decide +kernel))) (by decide +kernel)
theorem k_4_28 : Cond.static ⟨"PageScribe$Stack", "isOne", "(IC)Z"⟩ ∈ gw := gw_of (tb_4 (List.mem_of_getElem? (i := 28) (by decide +kernel))) (by decide +kernel)
theorem d_Stack_fits_30 : decode prog_9_method_12_code 30 = .ok (.ifCond .ne 5, 3) := by decide +kernel
theorem d_Stack_fits_35 : decode prog_9_method_12_code 35 = .ok (.iinc 4 1, 3) := by decide +kernel
theorem d_Stack_fits_38 : decode prog_9_method_12_code 38 = .ok (.goto (-35), 3) := by decide +kernel
theorem d_Stack_fits_33 : decode prog_9_method_12_code 33 = .ok (.iconst 0, 1) := by decide +kernel
theorem d_Stack_fits_34 : decode prog_9_method_12_code 34 = .ok (.ireturn, 1) := by decide +kernel
set_option maxHeartbeats 4000000 in
set_option maxRecDepth 100000 in
theorem c_Stack_fits (l : Launch) (D : va_G) (T : Nat → ClassId) (ad : Nat → Nat) (g : GE) (Bq : Nat → Prop) (S : CS) (tx : Nat) (p0 : Int32) (p1 : Int32) (sz : Nat) (hi_tx : tx < 97) (hI : CIv S) (h1 : 0 ≤ p0.toInt ∧ 0 ≤ p1.toInt ∧ p0.toInt + p1.toInt ≤ ((txL.getD tx 0 : Nat) : Int)) : Met l ⟨"PageScribe$Stack", "fits", "(Ljava/lang/String;II)Z"⟩ (wy ⟨"PageScribe$Stack", "fits", "(Ljava/lang/String;II)Z"⟩ prog_9_method_12_code 5 (some .boolean)) ({ frames := 4, cells := 0, slots := 0, locals := 280 }) (va_Pc [.ref (ad 1), .ref (g_K g tx), .int p0, .int p1] (Pw D T (cW T ad S) sz (EC g Bq ad))) (va_Qi (fun (r : Int32) (u : Unit) => r.toInt = 0 ∨ r.toInt = 1) (fun u t => Bw D T (va_A (cW T ad S) sz) (cW T ad S) t) (va_A (cW T ad S) sz)) 0 0 (va_A (cW T ad S) sz) := by
  refine j_met (y := ⟨"PageScribe$Stack", "fits", "(Ljava/lang/String;II)Z"⟩) (b := prog_9_method_12_code) (n := 5) (ret := (some .boolean)) (av := [.ref (ad 1), .ref (g_K g tx), .int p0, .int p1]) (Qc := fun A => va_Qi (fun (r : Int32) (u : Unit) => r.toInt = 0 ∨ r.toInt = 1) (fun u t => Bw D T A (cW T ad S) t) A) (by decide +kernel) (Nat.le_of_ble_eq_true rfl) (fun p e s m args below meth c A ls F hr hlocks hnm hK hP hD hS hA hN hE hl => ?_)
  obtain ⟨hx, hb, hml, hown, hts⟩ := id F
  have hl : lv_has ls 5 [(0, .ref (ad 1)), (1, .ref (g_K g tx)), (2, .int p0), (3, .int p1)] := hl
  obtain ⟨i_vst, i_vc0, i_vc1, i_vc2, i_vc3, i_vv0, i_vv1, i_vv2, i_vv3, i_vg, i_wct, i_wln, i_sd0, i_sd1, i_sd2, i_sd3, i_rln, i_rtx, i_rpl, i_rtk, i_cnv, i_pts, i_cik, i_und⟩ := id hI
  have hAB : ∀ q, A q → Bq q := EC.ab hE hN
  have hEV := hE.1.narrow hAB
  have rp0 := zt_rng p0
  have rp1 := zt_rng p1
  have htl := tx_le tx
  refine lv_iconst (v := 0) hx hb d_Stack_fits_0 (by decide) ?_
  refine lv_istore (lv' := [(4, .int 0), (0, .ref (ad 1)), (1, .ref (g_K g tx)), (2, .int p0), (3, .int p1)]) hx hb d_Stack_fits_1 hl (by decide) rfl (fun ls hl => ?_)
  refine j_loop (α := Int32) (fun k x H locs ls => (0 ≤ x.toInt ∧ p1.toInt ≤ x.toInt + ((k : Nat) : Int)) ∧ va_P D classes (cW T ad S) H ∧ va_D A (cW T ad S) ∧ va_S A s.heap H locs ∧ lv_has ls 5 [(4, .int x), (0, .ref (ad 1)), (1, .ref (g_K g tx)), (2, .int p0), (3, .int p1)]) (fun _ _ ls => F0 m 3 ls []) (fun k x H locs ls hI9 ih => ?_) p1.toInt.toNat (0 : Int32) _ _ _ ⟨(show 0 ≤ (0 : Int32).toInt ∧ p1.toInt ≤ (0 : Int32).toInt + ((p1.toInt.toNat : Nat) : Int) by have := tI_0; omega), hP, hD, hS, lv_sub hl [0, 1, 2, 3, 4] rfl⟩
  obtain ⟨i, rfl⟩ : ∃ z, z = x := ⟨_, rfl⟩
  obtain ⟨hf1, hP, hD, hS, hl⟩ := hI9
  have hf1 : 0 ≤ i.toInt ∧ p1.toInt ≤ i.toInt + ((k : Nat) : Int) := hf1
  have hP : va_P D classes (cW T ad S) H := hP
  have hD : va_D A (cW T ad S) := hD
  have hl : lv_has ls 5 [(4, .int i), (0, .ref (ad 1)), (1, .ref (g_K g tx)), (2, .int p0), (3, .int p1)] := hl
  refine lv_iload hx hb d_Stack_fits_3 (lv_at hl 0 rfl) ?_
  refine lv_iload_n hx hb d_Stack_fits_5 rfl (lv_at hl 4 rfl) ?_
  refine lv_icmp_ge (tgt := 41) hx hb d_Stack_fits_6 (by decide) (fun c6_1 => ?_) (fun c6_1 => ?_)
  · have fc6_1 : p1.toInt ≤ i.toInt := zt_le (show p1.toInt = _ from rfl) (show i.toInt = _ from rfl) c6_1
    refine lv_iconst (v := 1) hx hb d_Stack_fits_41 (by decide) ?_
    exact j_zret F hr (by decide +kernel) hlocks hK hS () (show (1 : Int32).toInt = 0 ∨ (1 : Int32).toInt = 1 by have := tI_1; omega) hP hD d_Stack_fits_42
  · have fc6_1 : i.toInt < p1.toInt := Int.not_le.mp (zt_nle (show p1.toInt = _ from rfl) (show i.toInt = _ from rfl) c6_1)
    refine lv_aload_n hx hb d_Stack_fits_9 rfl (lv_at hl 1 rfl) ?_
    refine lv_iload_n hx hb d_Stack_fits_10 rfl (lv_at hl 4 rfl) ?_
    refine lv_iconst (v := 1) hx hb d_Stack_fits_11 (by decide) ?_
    refine lv_isub hx hb d_Stack_fits_12 ?_
    refine lv_topi (fun x1 ex1 => ?_)
    have rx1 := zt_rng x1
    refine lv_iload hx hb d_Stack_fits_13 (lv_at hl 0 rfl) ?_
    refine lv_isub hx hb d_Stack_fits_15 ?_
    refine lv_topi (fun x2 ex2 => ?_)
    have rx2 := zt_rng x2
    refine jc_ci (w := (fun _ => S)) hK hP hD hS hA (va_runV (As := [.int x2]) (rest := []) F (c_Stack_kindDown l D T ad S x2  H.size) (j_cV (k := 1) (C := "PageScribe$Stack") hts k_2_120 k_1_3 k_4_25 k_2_118 k_2_119 (by decide +kernel) ⟨Nat.le_of_ble_eq_true rfl, Nat.le_of_ble_eq_true rfl⟩) (j_preV (q0 := 1) (ci := 0) hK hP hD csc csc_all csc_nd cl_0 (ce_1 _ _ _) (fun _ _ _ _ h => h) (fun _ _ _ => trivial)) rfl rfl hl.1 rfl (lv_room (Nat.le_of_ble_eq_true rfl)) d_Stack_fits_16 ⟨Nat.le_of_ble_eq_true rfl, Nat.le_of_ble_eq_true rfl⟩) (fun rv1 u1 H locs hw1 hP hD hS => ?_)
    have hP : va_P D classes (cW T ad S) H := hP
    have hD : va_D A (cW T ad S) := hD
    have rrv1 := zt_rng rv1
    refine lv_aload_n hx hb d_Stack_fits_19 rfl (lv_at hl 2 rfl) ?_
    refine lv_iload_n hx hb d_Stack_fits_20 rfl (lv_at hl 3 rfl) ?_
    refine lv_iload hx hb d_Stack_fits_21 (lv_at hl 0 rfl) ?_
    refine lv_iadd hx hb d_Stack_fits_23 ?_
    refine lv_topi (fun x3 ex3 => ?_)
    have fx3 : x3.toInt = (i.toInt + p0.toInt) := by rw [ex3]; exact (zt_add (show p0.toInt = _ from rfl) (show i.toInt = _ from rfl) (by omega) (by omega)).trans (by omega)
    refine jc_ci (w := (fun _ => S)) hK hP hD hS hA (va_runV (As := [.int x3]) (rest := [.int rv1]) F (c_String_charAt l D T ad g Bq S tx x3  H.size hi_tx (show 0 ≤ x3.toInt ∧ x3.toInt < ((txL.getD tx 0 : Nat) : Int) by first | omega | (simp only [fx3]; omega))) (j_cV (k := 1) (C := "java/lang/String") hts k_2_160 k_1_17 k_4_26 k_2_158 k_2_159 (by decide +kernel) ⟨Nat.le_of_ble_eq_true rfl, Nat.le_of_ble_eq_true rfl⟩) (jc_preO (j_preS hK hP hD csc csc_all csc_nd (fun _ _ _ _ h => EC.calling h) (fun U hU hW => EC.at hS hAB hU hW hE)) (hEV.2.2.2.2.1.1 _ hi_tx).1 hS) rfl rfl hl.1 rfl (lv_room (Nat.le_of_ble_eq_true rfl)) d_Stack_fits_24 ⟨Nat.le_of_ble_eq_true rfl, Nat.le_of_ble_eq_true rfl⟩) (fun rv2 u2 H locs hw2 hP hD hS => ?_)
    have hP : va_P D classes (cW T ad S) H := hP
    have hD : va_D A (cW T ad S) := hD
    have qhw2 : 0 ≤ rv2.toInt ∧ rv2.toInt ≤ 65535 := by simpa only [fx3] using hw2
    have rrv2 := zt_rng rv2
    refine j_ci (wc := []) (wr := (cW T ad S)) hK hP hD hS hA [] csc rfl csc_all csc_nd (fun _ _ => List.not_mem_nil) (va_runS (As := [.int rv1, .int rv2]) (rest := []) F (c_Stack_isOne l D T rv1 rv2  H.size) (j_cS (k := 2) hts k_4_29 k_1_3 k_4_27 k_4_28 (by decide +kernel) ⟨Nat.le_of_ble_eq_true rfl, Nat.le_of_ble_eq_true rfl⟩) (j_preS hK hP hD [] rfl (by decide) (fun _ _ _ _ h => h) (fun _ _ _ => trivial)) rfl rfl hl.1 rfl (lv_room (Nat.le_of_ble_eq_true rfl)) d_Stack_fits_27 ⟨Nat.le_of_ble_eq_true rfl, Nat.le_of_ble_eq_true rfl⟩) (fun rv3 u3 H locs hw3 hP hD hS => ?_)
    have hP : va_P D classes (cW T ad S) H := hP
    have hD : va_D A (cW T ad S) := hD
    have qhw3 : rv3.toInt = 0 ∨ rv3.toInt = 1 := hw3
    have rrv3 := zt_rng rv3
    refine lv_if_ne (tgt := 35) hx hb d_Stack_fits_30 (by decide) (fun c30_1 => ?_) (fun c30_1 => ?_)
    · first | have fc30_1 : rv3.toInt < 0 := (by have := zt_ne (show rv3.toInt = _ from rfl) tI_0 c30_1; omega) | have fc30_1 : 0 < rv3.toInt := (by have := zt_ne (show rv3.toInt = _ from rfl) tI_0 c30_1; omega) | skip
      refine lv_iinc (v := (i + 1)) (lv' := [(4, .int (i + 1)), (0, .ref (ad 1)), (1, .ref (g_K g tx)), (2, .int p0), (3, .int p1)]) hx hb d_Stack_fits_35 hl (k := 0) rfl (by first | rfl | decide) (by decide) rfl (fun ls hl => ?_)
      obtain ⟨x4, ex4⟩ : ∃ z, z = (i + 1) := ⟨_, rfl⟩
      rw [← ex4] at hl
      have fx4 : x4.toInt = (i.toInt + 1) := by rw [ex4]; exact (zt_add (show i.toInt = _ from rfl) tI_1 (by omega) (by omega)).trans (by omega)
      have hl : lv_has ls 5 [(4, .int x4), (0, .ref (ad 1)), (1, .ref (g_K g tx)), (2, .int p0), (3, .int p1)] := hl
      refine lv_goto (tgt := 3) hx hb d_Stack_fits_38 (by decide) ?_
      exact ih (k - 1) x4 _ _ _ (by omega) ⟨(show 0 ≤ x4.toInt ∧ p1.toInt ≤ x4.toInt + (((k - 1) : Nat) : Int) by omega), hP, hD, hS, lv_sub hl [0, 1, 2, 3, 4] rfl⟩
    · have fc30_1 : rv3.toInt = 0 := zt_eq (show rv3.toInt = _ from rfl) tI_0 c30_1
      refine lv_iconst (v := 0) hx hb d_Stack_fits_33 (by decide) ?_
      exact j_zret F hr (by decide +kernel) hlocks hK hS () (show (0 : Int32).toInt = 0 ∨ (0 : Int32).toInt = 1 by have := tI_0; omega) hP hD d_Stack_fits_34
theorem d_Stack_check_0 : decode prog_9_method_11_code 0 = .ok (.aload_n 1, 1) := by decide +kernel
theorem d_Stack_check_1 : decode prog_9_method_11_code 1 = .ok (.bipush 124, 2) := by decide +kernel
theorem d_Stack_check_3 : decode prog_9_method_11_code 3 = .ok (.invokevirtual 42, 3) := by decide +kernel
theorem k_3_204 : Cond.code ⟨"java/lang/String", "indexOf", "(I)I"⟩ prog_24_method_79_code 2 (some .int) ∈ gw := gw_of (tb_3 (List.mem_of_getElem? (i := 204) (by decide +kernel))) (by decide +kernel)
theorem k_3_201 : Cond.methodLink "PageScribe$Stack" 42 ⟨"java/lang/String", "indexOf", "(I)I"⟩ ∈ gw := gw_of (tb_3 (List.mem_of_getElem? (i := 201) (by decide +kernel))) (by decide +kernel)
theorem k_3_202 : Cond.instanceMethod ⟨"java/lang/String", "indexOf", "(I)I"⟩ ∈ gw := gw_of (tb_3 (List.mem_of_getElem? (i := 202) (by decide +kernel))) (by decide +kernel)
theorem k_3_203 : Cond.selects "java/lang/String" ⟨"java/lang/String", "indexOf", "(I)I"⟩ ⟨"java/lang/String", "indexOf", "(I)I"⟩ ∈ gw := gw_of (tb_3 (List.mem_of_getElem? (i := 203) (by decide +kernel))) (by decide +kernel)
theorem tI_124 : (124 : Int32).toInt = 124 := by decide +kernel
theorem d_Stack_check_6 : decode prog_9_method_11_code 6 = .ok (.istore_n 2, 1) := by decide +kernel
theorem d_Stack_check_19 : decode prog_9_method_11_code 19 = .ok (.istore_n 3, 1) := by decide +kernel
theorem d_Stack_check_20 : decode prog_9_method_11_code 20 = .ok (.aload_n 0, 1) := by decide +kernel
theorem d_Stack_check_21 : decode prog_9_method_11_code 21 = .ok (.getfield 9, 3) := by decide +kernel
theorem d_Stack_check_24 : decode prog_9_method_11_code 24 = .ok (.iload_n 3, 1) := by decide +kernel
theorem d_Stack_check_25 : decode prog_9_method_11_code 25 = .ok (.if_icmp .ge 5, 3) := by decide +kernel
theorem d_Stack_check_30 : decode prog_9_method_11_code 30 = .ok (.iconst 0, 1) := by decide +kernel
theorem d_Stack_check_31 : decode prog_9_method_11_code 31 = .ok (.istore 4, 2) := by decide +kernel
theorem d_Stack_check_33 : decode prog_9_method_11_code 33 = .ok (.iload 4, 2) := by decide +kernel
theorem d_Stack_check_35 : decode prog_9_method_11_code 35 = .ok (.iload_n 3, 1) := by decide +kernel
theorem d_Stack_check_36 : decode prog_9_method_11_code 36 = .ok (.iadd, 1) := by decide +kernel
theorem d_Stack_check_37 : decode prog_9_method_11_code 37 = .ok (.aload_n 1, 1) := by decide +kernel
theorem d_Stack_check_38 : decode prog_9_method_11_code 38 = .ok (.invokevirtual 47, 3) := by decide +kernel
theorem k_4_20 : Cond.methodLink "PageScribe$Stack" 47 ⟨"java/lang/String", "length", "()I"⟩ ∈ gw := gw_of (tb_4 (List.mem_of_getElem? (i := 20) (by decide +kernel))) (by decide +kernel)
theorem d_Stack_check_41 : decode prog_9_method_11_code 41 = .ok (.if_icmp .gt 27, 3) := by decide +kernel
theorem d_Stack_check_68 : decode prog_9_method_11_code 68 = .ok (.iconst 3, 1) := by decide +kernel
theorem d_Stack_check_69 : decode prog_9_method_11_code 69 = .ok (.ireturn, 1) := by decide +kernel
theorem d_Stack_check_44 : decode prog_9_method_11_code 44 = .ok (.aload_n 0, 1) := by decide +kernel
theorem d_Stack_check_45 : decode prog_9_method_11_code 45 = .ok (.aload_n 1, 1) := by decide +kernel
theorem d_Stack_check_46 : decode prog_9_method_11_code 46 = .ok (.iload 4, 2) := by decide +kernel
theorem d_Stack_check_48 : decode prog_9_method_11_code 48 = .ok (.iload_n 3, 1) := by decide +kernel
theorem d_Stack_check_49 : decode prog_9_method_11_code 49 = .ok (.invokevirtual 51, 3) := by decide +kernel
theorem k_4_24 : Cond.code ⟨"PageScribe$Stack", "fits", "(Ljava/lang/String;II)Z"⟩ prog_9_method_12_code 5 (some .boolean) ∈ gw := gw_of (tb_4 (List.mem_of_getElem? (i := 24) (by decide +kernel))) (by decide +kernel)
theorem k_4_21 : Cond.methodLink "PageScribe$Stack" 51 ⟨"PageScribe$Stack", "fits", "(Ljava/lang/String;II)Z"⟩ ∈ gw := gw_of (tb_4 (List.mem_of_getElem? (i := 21) (by decide +kernel))) (by decide +kernel)
theorem k_4_23 : Cond.instanceMethod ⟨"PageScribe$Stack", "fits", "(Ljava/lang/String;II)Z"⟩ ∈ gw := gw_of (tb_4 (List.mem_of_getElem? (i := 23) (by decide +kernel))) (by decide +kernel)
theorem k_0_17 : Cond.selects "PageScribe$Stack" ⟨"PageScribe$Stack", "fits", "(Ljava/lang/String;II)Z"⟩ ⟨"PageScribe$Stack", "fits", "(Ljava/lang/String;II)Z"⟩ ∈ gw := gw_of (tb_0 (List.mem_of_getElem? (i := 17) (by decide +kernel))) (by decide +kernel)
theorem d_Stack_check_52 : decode prog_9_method_11_code 52 = .ok (.ifCond .eq 5, 3) := by decide +kernel
theorem d_Stack_check_57 : decode prog_9_method_11_code 57 = .ok (.iload 4, 2) := by decide +kernel
theorem d_Stack_check_59 : decode prog_9_method_11_code 59 = .ok (.iload_n 3, 1) := by decide +kernel
theorem d_Stack_check_60 : decode prog_9_method_11_code 60 = .ok (.iconst 1, 1) := by decide +kernel
theorem d_Stack_check_61 : decode prog_9_method_11_code 61 = .ok (.iadd, 1) := by decide +kernel
theorem d_Stack_check_62 : decode prog_9_method_11_code 62 = .ok (.iadd, 1) := by decide +kernel
theorem d_Stack_check_63 : decode prog_9_method_11_code 63 = .ok (.istore 4, 2) := by decide +kernel
theorem d_Stack_check_65 : decode prog_9_method_11_code 65 = .ok (.goto (-32), 3) := by decide +kernel
theorem d_Stack_check_55 : decode prog_9_method_11_code 55 = .ok (.iconst 0, 1) := by decide +kernel
theorem d_Stack_check_56 : decode prog_9_method_11_code 56 = .ok (.ireturn, 1) := by decide +kernel
theorem d_Stack_check_28 : decode prog_9_method_11_code 28 = .ok (.iconst 1, 1) := by decide +kernel
theorem d_Stack_check_29 : decode prog_9_method_11_code 29 = .ok (.ireturn, 1) := by decide +kernel
theorem d_Stack_check_7 : decode prog_9_method_11_code 7 = .ok (.iload_n 2, 1) := by decide +kernel
theorem d_Stack_check_8 : decode prog_9_method_11_code 8 = .ok (.ifCond .ge 10, 3) := by decide +kernel
theorem d_Stack_check_18 : decode prog_9_method_11_code 18 = .ok (.iload_n 2, 1) := by decide +kernel
theorem d_Stack_check_11 : decode prog_9_method_11_code 11 = .ok (.aload_n 1, 1) := by decide +kernel
theorem d_Stack_check_12 : decode prog_9_method_11_code 12 = .ok (.invokevirtual 47, 3) := by decide +kernel
theorem d_Stack_check_15 : decode prog_9_method_11_code 15 = .ok (.goto 4, 3) := by decide +kernel
set_option maxHeartbeats 4000000 in
set_option maxRecDepth 100000 in
theorem c_Stack_check (l : Launch) (D : va_G) (T : Nat → ClassId) (ad : Nat → Nat) (g : GE) (Bq : Nat → Prop) (S : CS) (tx : Nat) (sz : Nat) (hi_tx : tx < 97) (hI : CIv S) : Met l ⟨"PageScribe$Stack", "check", "(Ljava/lang/String;)I"⟩ (wy ⟨"PageScribe$Stack", "check", "(Ljava/lang/String;)I"⟩ prog_9_method_11_code 5 (some .int)) ({ frames := 5, cells := 0, slots := 0, locals := 350 }) (va_Pc [.ref (ad 1), .ref (g_K g tx)] (Pw D T (cW T ad S) sz (EC g Bq ad))) (va_Qi (fun (r : Int32) (u : Unit) => True) (fun u t => Bw D T (va_A (cW T ad S) sz) (cW T ad S) t) (va_A (cW T ad S) sz)) 0 0 (va_A (cW T ad S) sz) := by
  refine j_met (y := ⟨"PageScribe$Stack", "check", "(Ljava/lang/String;)I"⟩) (b := prog_9_method_11_code) (n := 5) (ret := (some .int)) (av := [.ref (ad 1), .ref (g_K g tx)]) (Qc := fun A => va_Qi (fun (r : Int32) (u : Unit) => True) (fun u t => Bw D T A (cW T ad S) t) A) (by decide +kernel) (Nat.le_of_ble_eq_true rfl) (fun p e s m args below meth c A ls F hr hlocks hnm hK hP hD hS hA hN hE hl => ?_)
  obtain ⟨hx, hb, hml, hown, hts⟩ := id F
  have hl : lv_has ls 5 [(0, .ref (ad 1)), (1, .ref (g_K g tx))] := hl
  obtain ⟨i_vst, i_vc0, i_vc1, i_vc2, i_vc3, i_vv0, i_vv1, i_vv2, i_vv3, i_vg, i_wct, i_wln, i_sd0, i_sd1, i_sd2, i_sd3, i_rln, i_rtx, i_rpl, i_rtk, i_cnv, i_pts, i_cik, i_und⟩ := id hI
  have hAB : ∀ q, A q → Bq q := EC.ab hE hN
  have hEV := hE.1.narrow hAB
  have htl := tx_le tx
  refine lv_aload_n hx hb d_Stack_check_0 rfl (lv_at hl 1 rfl) ?_
  refine lv_bipush (v := 124) hx hb d_Stack_check_1 (by decide) ?_
  refine jc_ci (w := (fun _ => S)) hK hP hD hS hA (va_runV (As := [.int 124]) (rest := []) F (c_String_indexOf l D T ad g Bq S tx (124 : Int32)  s.heap.size hi_tx) (j_cV (k := 1) (C := "java/lang/String") hts k_3_204 k_1_17 k_3_201 k_3_202 k_3_203 (by decide +kernel) ⟨Nat.le_of_ble_eq_true rfl, Nat.le_of_ble_eq_true rfl⟩) (jc_preO (j_preS hK hP hD csc csc_all csc_nd (fun _ _ _ _ h => EC.calling h) (fun U hU hW => EC.at hS hAB hU hW hE)) (hEV.2.2.2.2.1.1 _ hi_tx).1 hS) rfl rfl hl.1 rfl (lv_room (Nat.le_of_ble_eq_true rfl)) d_Stack_check_3 ⟨Nat.le_of_ble_eq_true rfl, Nat.le_of_ble_eq_true rfl⟩) (fun rv1 u1 H locs hw1 hP hD hS => ?_)
  have hP : va_P D classes (cW T ad S) H := hP
  have hD : va_D A (cW T ad S) := hD
  have qhw1 : -1 ≤ rv1.toInt ∧ (rv1.toInt = -1 ∨ rv1.toInt < ((txL.getD tx 0 : Nat) : Int)) := by simpa only [tI_124] using hw1
  have rrv1 := zt_rng rv1
  refine lv_istore_n (lv' := [(2, .int rv1), (0, .ref (ad 1)), (1, .ref (g_K g tx))]) hx hb d_Stack_check_6 rfl hl (by decide) rfl (fun ls hl => ?_)
  refine j_joinH (α := Int32) (fun x H locs ls => (0 ≤ x.toInt ∧ x.toInt ≤ ((txL.getD tx 0 : Nat) : Int)) ∧ va_P D classes (cW T ad S) H ∧ va_D A (cW T ad S) ∧ va_S A s.heap H locs ∧ lv_has ls 5 [(2, .int rv1), (0, .ref (ad 1)), (1, .ref (g_K g tx))]) (fun x ls => F0 m 19 ls (.int x :: [])) (fun x H locs ls hI9 => ?_) (fun key1 => ?_)
  · obtain ⟨j1, rfl⟩ : ∃ z, z = x := ⟨_, rfl⟩
    obtain ⟨hj1, hP, hD, hS, hl⟩ := hI9
    have hj1 : 0 ≤ j1.toInt ∧ j1.toInt ≤ ((txL.getD tx 0 : Nat) : Int) := hj1
    have hP : va_P D classes (cW T ad S) H := hP
    have hD : va_D A (cW T ad S) := hD
    have hl : lv_has ls 5 [(2, .int rv1), (0, .ref (ad 1)), (1, .ref (g_K g tx))] := hl
    refine lv_istore_n (lv' := [(3, .int j1), (2, .int rv1), (0, .ref (ad 1)), (1, .ref (g_K g tx))]) hx hb d_Stack_check_19 rfl hl (by decide) rfl (fun ls hl => ?_)
    refine lv_aload_n hx hb d_Stack_check_20 rfl (lv_at hl 2 rfl) ?_
    refine va_get (D := D) (ci := 0) (v := .int (f_xst_z S)) (C := "PageScribe$Stack") (T := F_Stack) (N := 4) hx hb hts i_Stack hown hK hP 1 (ce_1 _ _ _) cl_0 3 (by decide) (hts _ k_1_50) (fun x9 h9 => u_same (hts _ k_1_51) x9 h9) rfl d_Stack_check_21 ?_
    refine lv_iload_n hx hb d_Stack_check_24 rfl (lv_at hl 0 rfl) ?_
    refine lv_icmp_ge (tgt := 30) hx hb d_Stack_check_25 (by decide) (fun c25_1 => ?_) (fun c25_1 => ?_)
    · have fc25_1 : j1.toInt ≤ (f_xst_z S).toInt := zt_le (show j1.toInt = _ from rfl) (show (f_xst_z S).toInt = _ from rfl) c25_1
      refine lv_iconst (v := 0) hx hb d_Stack_check_30 (by decide) ?_
      refine lv_istore (lv' := [(4, .int 0), (3, .int j1), (2, .int rv1), (0, .ref (ad 1)), (1, .ref (g_K g tx))]) hx hb d_Stack_check_31 hl (by decide) rfl (fun ls hl => ?_)
      refine j_loop (α := Int32) (fun k x H locs ls => (0 ≤ x.toInt ∧ x.toInt ≤ ((txL.getD tx 0 : Nat) : Int) + 1 ∧ ((txL.getD tx 0 : Nat) : Int) + 1 ≤ x.toInt + ((k : Nat) : Int)) ∧ va_P D classes (cW T ad S) H ∧ va_D A (cW T ad S) ∧ va_S A s.heap H locs ∧ lv_has ls 5 [(4, .int x), (3, .int j1), (2, .int rv1), (0, .ref (ad 1)), (1, .ref (g_K g tx))]) (fun _ _ ls => F0 m 33 ls []) (fun k x H locs ls hI9 ih => ?_) (txL.getD tx 0 + 1) (0 : Int32) _ _ _ ⟨(show 0 ≤ (0 : Int32).toInt ∧ (0 : Int32).toInt ≤ ((txL.getD tx 0 : Nat) : Int) + 1 ∧ ((txL.getD tx 0 : Nat) : Int) + 1 ≤ (0 : Int32).toInt + (((txL.getD tx 0 + 1) : Nat) : Int) by have := tI_0; omega), hP, hD, hS, lv_sub hl [0, 1, 2, 3, 4] rfl⟩
      obtain ⟨i, rfl⟩ : ∃ z, z = x := ⟨_, rfl⟩
      obtain ⟨hf1, hP, hD, hS, hl⟩ := hI9
      have hf1 : 0 ≤ i.toInt ∧ i.toInt ≤ ((txL.getD tx 0 : Nat) : Int) + 1 ∧ ((txL.getD tx 0 : Nat) : Int) + 1 ≤ i.toInt + ((k : Nat) : Int) := hf1
      have hP : va_P D classes (cW T ad S) H := hP
      have hD : va_D A (cW T ad S) := hD
      have hl : lv_has ls 5 [(4, .int i), (3, .int j1), (2, .int rv1), (0, .ref (ad 1)), (1, .ref (g_K g tx))] := hl
      refine lv_iload hx hb d_Stack_check_33 (lv_at hl 0 rfl) ?_
      refine lv_iload_n hx hb d_Stack_check_35 rfl (lv_at hl 1 rfl) ?_
      refine lv_iadd hx hb d_Stack_check_36 ?_
      refine lv_topi (fun x1 ex1 => ?_)
      have fx1 : x1.toInt = (i.toInt + j1.toInt) := by rw [ex1]; exact (zt_add (show i.toInt = _ from rfl) (show j1.toInt = _ from rfl) (by omega) (by omega)).trans (by omega)
      refine lv_aload_n hx hb d_Stack_check_37 rfl (lv_at hl 4 rfl) ?_
      refine jc_ci (w := (fun _ => S)) hK hP hD hS hA (va_runV (As := []) (rest := [.int x1]) F (c_String_length l D T ad g Bq S tx  H.size hi_tx) (j_cV (k := 0) (C := "java/lang/String") hts k_2_150 k_1_17 k_4_20 k_2_148 k_2_149 (by decide +kernel) ⟨Nat.le_of_ble_eq_true rfl, Nat.le_of_ble_eq_true rfl⟩) (jc_preO (j_preS hK hP hD csc csc_all csc_nd (fun _ _ _ _ h => EC.calling h) (fun U hU hW => EC.at hS hAB hU hW hE)) (hEV.2.2.2.2.1.1 _ hi_tx).1 hS) rfl rfl hl.1 rfl (lv_room (Nat.le_of_ble_eq_true rfl)) d_Stack_check_38 ⟨Nat.le_of_ble_eq_true rfl, Nat.le_of_ble_eq_true rfl⟩) (fun rv2 u2 H locs hw2 hP hD hS => ?_)
      have hP : va_P D classes (cW T ad S) H := hP
      have hD : va_D A (cW T ad S) := hD
      have qhw2 : rv2.toInt = ((txL.getD tx 0 : Nat) : Int) := hw2
      have rrv2 := zt_rng rv2
      refine lv_icmp_gt (tgt := 68) hx hb d_Stack_check_41 (by decide) (fun c41_1 => ?_) (fun c41_1 => ?_)
      · have fc41_1 : rv2.toInt < (i.toInt + j1.toInt) := zt_lt (show rv2.toInt = _ from rfl) fx1 c41_1
        refine lv_iconst (v := 3) hx hb d_Stack_check_68 (by decide) ?_
        exact j_iret F hr hlocks hK hS () trivial hP hD d_Stack_check_69
      · have fc41_1 : (i.toInt + j1.toInt) ≤ rv2.toInt := Int.not_lt.mp (zt_nlt (show rv2.toInt = _ from rfl) fx1 c41_1)
        refine lv_aload_n hx hb d_Stack_check_44 rfl (lv_at hl 3 rfl) ?_
        refine lv_aload_n hx hb d_Stack_check_45 rfl (lv_at hl 4 rfl) ?_
        refine lv_iload hx hb d_Stack_check_46 (lv_at hl 0 rfl) ?_
        refine lv_iload_n hx hb d_Stack_check_48 rfl (lv_at hl 1 rfl) ?_
        refine jc_ci (w := (fun _ => S)) hK hP hD hS hA (va_runV (As := [.ref (g_K g tx), .int i, .int j1]) (rest := []) F (c_Stack_fits l D T ad g Bq S tx i j1  H.size hi_tx ⟨i_vst, i_vc0, i_vc1, i_vc2, i_vc3, i_vv0, i_vv1, i_vv2, i_vv3, i_vg, i_wct, i_wln, i_sd0, i_sd1, i_sd2, i_sd3, i_rln, i_rtx, i_rpl, i_rtk, i_cnv, i_pts, i_cik, i_und⟩ (show 0 ≤ i.toInt ∧ 0 ≤ j1.toInt ∧ i.toInt + j1.toInt ≤ ((txL.getD tx 0 : Nat) : Int) by omega)) (j_cV (k := 3) (C := "PageScribe$Stack") hts k_4_24 k_1_3 k_4_21 k_4_23 k_0_17 (by decide +kernel) ⟨Nat.le_of_ble_eq_true rfl, Nat.le_of_ble_eq_true rfl⟩) (j_preV (q0 := 1) (ci := 0) hK hP hD csc csc_all csc_nd cl_0 (ce_1 _ _ _) (fun _ _ _ _ h => EC.calling h) (fun U hU hW => EC.at hS hAB hU hW hE)) rfl rfl hl.1 rfl (lv_room (Nat.le_of_ble_eq_true rfl)) d_Stack_check_49 ⟨Nat.le_of_ble_eq_true rfl, Nat.le_of_ble_eq_true rfl⟩) (fun rv3 u3 H locs hw3 hP hD hS => ?_)
        have hP : va_P D classes (cW T ad S) H := hP
        have hD : va_D A (cW T ad S) := hD
        have qhw3 : rv3.toInt = 0 ∨ rv3.toInt = 1 := hw3
        have rrv3 := zt_rng rv3
        refine lv_if_eq (tgt := 57) hx hb d_Stack_check_52 (by decide) (fun c52_1 => ?_) (fun c52_1 => ?_)
        · have fc52_1 : rv3.toInt = 0 := zt_eq (show rv3.toInt = _ from rfl) tI_0 c52_1
          refine lv_iload hx hb d_Stack_check_57 (lv_at hl 0 rfl) ?_
          refine lv_iload_n hx hb d_Stack_check_59 rfl (lv_at hl 1 rfl) ?_
          refine lv_iconst (v := 1) hx hb d_Stack_check_60 (by decide) ?_
          refine lv_iadd hx hb d_Stack_check_61 ?_
          refine lv_topi (fun x2 ex2 => ?_)
          have fx2 : x2.toInt = (j1.toInt + 1) := by rw [ex2]; exact (zt_add (show j1.toInt = _ from rfl) tI_1 (by omega) (by omega)).trans (by omega)
          refine lv_iadd hx hb d_Stack_check_62 ?_
          refine lv_topi (fun x3 ex3 => ?_)
          have fx3 : x3.toInt = (i.toInt + j1.toInt + 1) := by rw [ex3]; exact (zt_add (show i.toInt = _ from rfl) fx2 (by omega) (by omega)).trans (by omega)
          refine lv_istore (lv' := [(4, .int x3), (3, .int j1), (2, .int rv1), (0, .ref (ad 1)), (1, .ref (g_K g tx))]) hx hb d_Stack_check_63 hl (by decide) rfl (fun ls hl => ?_)
          refine lv_goto (tgt := 33) hx hb d_Stack_check_65 (by decide) ?_
          exact ih (k - 1) x3 _ _ _ (by omega) ⟨(show 0 ≤ x3.toInt ∧ x3.toInt ≤ ((txL.getD tx 0 : Nat) : Int) + 1 ∧ ((txL.getD tx 0 : Nat) : Int) + 1 ≤ x3.toInt + (((k - 1) : Nat) : Int) by omega), hP, hD, hS, lv_sub hl [0, 1, 2, 3, 4] rfl⟩
        · first | have fc52_1 : rv3.toInt < 0 := (by have := zt_ne (show rv3.toInt = _ from rfl) tI_0 c52_1; omega) | have fc52_1 : 0 < rv3.toInt := (by have := zt_ne (show rv3.toInt = _ from rfl) tI_0 c52_1; omega) | skip
          refine lv_iconst (v := 0) hx hb d_Stack_check_55 (by decide) ?_
          exact j_iret F hr hlocks hK hS () trivial hP hD d_Stack_check_56
    · have fc25_1 : (f_xst_z S).toInt < j1.toInt := Int.not_le.mp (zt_nle (show j1.toInt = _ from rfl) (show (f_xst_z S).toInt = _ from rfl) c25_1)
      refine lv_iconst (v := 1) hx hb d_Stack_check_28 (by decide) ?_
      exact j_iret F hr hlocks hK hS () trivial hP hD d_Stack_check_29
  · refine lv_iload_n hx hb d_Stack_check_7 rfl (lv_at hl 0 rfl) ?_
    refine lv_if_ge (tgt := 18) hx hb d_Stack_check_8 (by decide) (fun c8_1 => ?_) (fun c8_1 => ?_)
    · have fc8_1 : 0 ≤ rv1.toInt := zt_le tI_0 (show rv1.toInt = _ from rfl) c8_1
      refine lv_iload_n hx hb d_Stack_check_18 rfl (lv_at hl 0 rfl) ?_
      exact key1 (rv1) _ _ _ ⟨(show 0 ≤ rv1.toInt ∧ rv1.toInt ≤ ((txL.getD tx 0 : Nat) : Int) by omega), hP, hD, hS, lv_sub hl [0, 1, 2] rfl⟩
    · have fc8_1 : rv1.toInt < 0 := Int.not_le.mp (zt_nle tI_0 (show rv1.toInt = _ from rfl) c8_1)
      refine lv_aload_n hx hb d_Stack_check_11 rfl (lv_at hl 2 rfl) ?_
      refine jc_ci (w := (fun _ => S)) hK hP hD hS hA (va_runV (As := []) (rest := []) F (c_String_length l D T ad g Bq S tx  H.size hi_tx) (j_cV (k := 0) (C := "java/lang/String") hts k_2_150 k_1_17 k_4_20 k_2_148 k_2_149 (by decide +kernel) ⟨Nat.le_of_ble_eq_true rfl, Nat.le_of_ble_eq_true rfl⟩) (jc_preO (j_preS hK hP hD csc csc_all csc_nd (fun _ _ _ _ h => EC.calling h) (fun U hU hW => EC.at hS hAB hU hW hE)) (hEV.2.2.2.2.1.1 _ hi_tx).1 hS) rfl rfl hl.1 rfl (lv_room (Nat.le_of_ble_eq_true rfl)) d_Stack_check_12 ⟨Nat.le_of_ble_eq_true rfl, Nat.le_of_ble_eq_true rfl⟩) (fun rv4 u4 H locs hw4 hP hD hS => ?_)
      have hP : va_P D classes (cW T ad S) H := hP
      have hD : va_D A (cW T ad S) := hD
      have qhw4 : rv4.toInt = ((txL.getD tx 0 : Nat) : Int) := hw4
      have rrv4 := zt_rng rv4
      refine lv_goto (tgt := 19) hx hb d_Stack_check_15 (by decide) ?_
      exact key1 (rv4) _ _ _ ⟨(show 0 ≤ rv4.toInt ∧ rv4.toInt ≤ ((txL.getD tx 0 : Nat) : Int) by omega), hP, hD, hS, lv_sub hl [0, 1, 2] rfl⟩
