theorem d_Truths_alike_0 : decode prog_12_method_3_code 0 = .ok (.aload_n 0, 1) := by decide +kernel
theorem d_Truths_alike_1 : decode prog_12_method_3_code 1 = .ok (.getfield 9, 3) := by decide +kernel
theorem k_2_18 : Cond.fieldLink "PageScribe$Truths" 9 "PageScribe$Truths" "stack" "LPageScribe$Stack;" ∈ gw := gw_of (tb_2 (List.mem_of_getElem? (i := 18) (by decide +kernel))) (by decide +kernel)
theorem d_Truths_alike_4 : decode prog_12_method_3_code 4 = .ok (.iconst 1, 1) := by decide +kernel
theorem d_Truths_alike_5 : decode prog_12_method_3_code 5 = .ok (.invokevirtual 63, 3) := by decide +kernel
theorem k_4_184 : Cond.methodLink "PageScribe$Truths" 63 ⟨"PageScribe$Stack", "kindDown", "(I)I"⟩ ∈ gw := gw_of (tb_4 (List.mem_of_getElem? (i := 184) (by decide +kernel))) (by decide +kernel)
theorem d_Truths_alike_8 : decode prog_12_method_3_code 8 = .ok (.bipush 7, 2) := by decide +kernel
theorem d_Truths_alike_10 : decode prog_12_method_3_code 10 = .ok (.iand, 1) := by decide +kernel
theorem d_Truths_alike_11 : decode prog_12_method_3_code 11 = .ok (.istore_n 1, 1) := by decide +kernel
theorem d_Truths_alike_12 : decode prog_12_method_3_code 12 = .ok (.aload_n 0, 1) := by decide +kernel
theorem d_Truths_alike_13 : decode prog_12_method_3_code 13 = .ok (.getfield 9, 3) := by decide +kernel
theorem d_Truths_alike_16 : decode prog_12_method_3_code 16 = .ok (.iconst 0, 1) := by decide +kernel
theorem d_Truths_alike_17 : decode prog_12_method_3_code 17 = .ok (.invokevirtual 63, 3) := by decide +kernel
theorem d_Truths_alike_20 : decode prog_12_method_3_code 20 = .ok (.bipush 7, 2) := by decide +kernel
theorem d_Truths_alike_22 : decode prog_12_method_3_code 22 = .ok (.iand, 1) := by decide +kernel
theorem d_Truths_alike_23 : decode prog_12_method_3_code 23 = .ok (.istore_n 2, 1) := by decide +kernel
theorem d_Truths_alike_24 : decode prog_12_method_3_code 24 = .ok (.iload_n 1, 1) := by decide +kernel
theorem d_Truths_alike_25 : decode prog_12_method_3_code 25 = .ok (.iconst 1, 1) := by decide +kernel
theorem d_Truths_alike_26 : decode prog_12_method_3_code 26 = .ok (.if_icmp .gt 34, 3) := by decide +kernel
theorem d_Truths_alike_60 : decode prog_12_method_3_code 60 = .ok (.iload_n 1, 1) := by decide +kernel
theorem d_Truths_alike_61 : decode prog_12_method_3_code 61 = .ok (.iload_n 2, 1) := by decide +kernel
theorem d_Truths_alike_62 : decode prog_12_method_3_code 62 = .ok (.if_icmp .eq 5, 3) := by decide +kernel
theorem d_Truths_alike_67 : decode prog_12_method_3_code 67 = .ok (.aload_n 0, 1) := by decide +kernel
theorem d_Truths_alike_68 : decode prog_12_method_3_code 68 = .ok (.getfield 9, 3) := by decide +kernel
theorem d_Truths_alike_71 : decode prog_12_method_3_code 71 = .ok (.iconst 1, 1) := by decide +kernel
theorem d_Truths_alike_72 : decode prog_12_method_3_code 72 = .ok (.invokevirtual 79, 3) := by decide +kernel
theorem k_4_186 : Cond.methodLink "PageScribe$Truths" 79 ⟨"PageScribe$Stack", "numberDown", "(I)I"⟩ ∈ gw := gw_of (tb_4 (List.mem_of_getElem? (i := 186) (by decide +kernel))) (by decide +kernel)
theorem d_Truths_alike_75 : decode prog_12_method_3_code 75 = .ok (.istore_n 3, 1) := by decide +kernel
theorem d_Truths_alike_76 : decode prog_12_method_3_code 76 = .ok (.aload_n 0, 1) := by decide +kernel
theorem d_Truths_alike_77 : decode prog_12_method_3_code 77 = .ok (.getfield 9, 3) := by decide +kernel
theorem d_Truths_alike_80 : decode prog_12_method_3_code 80 = .ok (.iconst 0, 1) := by decide +kernel
theorem d_Truths_alike_81 : decode prog_12_method_3_code 81 = .ok (.invokevirtual 79, 3) := by decide +kernel
theorem d_Truths_alike_84 : decode prog_12_method_3_code 84 = .ok (.istore 4, 2) := by decide +kernel
theorem d_Truths_alike_86 : decode prog_12_method_3_code 86 = .ok (.iload_n 3, 1) := by decide +kernel
theorem d_Truths_alike_87 : decode prog_12_method_3_code 87 = .ok (.iload 4, 2) := by decide +kernel
theorem d_Truths_alike_89 : decode prog_12_method_3_code 89 = .ok (.if_icmp .eq 23, 3) := by decide +kernel
theorem d_Truths_alike_112 : decode prog_12_method_3_code 112 = .ok (.iconst 1, 1) := by decide +kernel
theorem d_Truths_alike_113 : decode prog_12_method_3_code 113 = .ok (.goto 4, 3) := by decide +kernel
theorem d_Truths_alike_117 : decode prog_12_method_3_code 117 = .ok (.ireturn, 1) := by decide +kernel
theorem d_Truths_alike_92 : decode prog_12_method_3_code 92 = .ok (.iload_n 1, 1) := by decide +kernel
theorem d_Truths_alike_93 : decode prog_12_method_3_code 93 = .ok (.iconst 5, 1) := by decide +kernel
theorem d_Truths_alike_94 : decode prog_12_method_3_code 94 = .ok (.if_icmp .ne 22, 3) := by decide +kernel
theorem d_Truths_alike_116 : decode prog_12_method_3_code 116 = .ok (.iconst 0, 1) := by decide +kernel
theorem d_Truths_alike_97 : decode prog_12_method_3_code 97 = .ok (.iload_n 3, 1) := by decide +kernel
theorem d_Truths_alike_98 : decode prog_12_method_3_code 98 = .ok (.invokestatic 82, 3) := by decide +kernel
theorem d_Truths_alike_101 : decode prog_12_method_3_code 101 = .ok (.ifCond .ne 15, 3) := by decide +kernel
theorem d_Truths_alike_104 : decode prog_12_method_3_code 104 = .ok (.iload 4, 2) := by decide +kernel
theorem d_Truths_alike_106 : decode prog_12_method_3_code 106 = .ok (.invokestatic 82, 3) := by decide +kernel
theorem d_Truths_alike_109 : decode prog_12_method_3_code 109 = .ok (.ifCond .ne 7, 3) := by decide +kernel
theorem d_Truths_alike_65 : decode prog_12_method_3_code 65 = .ok (.iconst 0, 1) := by decide +kernel
theorem d_Truths_alike_66 : decode prog_12_method_3_code 66 = .ok (.ireturn, 1) := by decide +kernel
theorem d_Truths_alike_29 : decode prog_12_method_3_code 29 = .ok (.iload_n 2, 1) := by decide +kernel
theorem d_Truths_alike_30 : decode prog_12_method_3_code 30 = .ok (.iconst 1, 1) := by decide +kernel
theorem d_Truths_alike_31 : decode prog_12_method_3_code 31 = .ok (.if_icmp .gt 29, 3) := by decide +kernel
theorem d_Truths_alike_34 : decode prog_12_method_3_code 34 = .ok (.aload_n 0, 1) := by decide +kernel
theorem d_Truths_alike_35 : decode prog_12_method_3_code 35 = .ok (.getfield 9, 3) := by decide +kernel
theorem d_Truths_alike_38 : decode prog_12_method_3_code 38 = .ok (.iconst 1, 1) := by decide +kernel
theorem d_Truths_alike_39 : decode prog_12_method_3_code 39 = .ok (.invokevirtual 71, 3) := by decide +kernel
theorem k_4_185 : Cond.methodLink "PageScribe$Truths" 71 ⟨"PageScribe$Stack", "doubleDown", "(I)D"⟩ ∈ gw := gw_of (tb_4 (List.mem_of_getElem? (i := 185) (by decide +kernel))) (by decide +kernel)
theorem d_Truths_alike_42 : decode prog_12_method_3_code 42 = .ok (.aload_n 0, 1) := by decide +kernel
theorem d_Truths_alike_43 : decode prog_12_method_3_code 43 = .ok (.getfield 9, 3) := by decide +kernel
theorem d_Truths_alike_46 : decode prog_12_method_3_code 46 = .ok (.iconst 0, 1) := by decide +kernel
theorem d_Truths_alike_47 : decode prog_12_method_3_code 47 = .ok (.invokevirtual 71, 3) := by decide +kernel
theorem d_Truths_alike_50 : decode prog_12_method_3_code 50 = .ok (.dcmp .l, 1) := by decide +kernel
theorem d_Truths_alike_51 : decode prog_12_method_3_code 51 = .ok (.ifCond .ne 7, 3) := by decide +kernel
theorem d_Truths_alike_58 : decode prog_12_method_3_code 58 = .ok (.iconst 0, 1) := by decide +kernel
theorem d_Truths_alike_59 : decode prog_12_method_3_code 59 = .ok (.ireturn, 1) := by decide +kernel
theorem d_Truths_alike_54 : decode prog_12_method_3_code 54 = .ok (.iconst 1, 1) := by decide +kernel
theorem d_Truths_alike_55 : decode prog_12_method_3_code 55 = .ok (.goto 4, 3) := by decide +kernel
set_option maxHeartbeats 4000000 in
set_option maxRecDepth 100000 in
theorem c_Truths_alike (l : Launch) (D : va_G) (T : Nat → ClassId) (ad : Nat → Nat) (g : GE) (Bq : Nat → Prop) (S : CS)  (sz : Nat)  (hI : CIv S) : Met l ⟨"PageScribe$Truths", "alike", "()Z"⟩ (wy ⟨"PageScribe$Truths", "alike", "()Z"⟩ prog_12_method_3_code 5 (some .boolean)) ({ frames := 3, cells := 0, slots := 0, locals := 210 }) (va_Pc [.ref (ad 74)] (Pw D T (cW T ad S) sz (EC g Bq ad))) (va_Qi (fun (r : Int32) (u : Unit) => r.toInt = 0 ∨ r.toInt = 1) (fun u t => Bw D T (va_A (cW T ad S) sz) (cW T ad S) t) (va_A (cW T ad S) sz)) 0 0 (va_A (cW T ad S) sz) := by
  refine j_met (y := ⟨"PageScribe$Truths", "alike", "()Z"⟩) (b := prog_12_method_3_code) (n := 5) (ret := (some .boolean)) (av := [.ref (ad 74)]) (Qc := fun A => va_Qi (fun (r : Int32) (u : Unit) => r.toInt = 0 ∨ r.toInt = 1) (fun u t => Bw D T A (cW T ad S) t) A) (by decide +kernel) (Nat.le_of_ble_eq_true rfl) (fun p e s m args below meth c A ls F hr hlocks hnm hK hP hD hS hA hN hE hl => ?_)
  obtain ⟨hx, hb, hml, hown, hts⟩ := id F
  have hl : lv_has ls 5 [(0, .ref (ad 74))] := hl
  obtain ⟨i_vst, i_vc0, i_vc1, i_vc2, i_vc3, i_vv0, i_vv1, i_vv2, i_vv3, i_vg, i_wct, i_wln, i_sd0, i_sd1, i_sd2, i_sd3, i_rln, i_rtx, i_rpl, i_rtk, i_cnv, i_pts, i_cik, i_und⟩ := id hI
  have hAB : ∀ q, A q → Bq q := EC.ab hE hN
  have hEV := hE.1.narrow hAB
  refine lv_aload_n hx hb d_Truths_alike_0 rfl (lv_at hl 0 rfl) ?_
  refine va_get (D := D) (ci := 9) (v := .ref (ad 1)) (C := "PageScribe$Truths") (T := F_Truths) (N := 1) hx hb hts i_Truths hown hK hP 74 (ce_74 _ _ _) cl_9 0 (by decide) (hts _ k_2_18) (fun _ h9 => h9) rfl d_Truths_alike_1 ?_
  refine lv_iconst (v := 1) hx hb d_Truths_alike_4 (by decide) ?_
  refine jc_ci (w := (fun _ => S)) hK hP hD hS hA (va_runV (As := [.int 1]) (rest := []) F (c_Stack_kindDown l D T ad S (1 : Int32)  s.heap.size) (j_cV (k := 1) (C := "PageScribe$Stack") hts k_2_120 k_1_3 k_4_184 k_2_118 k_2_119 (by decide +kernel) ⟨Nat.le_of_ble_eq_true rfl, Nat.le_of_ble_eq_true rfl⟩) (j_preV (q0 := 1) (ci := 0) hK hP hD csc csc_all csc_nd cl_0 (ce_1 _ _ _) (fun _ _ _ _ h => h) (fun _ _ _ => trivial)) rfl rfl hl.1 rfl (lv_room (Nat.le_of_ble_eq_true rfl)) d_Truths_alike_5 ⟨Nat.le_of_ble_eq_true rfl, Nat.le_of_ble_eq_true rfl⟩) (fun rv1 u1 H locs hw1 hP hD hS => ?_)
  have hP : va_P D classes (cW T ad S) H := hP
  have hD : va_D A (cW T ad S) := hD
  have rrv1 := zt_rng rv1
  refine lv_bipush (v := 7) hx hb d_Truths_alike_8 (by decide) ?_
  refine lv_iand hx hb d_Truths_alike_10 ?_
  refine lv_topi (fun x1 ex1 => ?_)
  have rx1 := zt_rng x1
  refine lv_istore_n (lv' := [(1, .int x1), (0, .ref (ad 74))]) hx hb d_Truths_alike_11 rfl hl (by decide) rfl (fun ls hl => ?_)
  refine lv_aload_n hx hb d_Truths_alike_12 rfl (lv_at hl 1 rfl) ?_
  refine va_get (D := D) (ci := 9) (v := .ref (ad 1)) (C := "PageScribe$Truths") (T := F_Truths) (N := 1) hx hb hts i_Truths hown hK hP 74 (ce_74 _ _ _) cl_9 0 (by decide) (hts _ k_2_18) (fun _ h9 => h9) rfl d_Truths_alike_13 ?_
  refine lv_iconst (v := 0) hx hb d_Truths_alike_16 (by decide) ?_
  refine jc_ci (w := (fun _ => S)) hK hP hD hS hA (va_runV (As := [.int 0]) (rest := []) F (c_Stack_kindDown l D T ad S (0 : Int32)  H.size) (j_cV (k := 1) (C := "PageScribe$Stack") hts k_2_120 k_1_3 k_4_184 k_2_118 k_2_119 (by decide +kernel) ⟨Nat.le_of_ble_eq_true rfl, Nat.le_of_ble_eq_true rfl⟩) (j_preV (q0 := 1) (ci := 0) hK hP hD csc csc_all csc_nd cl_0 (ce_1 _ _ _) (fun _ _ _ _ h => h) (fun _ _ _ => trivial)) rfl rfl hl.1 rfl (lv_room (Nat.le_of_ble_eq_true rfl)) d_Truths_alike_17 ⟨Nat.le_of_ble_eq_true rfl, Nat.le_of_ble_eq_true rfl⟩) (fun rv2 u2 H locs hw2 hP hD hS => ?_)
  have hP : va_P D classes (cW T ad S) H := hP
  have hD : va_D A (cW T ad S) := hD
  have rrv2 := zt_rng rv2
  refine lv_bipush (v := 7) hx hb d_Truths_alike_20 (by decide) ?_
  refine lv_iand hx hb d_Truths_alike_22 ?_
  refine lv_topi (fun x2 ex2 => ?_)
  have rx2 := zt_rng x2
  refine lv_istore_n (lv' := [(2, .int x2), (1, .int x1), (0, .ref (ad 74))]) hx hb d_Truths_alike_23 rfl hl (by decide) rfl (fun ls hl => ?_)
  refine lv_iload_n hx hb d_Truths_alike_24 rfl (lv_at hl 1 rfl) ?_
  refine lv_iconst (v := 1) hx hb d_Truths_alike_25 (by decide) ?_
  refine lv_icmp_gt (tgt := 60) hx hb d_Truths_alike_26 (by decide) (fun c26_1 => ?_) (fun c26_1 => ?_)
  · have fc26_1 : 1 < x1.toInt := zt_lt tI_1 (show x1.toInt = _ from rfl) c26_1
    refine lv_iload_n hx hb d_Truths_alike_60 rfl (lv_at hl 1 rfl) ?_
    refine lv_iload_n hx hb d_Truths_alike_61 rfl (lv_at hl 0 rfl) ?_
    refine lv_icmp_eq (tgt := 67) hx hb d_Truths_alike_62 (by decide) (fun c62_1 => ?_) (fun c62_1 => ?_)
    · have fc62_1 : x1.toInt = x2.toInt := zt_eq (show x1.toInt = _ from rfl) (show x2.toInt = _ from rfl) c62_1
      refine lv_aload_n hx hb d_Truths_alike_67 rfl (lv_at hl 2 rfl) ?_
      refine va_get (D := D) (ci := 9) (v := .ref (ad 1)) (C := "PageScribe$Truths") (T := F_Truths) (N := 1) hx hb hts i_Truths hown hK hP 74 (ce_74 _ _ _) cl_9 0 (by decide) (hts _ k_2_18) (fun _ h9 => h9) rfl d_Truths_alike_68 ?_
      refine lv_iconst (v := 1) hx hb d_Truths_alike_71 (by decide) ?_
      refine jc_ci (w := (fun _ => S)) hK hP hD hS hA (va_runV (As := [.int 1]) (rest := []) F (c_Stack_numberDown l D T ad S (1 : Int32)  H.size) (j_cV (k := 1) (C := "PageScribe$Stack") hts k_2_130 k_1_3 k_4_186 k_2_128 k_2_129 (by decide +kernel) ⟨Nat.le_of_ble_eq_true rfl, Nat.le_of_ble_eq_true rfl⟩) (j_preV (q0 := 1) (ci := 0) hK hP hD csc csc_all csc_nd cl_0 (ce_1 _ _ _) (fun _ _ _ _ h => h) (fun _ _ _ => trivial)) rfl rfl hl.1 rfl (lv_room (Nat.le_of_ble_eq_true rfl)) d_Truths_alike_72 ⟨Nat.le_of_ble_eq_true rfl, Nat.le_of_ble_eq_true rfl⟩) (fun rv3 u3 H locs hw3 hP hD hS => ?_)
      have hP : va_P D classes (cW T ad S) H := hP
      have hD : va_D A (cW T ad S) := hD
      have rrv3 := zt_rng rv3
      refine lv_istore_n (lv' := [(3, .int rv3), (2, .int x2), (1, .int x1), (0, .ref (ad 74))]) hx hb d_Truths_alike_75 rfl hl (by decide) rfl (fun ls hl => ?_)
      refine lv_aload_n hx hb d_Truths_alike_76 rfl (lv_at hl 3 rfl) ?_
      refine va_get (D := D) (ci := 9) (v := .ref (ad 1)) (C := "PageScribe$Truths") (T := F_Truths) (N := 1) hx hb hts i_Truths hown hK hP 74 (ce_74 _ _ _) cl_9 0 (by decide) (hts _ k_2_18) (fun _ h9 => h9) rfl d_Truths_alike_77 ?_
      refine lv_iconst (v := 0) hx hb d_Truths_alike_80 (by decide) ?_
      refine jc_ci (w := (fun _ => S)) hK hP hD hS hA (va_runV (As := [.int 0]) (rest := []) F (c_Stack_numberDown l D T ad S (0 : Int32)  H.size) (j_cV (k := 1) (C := "PageScribe$Stack") hts k_2_130 k_1_3 k_4_186 k_2_128 k_2_129 (by decide +kernel) ⟨Nat.le_of_ble_eq_true rfl, Nat.le_of_ble_eq_true rfl⟩) (j_preV (q0 := 1) (ci := 0) hK hP hD csc csc_all csc_nd cl_0 (ce_1 _ _ _) (fun _ _ _ _ h => h) (fun _ _ _ => trivial)) rfl rfl hl.1 rfl (lv_room (Nat.le_of_ble_eq_true rfl)) d_Truths_alike_81 ⟨Nat.le_of_ble_eq_true rfl, Nat.le_of_ble_eq_true rfl⟩) (fun rv4 u4 H locs hw4 hP hD hS => ?_)
      have hP : va_P D classes (cW T ad S) H := hP
      have hD : va_D A (cW T ad S) := hD
      have rrv4 := zt_rng rv4
      refine lv_istore (lv' := [(4, .int rv4), (3, .int rv3), (2, .int x2), (1, .int x1), (0, .ref (ad 74))]) hx hb d_Truths_alike_84 hl (by decide) rfl (fun ls hl => ?_)
      refine lv_iload_n hx hb d_Truths_alike_86 rfl (lv_at hl 1 rfl) ?_
      refine lv_iload hx hb d_Truths_alike_87 (lv_at hl 0 rfl) ?_
      refine lv_icmp_eq (tgt := 112) hx hb d_Truths_alike_89 (by decide) (fun c89_1 => ?_) (fun c89_1 => ?_)
      · have fc89_1 : rv3.toInt = rv4.toInt := zt_eq (show rv3.toInt = _ from rfl) (show rv4.toInt = _ from rfl) c89_1
        refine lv_iconst (v := 1) hx hb d_Truths_alike_112 (by decide) ?_
        refine lv_goto (tgt := 117) hx hb d_Truths_alike_113 (by decide) ?_
        exact j_zret F hr (by decide +kernel) hlocks hK hS () (show (1 : Int32).toInt = 0 ∨ (1 : Int32).toInt = 1 by have := tI_1; omega) hP hD d_Truths_alike_117
      · first | have fc89_1 : rv3.toInt < rv4.toInt := (by have := zt_ne (show rv3.toInt = _ from rfl) (show rv4.toInt = _ from rfl) c89_1; omega) | have fc89_1 : rv4.toInt < rv3.toInt := (by have := zt_ne (show rv3.toInt = _ from rfl) (show rv4.toInt = _ from rfl) c89_1; omega) | skip
        refine lv_iload_n hx hb d_Truths_alike_92 rfl (lv_at hl 3 rfl) ?_
        refine lv_iconst (v := 5) hx hb d_Truths_alike_93 (by decide) ?_
        refine lv_icmp_ne (tgt := 116) hx hb d_Truths_alike_94 (by decide) (fun c94_1 => ?_) (fun c94_1 => ?_)
        · first | have fc94_1 : x1.toInt < 5 := (by have := zt_ne (show x1.toInt = _ from rfl) tI_5 c94_1; omega) | have fc94_1 : 5 < x1.toInt := (by have := zt_ne (show x1.toInt = _ from rfl) tI_5 c94_1; omega) | skip
          refine lv_iconst (v := 0) hx hb d_Truths_alike_116 (by decide) ?_
          exact j_zret F hr (by decide +kernel) hlocks hK hS () (show (0 : Int32).toInt = 0 ∨ (0 : Int32).toInt = 1 by have := tI_0; omega) hP hD d_Truths_alike_117
        · have fc94_1 : x1.toInt = 5 := zt_eq (show x1.toInt = _ from rfl) tI_5 c94_1
          refine lv_iload_n hx hb d_Truths_alike_97 rfl (lv_at hl 1 rfl) ?_
          refine j_ci (wc := []) (wr := (cW T ad S)) hK hP hD hS hA [] csc rfl csc_all csc_nd (fun _ _ => List.not_mem_nil) (va_runSN (As := [.int rv3]) (rest := []) F (c_Ps_lengthOf l D T rv3  H.size) (j_cSN (k := 1) hts k_4_189 k_1_1 (hE.2.2.2 (Cond.methodLinkNest "PageScribe$Truths" 82 ⟨"PageScribe", "lengthOf", "(I)I"⟩ "PageScribe") (List.mem_of_getElem? (i := 5) rfl)) k_4_188 (by decide +kernel) ⟨Nat.le_of_ble_eq_true rfl, Nat.le_of_ble_eq_true rfl⟩) (j_preS hK hP hD [] rfl (by decide) (fun _ _ _ _ h => h) (fun _ _ _ => trivial)) rfl rfl hl.1 rfl (lv_room (Nat.le_of_ble_eq_true rfl)) d_Truths_alike_98 ⟨Nat.le_of_ble_eq_true rfl, Nat.le_of_ble_eq_true rfl⟩) (fun rv5 u5 H locs hw5 hP hD hS => ?_)
          have hP : va_P D classes (cW T ad S) H := hP
          have hD : va_D A (cW T ad S) := hD
          have rrv5 := zt_rng rv5
          refine lv_if_ne (tgt := 116) hx hb d_Truths_alike_101 (by decide) (fun c101_1 => ?_) (fun c101_1 => ?_)
          · first | have fc101_1 : rv5.toInt < 0 := (by have := zt_ne (show rv5.toInt = _ from rfl) tI_0 c101_1; omega) | have fc101_1 : 0 < rv5.toInt := (by have := zt_ne (show rv5.toInt = _ from rfl) tI_0 c101_1; omega) | skip
            refine lv_iconst (v := 0) hx hb d_Truths_alike_116 (by decide) ?_
            exact j_zret F hr (by decide +kernel) hlocks hK hS () (show (0 : Int32).toInt = 0 ∨ (0 : Int32).toInt = 1 by have := tI_0; omega) hP hD d_Truths_alike_117
          · have fc101_1 : rv5.toInt = 0 := zt_eq (show rv5.toInt = _ from rfl) tI_0 c101_1
            refine lv_iload hx hb d_Truths_alike_104 (lv_at hl 0 rfl) ?_
            refine j_ci (wc := []) (wr := (cW T ad S)) hK hP hD hS hA [] csc rfl csc_all csc_nd (fun _ _ => List.not_mem_nil) (va_runSN (As := [.int rv4]) (rest := []) F (c_Ps_lengthOf l D T rv4  H.size) (j_cSN (k := 1) hts k_4_189 k_1_1 (hE.2.2.2 (Cond.methodLinkNest "PageScribe$Truths" 82 ⟨"PageScribe", "lengthOf", "(I)I"⟩ "PageScribe") (List.mem_of_getElem? (i := 5) rfl)) k_4_188 (by decide +kernel) ⟨Nat.le_of_ble_eq_true rfl, Nat.le_of_ble_eq_true rfl⟩) (j_preS hK hP hD [] rfl (by decide) (fun _ _ _ _ h => h) (fun _ _ _ => trivial)) rfl rfl hl.1 rfl (lv_room (Nat.le_of_ble_eq_true rfl)) d_Truths_alike_106 ⟨Nat.le_of_ble_eq_true rfl, Nat.le_of_ble_eq_true rfl⟩) (fun rv6 u6 H locs hw6 hP hD hS => ?_)
            have hP : va_P D classes (cW T ad S) H := hP
            have hD : va_D A (cW T ad S) := hD
            have rrv6 := zt_rng rv6
            refine lv_if_ne (tgt := 116) hx hb d_Truths_alike_109 (by decide) (fun c109_1 => ?_) (fun c109_1 => ?_)
            · first | have fc109_1 : rv6.toInt < 0 := (by have := zt_ne (show rv6.toInt = _ from rfl) tI_0 c109_1; omega) | have fc109_1 : 0 < rv6.toInt := (by have := zt_ne (show rv6.toInt = _ from rfl) tI_0 c109_1; omega) | skip
              refine lv_iconst (v := 0) hx hb d_Truths_alike_116 (by decide) ?_
              exact j_zret F hr (by decide +kernel) hlocks hK hS () (show (0 : Int32).toInt = 0 ∨ (0 : Int32).toInt = 1 by have := tI_0; omega) hP hD d_Truths_alike_117
            · have fc109_1 : rv6.toInt = 0 := zt_eq (show rv6.toInt = _ from rfl) tI_0 c109_1
              refine lv_iconst (v := 1) hx hb d_Truths_alike_112 (by decide) ?_
              refine lv_goto (tgt := 117) hx hb d_Truths_alike_113 (by decide) ?_
              exact j_zret F hr (by decide +kernel) hlocks hK hS () (show (1 : Int32).toInt = 0 ∨ (1 : Int32).toInt = 1 by have := tI_1; omega) hP hD d_Truths_alike_117
    · first | have fc62_1 : x1.toInt < x2.toInt := (by have := zt_ne (show x1.toInt = _ from rfl) (show x2.toInt = _ from rfl) c62_1; omega) | have fc62_1 : x2.toInt < x1.toInt := (by have := zt_ne (show x1.toInt = _ from rfl) (show x2.toInt = _ from rfl) c62_1; omega) | skip
      refine lv_iconst (v := 0) hx hb d_Truths_alike_65 (by decide) ?_
      exact j_zret F hr (by decide +kernel) hlocks hK hS () (show (0 : Int32).toInt = 0 ∨ (0 : Int32).toInt = 1 by have := tI_0; omega) hP hD d_Truths_alike_66
  · have fc26_1 : x1.toInt ≤ 1 := Int.not_lt.mp (zt_nlt tI_1 (show x1.toInt = _ from rfl) c26_1)
    refine lv_iload_n hx hb d_Truths_alike_29 rfl (lv_at hl 0 rfl) ?_
    refine lv_iconst (v := 1) hx hb d_Truths_alike_30 (by decide) ?_
    refine lv_icmp_gt (tgt := 60) hx hb d_Truths_alike_31 (by decide) (fun c31_1 => ?_) (fun c31_1 => ?_)
    · have fc31_1 : 1 < x2.toInt := zt_lt tI_1 (show x2.toInt = _ from rfl) c31_1
      refine lv_iload_n hx hb d_Truths_alike_60 rfl (lv_at hl 1 rfl) ?_
      refine lv_iload_n hx hb d_Truths_alike_61 rfl (lv_at hl 0 rfl) ?_
      refine lv_icmp_eq (tgt := 67) hx hb d_Truths_alike_62 (by decide) (fun c62_2 => ?_) (fun c62_2 => ?_)
      · have fc62_2 : x1.toInt = x2.toInt := zt_eq (show x1.toInt = _ from rfl) (show x2.toInt = _ from rfl) c62_2
        refine lv_aload_n hx hb d_Truths_alike_67 rfl (lv_at hl 2 rfl) ?_
        refine va_get (D := D) (ci := 9) (v := .ref (ad 1)) (C := "PageScribe$Truths") (T := F_Truths) (N := 1) hx hb hts i_Truths hown hK hP 74 (ce_74 _ _ _) cl_9 0 (by decide) (hts _ k_2_18) (fun _ h9 => h9) rfl d_Truths_alike_68 ?_
        refine lv_iconst (v := 1) hx hb d_Truths_alike_71 (by decide) ?_
        refine jc_ci (w := (fun _ => S)) hK hP hD hS hA (va_runV (As := [.int 1]) (rest := []) F (c_Stack_numberDown l D T ad S (1 : Int32)  H.size) (j_cV (k := 1) (C := "PageScribe$Stack") hts k_2_130 k_1_3 k_4_186 k_2_128 k_2_129 (by decide +kernel) ⟨Nat.le_of_ble_eq_true rfl, Nat.le_of_ble_eq_true rfl⟩) (j_preV (q0 := 1) (ci := 0) hK hP hD csc csc_all csc_nd cl_0 (ce_1 _ _ _) (fun _ _ _ _ h => h) (fun _ _ _ => trivial)) rfl rfl hl.1 rfl (lv_room (Nat.le_of_ble_eq_true rfl)) d_Truths_alike_72 ⟨Nat.le_of_ble_eq_true rfl, Nat.le_of_ble_eq_true rfl⟩) (fun rv7 u7 H locs hw7 hP hD hS => ?_)
        have hP : va_P D classes (cW T ad S) H := hP
        have hD : va_D A (cW T ad S) := hD
        have rrv7 := zt_rng rv7
        refine lv_istore_n (lv' := [(3, .int rv7), (2, .int x2), (1, .int x1), (0, .ref (ad 74))]) hx hb d_Truths_alike_75 rfl hl (by decide) rfl (fun ls hl => ?_)
        refine lv_aload_n hx hb d_Truths_alike_76 rfl (lv_at hl 3 rfl) ?_
        refine va_get (D := D) (ci := 9) (v := .ref (ad 1)) (C := "PageScribe$Truths") (T := F_Truths) (N := 1) hx hb hts i_Truths hown hK hP 74 (ce_74 _ _ _) cl_9 0 (by decide) (hts _ k_2_18) (fun _ h9 => h9) rfl d_Truths_alike_77 ?_
        refine lv_iconst (v := 0) hx hb d_Truths_alike_80 (by decide) ?_
        refine jc_ci (w := (fun _ => S)) hK hP hD hS hA (va_runV (As := [.int 0]) (rest := []) F (c_Stack_numberDown l D T ad S (0 : Int32)  H.size) (j_cV (k := 1) (C := "PageScribe$Stack") hts k_2_130 k_1_3 k_4_186 k_2_128 k_2_129 (by decide +kernel) ⟨Nat.le_of_ble_eq_true rfl, Nat.le_of_ble_eq_true rfl⟩) (j_preV (q0 := 1) (ci := 0) hK hP hD csc csc_all csc_nd cl_0 (ce_1 _ _ _) (fun _ _ _ _ h => h) (fun _ _ _ => trivial)) rfl rfl hl.1 rfl (lv_room (Nat.le_of_ble_eq_true rfl)) d_Truths_alike_81 ⟨Nat.le_of_ble_eq_true rfl, Nat.le_of_ble_eq_true rfl⟩) (fun rv8 u8 H locs hw8 hP hD hS => ?_)
        have hP : va_P D classes (cW T ad S) H := hP
        have hD : va_D A (cW T ad S) := hD
        have rrv8 := zt_rng rv8
        refine lv_istore (lv' := [(4, .int rv8), (3, .int rv7), (2, .int x2), (1, .int x1), (0, .ref (ad 74))]) hx hb d_Truths_alike_84 hl (by decide) rfl (fun ls hl => ?_)
        refine lv_iload_n hx hb d_Truths_alike_86 rfl (lv_at hl 1 rfl) ?_
        refine lv_iload hx hb d_Truths_alike_87 (lv_at hl 0 rfl) ?_
        refine lv_icmp_eq (tgt := 112) hx hb d_Truths_alike_89 (by decide) (fun c89_2 => ?_) (fun c89_2 => ?_)
        · have fc89_2 : rv7.toInt = rv8.toInt := zt_eq (show rv7.toInt = _ from rfl) (show rv8.toInt = _ from rfl) c89_2
          refine lv_iconst (v := 1) hx hb d_Truths_alike_112 (by decide) ?_
          refine lv_goto (tgt := 117) hx hb d_Truths_alike_113 (by decide) ?_
          exact j_zret F hr (by decide +kernel) hlocks hK hS () (show (1 : Int32).toInt = 0 ∨ (1 : Int32).toInt = 1 by have := tI_1; omega) hP hD d_Truths_alike_117
        · first | have fc89_2 : rv7.toInt < rv8.toInt := (by have := zt_ne (show rv7.toInt = _ from rfl) (show rv8.toInt = _ from rfl) c89_2; omega) | have fc89_2 : rv8.toInt < rv7.toInt := (by have := zt_ne (show rv7.toInt = _ from rfl) (show rv8.toInt = _ from rfl) c89_2; omega) | skip
          refine lv_iload_n hx hb d_Truths_alike_92 rfl (lv_at hl 3 rfl) ?_
          refine lv_iconst (v := 5) hx hb d_Truths_alike_93 (by decide) ?_
          refine lv_icmp_ne (tgt := 116) hx hb d_Truths_alike_94 (by decide) (fun c94_2 => ?_) (fun c94_2 => ?_)
          · first | have fc94_2 : x1.toInt < 5 := (by have := zt_ne (show x1.toInt = _ from rfl) tI_5 c94_2; omega) | have fc94_2 : 5 < x1.toInt := (by have := zt_ne (show x1.toInt = _ from rfl) tI_5 c94_2; omega) | skip
            refine lv_iconst (v := 0) hx hb d_Truths_alike_116 (by decide) ?_
            exact j_zret F hr (by decide +kernel) hlocks hK hS () (show (0 : Int32).toInt = 0 ∨ (0 : Int32).toInt = 1 by have := tI_0; omega) hP hD d_Truths_alike_117
          · have fc94_2 : x1.toInt = 5 := zt_eq (show x1.toInt = _ from rfl) tI_5 c94_2
            refine lv_iload_n hx hb d_Truths_alike_97 rfl (lv_at hl 1 rfl) ?_
            refine j_ci (wc := []) (wr := (cW T ad S)) hK hP hD hS hA [] csc rfl csc_all csc_nd (fun _ _ => List.not_mem_nil) (va_runSN (As := [.int rv7]) (rest := []) F (c_Ps_lengthOf l D T rv7  H.size) (j_cSN (k := 1) hts k_4_189 k_1_1 (hE.2.2.2 (Cond.methodLinkNest "PageScribe$Truths" 82 ⟨"PageScribe", "lengthOf", "(I)I"⟩ "PageScribe") (List.mem_of_getElem? (i := 5) rfl)) k_4_188 (by decide +kernel) ⟨Nat.le_of_ble_eq_true rfl, Nat.le_of_ble_eq_true rfl⟩) (j_preS hK hP hD [] rfl (by decide) (fun _ _ _ _ h => h) (fun _ _ _ => trivial)) rfl rfl hl.1 rfl (lv_room (Nat.le_of_ble_eq_true rfl)) d_Truths_alike_98 ⟨Nat.le_of_ble_eq_true rfl, Nat.le_of_ble_eq_true rfl⟩) (fun rv9 u9 H locs hw9 hP hD hS => ?_)
            have hP : va_P D classes (cW T ad S) H := hP
            have hD : va_D A (cW T ad S) := hD
            have rrv9 := zt_rng rv9
            refine lv_if_ne (tgt := 116) hx hb d_Truths_alike_101 (by decide) (fun c101_2 => ?_) (fun c101_2 => ?_)
            · first | have fc101_2 : rv9.toInt < 0 := (by have := zt_ne (show rv9.toInt = _ from rfl) tI_0 c101_2; omega) | have fc101_2 : 0 < rv9.toInt := (by have := zt_ne (show rv9.toInt = _ from rfl) tI_0 c101_2; omega) | skip
              refine lv_iconst (v := 0) hx hb d_Truths_alike_116 (by decide) ?_
              exact j_zret F hr (by decide +kernel) hlocks hK hS () (show (0 : Int32).toInt = 0 ∨ (0 : Int32).toInt = 1 by have := tI_0; omega) hP hD d_Truths_alike_117
            · have fc101_2 : rv9.toInt = 0 := zt_eq (show rv9.toInt = _ from rfl) tI_0 c101_2
              refine lv_iload hx hb d_Truths_alike_104 (lv_at hl 0 rfl) ?_
              refine j_ci (wc := []) (wr := (cW T ad S)) hK hP hD hS hA [] csc rfl csc_all csc_nd (fun _ _ => List.not_mem_nil) (va_runSN (As := [.int rv8]) (rest := []) F (c_Ps_lengthOf l D T rv8  H.size) (j_cSN (k := 1) hts k_4_189 k_1_1 (hE.2.2.2 (Cond.methodLinkNest "PageScribe$Truths" 82 ⟨"PageScribe", "lengthOf", "(I)I"⟩ "PageScribe") (List.mem_of_getElem? (i := 5) rfl)) k_4_188 (by decide +kernel) ⟨Nat.le_of_ble_eq_true rfl, Nat.le_of_ble_eq_true rfl⟩) (j_preS hK hP hD [] rfl (by decide) (fun _ _ _ _ h => h) (fun _ _ _ => trivial)) rfl rfl hl.1 rfl (lv_room (Nat.le_of_ble_eq_true rfl)) d_Truths_alike_106 ⟨Nat.le_of_ble_eq_true rfl, Nat.le_of_ble_eq_true rfl⟩) (fun rv10 u10 H locs hw10 hP hD hS => ?_)
              have hP : va_P D classes (cW T ad S) H := hP
              have hD : va_D A (cW T ad S) := hD
              have rrv10 := zt_rng rv10
              refine lv_if_ne (tgt := 116) hx hb d_Truths_alike_109 (by decide) (fun c109_2 => ?_) (fun c109_2 => ?_)
              · first | have fc109_2 : rv10.toInt < 0 := (by have := zt_ne (show rv10.toInt = _ from rfl) tI_0 c109_2; omega) | have fc109_2 : 0 < rv10.toInt := (by have := zt_ne (show rv10.toInt = _ from rfl) tI_0 c109_2; omega) | skip
                refine lv_iconst (v := 0) hx hb d_Truths_alike_116 (by decide) ?_
                exact j_zret F hr (by decide +kernel) hlocks hK hS () (show (0 : Int32).toInt = 0 ∨ (0 : Int32).toInt = 1 by have := tI_0; omega) hP hD d_Truths_alike_117
              · have fc109_2 : rv10.toInt = 0 := zt_eq (show rv10.toInt = _ from rfl) tI_0 c109_2
                refine lv_iconst (v := 1) hx hb d_Truths_alike_112 (by decide) ?_
                refine lv_goto (tgt := 117) hx hb d_Truths_alike_113 (by decide) ?_
                exact j_zret F hr (by decide +kernel) hlocks hK hS () (show (1 : Int32).toInt = 0 ∨ (1 : Int32).toInt = 1 by have := tI_1; omega) hP hD d_Truths_alike_117
      · first | have fc62_2 : x1.toInt < x2.toInt := (by have := zt_ne (show x1.toInt = _ from rfl) (show x2.toInt = _ from rfl) c62_2; omega) | have fc62_2 : x2.toInt < x1.toInt := (by have := zt_ne (show x1.toInt = _ from rfl) (show x2.toInt = _ from rfl) c62_2; omega) | skip
        refine lv_iconst (v := 0) hx hb d_Truths_alike_65 (by decide) ?_
        exact j_zret F hr (by decide +kernel) hlocks hK hS () (show (0 : Int32).toInt = 0 ∨ (0 : Int32).toInt = 1 by have := tI_0; omega) hP hD d_Truths_alike_66
    · have fc31_1 : x2.toInt ≤ 1 := Int.not_lt.mp (zt_nlt tI_1 (show x2.toInt = _ from rfl) c31_1)
      refine lv_aload_n hx hb d_Truths_alike_34 rfl (lv_at hl 2 rfl) ?_
      refine va_get (D := D) (ci := 9) (v := .ref (ad 1)) (C := "PageScribe$Truths") (T := F_Truths) (N := 1) hx hb hts i_Truths hown hK hP 74 (ce_74 _ _ _) cl_9 0 (by decide) (hts _ k_2_18) (fun _ h9 => h9) rfl d_Truths_alike_35 ?_
      refine lv_iconst (v := 1) hx hb d_Truths_alike_38 (by decide) ?_
      refine jc_cd (w := (fun _ => S)) hK hP hD hS hA (va_runV (As := [.int 1]) (rest := []) F (c_Stack_doubleDown l D T ad S (1 : Int32)  H.size ⟨i_vst, i_vc0, i_vc1, i_vc2, i_vc3, i_vv0, i_vv1, i_vv2, i_vv3, i_vg, i_wct, i_wln, i_sd0, i_sd1, i_sd2, i_sd3, i_rln, i_rtx, i_rpl, i_rtk, i_cnv, i_pts, i_cik, i_und⟩) (j_cV (k := 1) (C := "PageScribe$Stack") hts k_4_113 k_1_3 k_4_185 k_4_111 k_4_112 (by decide +kernel) ⟨Nat.le_of_ble_eq_true rfl, Nat.le_of_ble_eq_true rfl⟩) (j_preV (q0 := 1) (ci := 0) hK hP hD csc csc_all csc_nd cl_0 (ce_1 _ _ _) (fun _ _ _ _ h => h) (fun _ _ _ => trivial)) rfl rfl hl.1 rfl (lv_room (Nat.le_of_ble_eq_true rfl)) d_Truths_alike_39 ⟨Nat.le_of_ble_eq_true rfl, Nat.le_of_ble_eq_true rfl⟩) (fun rv11 u11 H locs hw11 hP hD hS => ?_)
      have hP : va_P D classes (cW T ad S) H := hP
      have hD : va_D A (cW T ad S) := hD
      have qhw11 : dB rv11 := by simpa only [tI_1] using hw11
      refine lv_aload_n hx hb d_Truths_alike_42 rfl (lv_at hl 2 rfl) ?_
      refine va_get (D := D) (ci := 9) (v := .ref (ad 1)) (C := "PageScribe$Truths") (T := F_Truths) (N := 1) hx hb hts i_Truths hown hK hP 74 (ce_74 _ _ _) cl_9 0 (by decide) (hts _ k_2_18) (fun _ h9 => h9) rfl d_Truths_alike_43 ?_
      refine lv_iconst (v := 0) hx hb d_Truths_alike_46 (by decide) ?_
      refine jc_cd (w := (fun _ => S)) hK hP hD hS hA (va_runV (As := [.int 0]) (rest := [.double rv11]) F (c_Stack_doubleDown l D T ad S (0 : Int32)  H.size ⟨i_vst, i_vc0, i_vc1, i_vc2, i_vc3, i_vv0, i_vv1, i_vv2, i_vv3, i_vg, i_wct, i_wln, i_sd0, i_sd1, i_sd2, i_sd3, i_rln, i_rtx, i_rpl, i_rtk, i_cnv, i_pts, i_cik, i_und⟩) (j_cV (k := 1) (C := "PageScribe$Stack") hts k_4_113 k_1_3 k_4_185 k_4_111 k_4_112 (by decide +kernel) ⟨Nat.le_of_ble_eq_true rfl, Nat.le_of_ble_eq_true rfl⟩) (j_preV (q0 := 1) (ci := 0) hK hP hD csc csc_all csc_nd cl_0 (ce_1 _ _ _) (fun _ _ _ _ h => h) (fun _ _ _ => trivial)) rfl rfl hl.1 rfl (lv_room (Nat.le_of_ble_eq_true rfl)) d_Truths_alike_47 ⟨Nat.le_of_ble_eq_true rfl, Nat.le_of_ble_eq_true rfl⟩) (fun rv12 u12 H locs hw12 hP hD hS => ?_)
      have hP : va_P D classes (cW T ad S) H := hP
      have hD : va_D A (cW T ad S) := hD
      have qhw12 : dB rv12 := by simpa only [tI_0] using hw12
      refine lv_dcmp hx hb d_Truths_alike_50 ?_
      refine lv_topi (fun x3 ex3 => ?_)
      refine lv_if_ne (tgt := 58) hx hb d_Truths_alike_51 (by decide) (fun c51_1 => ?_) (fun c51_1 => ?_)
      · first | have fc51_1 : x3.toInt < 0 := (by have := zt_ne (show x3.toInt = _ from rfl) tI_0 c51_1; omega) | have fc51_1 : 0 < x3.toInt := (by have := zt_ne (show x3.toInt = _ from rfl) tI_0 c51_1; omega) | skip
        have vc51_1 : ¬ dk rv11 = dk rv12 := by have := zr_dcmp (a := rv11) (b := rv12) ex3 (show dN rv11 by omega) (show dN rv12 by omega); have := zt_ne (show x3.toInt = _ from rfl) tI_0 c51_1; omega
        refine lv_iconst (v := 0) hx hb d_Truths_alike_58 (by decide) ?_
        exact j_zret F hr (by decide +kernel) hlocks hK hS () (show (0 : Int32).toInt = 0 ∨ (0 : Int32).toInt = 1 by have := tI_0; omega) hP hD d_Truths_alike_59
      · have fc51_1 : x3.toInt = 0 := zt_eq (show x3.toInt = _ from rfl) tI_0 c51_1
        have vc51_1 : dk rv11 = dk rv12 := by have := zr_dcmp (a := rv11) (b := rv12) ex3 (show dN rv11 by omega) (show dN rv12 by omega); have := zt_eq (show x3.toInt = _ from rfl) tI_0 c51_1; omega
        refine lv_iconst (v := 1) hx hb d_Truths_alike_54 (by decide) ?_
        refine lv_goto (tgt := 59) hx hb d_Truths_alike_55 (by decide) ?_
        exact j_zret F hr (by decide +kernel) hlocks hK hS () (show (1 : Int32).toInt = 0 ∨ (1 : Int32).toInt = 1 by have := tI_1; omega) hP hD d_Truths_alike_59
theorem d_Truths_compare_0 : decode prog_12_method_4_code 0 = .ok (.getstatic 15, 3) := by decide +kernel
theorem k_4_172 : Cond.fieldLink "PageScribe$Truths" 15 "PageScribe$1" "$SwitchMap$PageScribe$Op" "[I" ∈ gw := gw_of (tb_4 (List.mem_of_getElem? (i := 172) (by decide +kernel))) (by decide +kernel)
theorem d_Truths_compare_3 : decode prog_12_method_4_code 3 = .ok (.aload_n 1, 1) := by decide +kernel
theorem d_Truths_compare_4 : decode prog_12_method_4_code 4 = .ok (.invokevirtual 21, 3) := by decide +kernel
theorem k_4_173 : Cond.methodLink "PageScribe$Truths" 21 ⟨"PageScribe$Op", "ordinal", "()I"⟩ ∈ gw := gw_of (tb_4 (List.mem_of_getElem? (i := 173) (by decide +kernel))) (by decide +kernel)
theorem d_Truths_compare_7 : decode prog_12_method_4_code 7 = .ok (.iaload, 1) := by decide +kernel
theorem d_Truths_compare_8 : decode prog_12_method_4_code 8 = .ok (.tableswitch 67 30 32 #[28, 41, 54], 28) := by decide +kernel
theorem d_Truths_compare_36 : decode prog_12_method_4_code 36 = .ok (.dload_n 2, 1) := by decide +kernel
theorem d_Truths_compare_37 : decode prog_12_method_4_code 37 = .ok (.dload 4, 2) := by decide +kernel
theorem d_Truths_compare_39 : decode prog_12_method_4_code 39 = .ok (.dcmp .l, 1) := by decide +kernel
theorem d_Truths_compare_40 : decode prog_12_method_4_code 40 = .ok (.ifCond .le 7, 3) := by decide +kernel
theorem d_Truths_compare_47 : decode prog_12_method_4_code 47 = .ok (.iconst 0, 1) := by decide +kernel
theorem d_Truths_compare_48 : decode prog_12_method_4_code 48 = .ok (.ireturn, 1) := by decide +kernel
theorem d_Truths_compare_43 : decode prog_12_method_4_code 43 = .ok (.iconst 1, 1) := by decide +kernel
theorem d_Truths_compare_44 : decode prog_12_method_4_code 44 = .ok (.goto 4, 3) := by decide +kernel
theorem d_Truths_compare_49 : decode prog_12_method_4_code 49 = .ok (.dload_n 2, 1) := by decide +kernel
theorem d_Truths_compare_50 : decode prog_12_method_4_code 50 = .ok (.dload 4, 2) := by decide +kernel
theorem d_Truths_compare_52 : decode prog_12_method_4_code 52 = .ok (.dcmp .l, 1) := by decide +kernel
theorem d_Truths_compare_53 : decode prog_12_method_4_code 53 = .ok (.ifCond .lt 7, 3) := by decide +kernel
theorem d_Truths_compare_60 : decode prog_12_method_4_code 60 = .ok (.iconst 0, 1) := by decide +kernel
theorem d_Truths_compare_61 : decode prog_12_method_4_code 61 = .ok (.ireturn, 1) := by decide +kernel
theorem d_Truths_compare_56 : decode prog_12_method_4_code 56 = .ok (.iconst 1, 1) := by decide +kernel
theorem d_Truths_compare_57 : decode prog_12_method_4_code 57 = .ok (.goto 4, 3) := by decide +kernel
theorem d_Truths_compare_62 : decode prog_12_method_4_code 62 = .ok (.dload_n 2, 1) := by decide +kernel
theorem d_Truths_compare_63 : decode prog_12_method_4_code 63 = .ok (.dload 4, 2) := by decide +kernel
theorem d_Truths_compare_65 : decode prog_12_method_4_code 65 = .ok (.dcmp .g, 1) := by decide +kernel
theorem d_Truths_compare_66 : decode prog_12_method_4_code 66 = .ok (.ifCond .ge 7, 3) := by decide +kernel
theorem d_Truths_compare_73 : decode prog_12_method_4_code 73 = .ok (.iconst 0, 1) := by decide +kernel
theorem d_Truths_compare_74 : decode prog_12_method_4_code 74 = .ok (.ireturn, 1) := by decide +kernel
theorem d_Truths_compare_69 : decode prog_12_method_4_code 69 = .ok (.iconst 1, 1) := by decide +kernel
theorem d_Truths_compare_70 : decode prog_12_method_4_code 70 = .ok (.goto 4, 3) := by decide +kernel
theorem d_Truths_compare_75 : decode prog_12_method_4_code 75 = .ok (.dload_n 2, 1) := by decide +kernel
theorem d_Truths_compare_76 : decode prog_12_method_4_code 76 = .ok (.dload 4, 2) := by decide +kernel
theorem d_Truths_compare_78 : decode prog_12_method_4_code 78 = .ok (.dcmp .g, 1) := by decide +kernel
theorem d_Truths_compare_79 : decode prog_12_method_4_code 79 = .ok (.ifCond .gt 7, 3) := by decide +kernel
theorem d_Truths_compare_86 : decode prog_12_method_4_code 86 = .ok (.iconst 0, 1) := by decide +kernel
theorem d_Truths_compare_87 : decode prog_12_method_4_code 87 = .ok (.ireturn, 1) := by decide +kernel
theorem d_Truths_compare_82 : decode prog_12_method_4_code 82 = .ok (.iconst 1, 1) := by decide +kernel
theorem d_Truths_compare_83 : decode prog_12_method_4_code 83 = .ok (.goto 4, 3) := by decide +kernel
set_option maxHeartbeats 4000000 in
set_option maxRecDepth 100000 in
theorem c_Truths_compare (l : Launch) (D : va_G) (T : Nat → ClassId) (ad : Nat → Nat) (g : GE) (Bq : Nat → Prop) (S : CS) (op : Nat) (d0 : UInt64) (d1 : UInt64) (sz : Nat) (hi_op : op < 72) (h1 : dN d0) (h2 : dN d1) : Met l ⟨"PageScribe$Truths", "compare", "(LPageScribe$Op;DD)Z"⟩ (wy ⟨"PageScribe$Truths", "compare", "(LPageScribe$Op;DD)Z"⟩ prog_12_method_4_code 6 (some .boolean)) ({ frames := 1, cells := 0, slots := 0, locals := 70 }) (va_Pc [.ref (ad 74), .ref (g_en g op), .double d0, .double d1] (Pw D T (cW T ad S) sz (EC g Bq ad))) (va_Qi (fun (r : Int32) (u : Unit) => r.toInt = 0 ∨ r.toInt = 1) (fun u t => Bw D T (va_A (cW T ad S) sz) (cW T ad S) t) (va_A (cW T ad S) sz)) 0 0 (va_A (cW T ad S) sz) := by
  refine j_met (y := ⟨"PageScribe$Truths", "compare", "(LPageScribe$Op;DD)Z"⟩) (b := prog_12_method_4_code) (n := 6) (ret := (some .boolean)) (av := [.ref (ad 74), .ref (g_en g op), .double d0, .double d1]) (Qc := fun A => va_Qi (fun (r : Int32) (u : Unit) => r.toInt = 0 ∨ r.toInt = 1) (fun u t => Bw D T A (cW T ad S) t) A) (by decide +kernel) (Nat.le_of_ble_eq_true rfl) (fun p e s m args below meth c A ls F hr hlocks hnm hK hP hD hS hA hN hE hl => ?_)
  obtain ⟨hx, hb, hml, hown, hts⟩ := id F
  have hl : lv_has ls 6 [(0, .ref (ad 74)), (1, .ref (g_en g op)), (2, .double d0), (4, .double d1)] := hl
  have hAB : ∀ q, A q → Bq q := EC.ab hE hN
  have hEV := hE.1.narrow hAB
  refine va_gets hx hb hEV.2.2.1.1 hS hown (hts _ k_4_172) (fun _ h9 => h9) d_Truths_compare_0 ?_
  refine lv_aload_n hx hb d_Truths_compare_3 rfl (lv_at hl 1 rfl) ?_
  refine jc_ci (w := (fun _ => S)) hK hP hD hS hA (va_runU (As := []) (rest := [.ref (g_tS g)]) F (c_Enum_ordinal l D T ad g Bq S op  s.heap.size hi_op) (j_cU (k := 0) (C := "PageScribe$Op") (owner := "java/lang/Enum") (x := ⟨"PageScribe$Op", "ordinal", "()I"⟩) hts k_4_41 k_4_173 k_4_37 k_4_39 k_4_40 k_1_24 rfl (by decide +kernel) ⟨Nat.le_of_ble_eq_true rfl, Nat.le_of_ble_eq_true rfl⟩) (jc_preO (j_preS hK hP hD csc csc_all csc_nd (fun _ _ _ _ h => EC.calling h) (fun U hU hW => EC.at hS hAB hU hW hE)) (hEV.1 _ hi_op).1.1 hS) rfl rfl hl.1 rfl (lv_room (Nat.le_of_ble_eq_true rfl)) d_Truths_compare_4 ⟨Nat.le_of_ble_eq_true rfl, Nat.le_of_ble_eq_true rfl⟩) (fun rv1 u1 H locs hw1 hP hD hS => ?_)
  have hP : va_P D classes (cW T ad S) H := hP
  have hD : va_D A (cW T ad S) := hD
  have qhw1 : rv1.toInt = (op : Int) := hw1
  have rrv1 := zt_rng rv1
  refine va_ti hx hb hEV.2.2.1.2 hS (zt_in (show rv1.toInt = _ from rfl) (by omega) (by omega)) rfl d_Truths_compare_7 ?_
  refine lv_topi (fun x1 ex1 => ?_)
  have rx1 := zt_rng x1
  by_cases h_30_1 : x1.toInt = 30
  · refine lv_tableIn (off := 28) (tgt := 36) hx hb d_Truths_compare_8 (by omega) (by omega) (by rw [show x1.toInt = 30 from h_30_1]; decide +kernel) (by decide) ?_
    refine lv_dload_n hx hb d_Truths_compare_36 rfl (lv_at hl 2 rfl) ?_
    refine lv_dload hx hb d_Truths_compare_37 (lv_at hl 3 rfl) ?_
    refine lv_dcmp hx hb d_Truths_compare_39 ?_
    refine lv_topi (fun x2 ex2 => ?_)
    refine lv_if_le (tgt := 47) hx hb d_Truths_compare_40 (by decide) (fun c40_1 => ?_) (fun c40_1 => ?_)
    · have fc40_1 : x2.toInt ≤ 0 := zt_le (show x2.toInt = _ from rfl) tI_0 c40_1
      have vc40_1 : dk d0 ≤ dk d1 := by have := zr_dcmp (a := d0) (b := d1) ex2 (show dN d0 by omega) (show dN d1 by omega); have := zt_le (show x2.toInt = _ from rfl) tI_0 c40_1; omega
      refine lv_iconst (v := 0) hx hb d_Truths_compare_47 (by decide) ?_
      exact j_zret F hr (by decide +kernel) hlocks hK hS () (show (0 : Int32).toInt = 0 ∨ (0 : Int32).toInt = 1 by have := tI_0; omega) hP hD d_Truths_compare_48
    · have fc40_1 : 0 < x2.toInt := Int.not_le.mp (zt_nle (show x2.toInt = _ from rfl) tI_0 c40_1)
      have vc40_1 : dk d0 > dk d1 := by have := zr_dcmp (a := d0) (b := d1) ex2 (show dN d0 by omega) (show dN d1 by omega); have := Int.not_le.mp (zt_nle (show x2.toInt = _ from rfl) tI_0 c40_1); omega
      refine lv_iconst (v := 1) hx hb d_Truths_compare_43 (by decide) ?_
      refine lv_goto (tgt := 48) hx hb d_Truths_compare_44 (by decide) ?_
      exact j_zret F hr (by decide +kernel) hlocks hK hS () (show (1 : Int32).toInt = 0 ∨ (1 : Int32).toInt = 1 by have := tI_1; omega) hP hD d_Truths_compare_48
  by_cases h_31_1 : x1.toInt = 31
  · refine lv_tableIn (off := 41) (tgt := 49) hx hb d_Truths_compare_8 (by omega) (by omega) (by rw [show x1.toInt = 31 from h_31_1]; decide +kernel) (by decide) ?_
    refine lv_dload_n hx hb d_Truths_compare_49 rfl (lv_at hl 2 rfl) ?_
    refine lv_dload hx hb d_Truths_compare_50 (lv_at hl 3 rfl) ?_
    refine lv_dcmp hx hb d_Truths_compare_52 ?_
    refine lv_topi (fun x3 ex3 => ?_)
    refine lv_if_lt (tgt := 60) hx hb d_Truths_compare_53 (by decide) (fun c53_1 => ?_) (fun c53_1 => ?_)
    · have fc53_1 : x3.toInt < 0 := zt_lt (show x3.toInt = _ from rfl) tI_0 c53_1
      have vc53_1 : dk d0 < dk d1 := by have := zr_dcmp (a := d0) (b := d1) ex3 (show dN d0 by omega) (show dN d1 by omega); have := zt_lt (show x3.toInt = _ from rfl) tI_0 c53_1; omega
      refine lv_iconst (v := 0) hx hb d_Truths_compare_60 (by decide) ?_
      exact j_zret F hr (by decide +kernel) hlocks hK hS () (show (0 : Int32).toInt = 0 ∨ (0 : Int32).toInt = 1 by have := tI_0; omega) hP hD d_Truths_compare_61
    · have fc53_1 : 0 ≤ x3.toInt := Int.not_lt.mp (zt_nlt (show x3.toInt = _ from rfl) tI_0 c53_1)
      have vc53_1 : dk d0 ≥ dk d1 := by have := zr_dcmp (a := d0) (b := d1) ex3 (show dN d0 by omega) (show dN d1 by omega); have := Int.not_lt.mp (zt_nlt (show x3.toInt = _ from rfl) tI_0 c53_1); omega
      refine lv_iconst (v := 1) hx hb d_Truths_compare_56 (by decide) ?_
      refine lv_goto (tgt := 61) hx hb d_Truths_compare_57 (by decide) ?_
      exact j_zret F hr (by decide +kernel) hlocks hK hS () (show (1 : Int32).toInt = 0 ∨ (1 : Int32).toInt = 1 by have := tI_1; omega) hP hD d_Truths_compare_61
  by_cases h_32_1 : x1.toInt = 32
  · refine lv_tableIn (off := 54) (tgt := 62) hx hb d_Truths_compare_8 (by omega) (by omega) (by rw [show x1.toInt = 32 from h_32_1]; decide +kernel) (by decide) ?_
    refine lv_dload_n hx hb d_Truths_compare_62 rfl (lv_at hl 2 rfl) ?_
    refine lv_dload hx hb d_Truths_compare_63 (lv_at hl 3 rfl) ?_
    refine lv_dcmp hx hb d_Truths_compare_65 ?_
    refine lv_topi (fun x4 ex4 => ?_)
    refine lv_if_ge (tgt := 73) hx hb d_Truths_compare_66 (by decide) (fun c66_1 => ?_) (fun c66_1 => ?_)
    · have fc66_1 : 0 ≤ x4.toInt := zt_le tI_0 (show x4.toInt = _ from rfl) c66_1
      have vc66_1 : dk d0 ≥ dk d1 := by have := zr_dcmp (a := d0) (b := d1) ex4 (show dN d0 by omega) (show dN d1 by omega); have := zt_le tI_0 (show x4.toInt = _ from rfl) c66_1; omega
      refine lv_iconst (v := 0) hx hb d_Truths_compare_73 (by decide) ?_
      exact j_zret F hr (by decide +kernel) hlocks hK hS () (show (0 : Int32).toInt = 0 ∨ (0 : Int32).toInt = 1 by have := tI_0; omega) hP hD d_Truths_compare_74
    · have fc66_1 : x4.toInt < 0 := Int.not_le.mp (zt_nle tI_0 (show x4.toInt = _ from rfl) c66_1)
      have vc66_1 : dk d0 < dk d1 := by have := zr_dcmp (a := d0) (b := d1) ex4 (show dN d0 by omega) (show dN d1 by omega); have := Int.not_le.mp (zt_nle tI_0 (show x4.toInt = _ from rfl) c66_1); omega
      refine lv_iconst (v := 1) hx hb d_Truths_compare_69 (by decide) ?_
      refine lv_goto (tgt := 74) hx hb d_Truths_compare_70 (by decide) ?_
      exact j_zret F hr (by decide +kernel) hlocks hK hS () (show (1 : Int32).toInt = 0 ∨ (1 : Int32).toInt = 1 by have := tI_1; omega) hP hD d_Truths_compare_74
  refine lv_tableOut (tgt := 75) hx hb d_Truths_compare_8 (by omega) (by decide) ?_
  refine lv_dload_n hx hb d_Truths_compare_75 rfl (lv_at hl 2 rfl) ?_
  refine lv_dload hx hb d_Truths_compare_76 (lv_at hl 3 rfl) ?_
  refine lv_dcmp hx hb d_Truths_compare_78 ?_
  refine lv_topi (fun x5 ex5 => ?_)
  refine lv_if_gt (tgt := 86) hx hb d_Truths_compare_79 (by decide) (fun c79_1 => ?_) (fun c79_1 => ?_)
  · have fc79_1 : 0 < x5.toInt := zt_lt tI_0 (show x5.toInt = _ from rfl) c79_1
    have vc79_1 : dk d0 > dk d1 := by have := zr_dcmp (a := d0) (b := d1) ex5 (show dN d0 by omega) (show dN d1 by omega); have := zt_lt tI_0 (show x5.toInt = _ from rfl) c79_1; omega
    refine lv_iconst (v := 0) hx hb d_Truths_compare_86 (by decide) ?_
    exact j_zret F hr (by decide +kernel) hlocks hK hS () (show (0 : Int32).toInt = 0 ∨ (0 : Int32).toInt = 1 by have := tI_0; omega) hP hD d_Truths_compare_87
  · have fc79_1 : x5.toInt ≤ 0 := Int.not_lt.mp (zt_nlt tI_0 (show x5.toInt = _ from rfl) c79_1)
    have vc79_1 : dk d0 ≤ dk d1 := by have := zr_dcmp (a := d0) (b := d1) ex5 (show dN d0 by omega) (show dN d1 by omega); have := Int.not_lt.mp (zt_nlt tI_0 (show x5.toInt = _ from rfl) c79_1); omega
    refine lv_iconst (v := 1) hx hb d_Truths_compare_82 (by decide) ?_
    refine lv_goto (tgt := 87) hx hb d_Truths_compare_83 (by decide) ?_
    exact j_zret F hr (by decide +kernel) hlocks hK hS () (show (1 : Int32).toInt = 0 ∨ (1 : Int32).toInt = 1 by have := tI_1; omega) hP hD d_Truths_compare_87
theorem d_Truths_join_0 : decode prog_12_method_5_code 0 = .ok (.aload_n 0, 1) := by decide +kernel
theorem d_Truths_join_1 : decode prog_12_method_5_code 1 = .ok (.getfield 9, 3) := by decide +kernel
theorem d_Truths_join_4 : decode prog_12_method_5_code 4 = .ok (.iconst 0, 1) := by decide +kernel
theorem d_Truths_join_5 : decode prog_12_method_5_code 5 = .ok (.invokevirtual 63, 3) := by decide +kernel
theorem d_Truths_join_8 : decode prog_12_method_5_code 8 = .ok (.istore_n 2, 1) := by decide +kernel
theorem d_Truths_join_9 : decode prog_12_method_5_code 9 = .ok (.aload_n 0, 1) := by decide +kernel
theorem d_Truths_join_10 : decode prog_12_method_5_code 10 = .ok (.getfield 9, 3) := by decide +kernel
theorem d_Truths_join_13 : decode prog_12_method_5_code 13 = .ok (.iconst 1, 1) := by decide +kernel
theorem d_Truths_join_14 : decode prog_12_method_5_code 14 = .ok (.invokevirtual 79, 3) := by decide +kernel
theorem d_Truths_join_17 : decode prog_12_method_5_code 17 = .ok (.istore_n 3, 1) := by decide +kernel
theorem d_Truths_join_18 : decode prog_12_method_5_code 18 = .ok (.aload_n 0, 1) := by decide +kernel
theorem d_Truths_join_19 : decode prog_12_method_5_code 19 = .ok (.getfield 9, 3) := by decide +kernel
theorem d_Truths_join_22 : decode prog_12_method_5_code 22 = .ok (.iconst 0, 1) := by decide +kernel
theorem d_Truths_join_23 : decode prog_12_method_5_code 23 = .ok (.invokevirtual 79, 3) := by decide +kernel
theorem d_Truths_join_26 : decode prog_12_method_5_code 26 = .ok (.istore 4, 2) := by decide +kernel
theorem d_Truths_join_28 : decode prog_12_method_5_code 28 = .ok (.aload_n 0, 1) := by decide +kernel
theorem d_Truths_join_29 : decode prog_12_method_5_code 29 = .ok (.getfield 9, 3) := by decide +kernel
theorem d_Truths_join_32 : decode prog_12_method_5_code 32 = .ok (.iconst 2, 1) := by decide +kernel
theorem d_Truths_join_33 : decode prog_12_method_5_code 33 = .ok (.invokevirtual 85, 3) := by decide +kernel
theorem k_4_202 : Cond.methodLink "PageScribe$Truths" 85 ⟨"PageScribe$Stack", "drop", "(I)V"⟩ ∈ gw := gw_of (tb_4 (List.mem_of_getElem? (i := 202) (by decide +kernel))) (by decide +kernel)
theorem d_Truths_join_36 : decode prog_12_method_5_code 36 = .ok (.aload_n 0, 1) := by decide +kernel
theorem d_Truths_join_37 : decode prog_12_method_5_code 37 = .ok (.getfield 9, 3) := by decide +kernel
theorem d_Truths_join_40 : decode prog_12_method_5_code 40 = .ok (.iload_n 2, 1) := by decide +kernel
theorem d_Truths_join_56 : decode prog_12_method_5_code 56 = .ok (.dconst 0, 1) := by decide +kernel
theorem d_Truths_join_57 : decode prog_12_method_5_code 57 = .ok (.invokevirtual 89, 3) := by decide +kernel
theorem k_4_203 : Cond.methodLink "PageScribe$Truths" 89 ⟨"PageScribe$Stack", "push", "(IID)I"⟩ ∈ gw := gw_of (tb_4 (List.mem_of_getElem? (i := 203) (by decide +kernel))) (by decide +kernel)
theorem d_Truths_join_60 : decode prog_12_method_5_code 60 = .ok (.ireturn, 1) := by decide +kernel
theorem d_Truths_join_41 : decode prog_12_method_5_code 41 = .ok (.iload_n 1, 1) := by decide +kernel
theorem d_Truths_join_42 : decode prog_12_method_5_code 42 = .ok (.ifCond .eq 10, 3) := by decide +kernel
theorem d_Truths_join_52 : decode prog_12_method_5_code 52 = .ok (.iload_n 3, 1) := by decide +kernel
theorem d_Truths_join_53 : decode prog_12_method_5_code 53 = .ok (.iload 4, 2) := by decide +kernel
theorem d_Truths_join_55 : decode prog_12_method_5_code 55 = .ok (.ior, 1) := by decide +kernel
theorem d_Truths_join_45 : decode prog_12_method_5_code 45 = .ok (.iload_n 3, 1) := by decide +kernel
theorem d_Truths_join_46 : decode prog_12_method_5_code 46 = .ok (.iload 4, 2) := by decide +kernel
theorem d_Truths_join_48 : decode prog_12_method_5_code 48 = .ok (.iand, 1) := by decide +kernel
theorem d_Truths_join_49 : decode prog_12_method_5_code 49 = .ok (.goto 7, 3) := by decide +kernel
set_option maxHeartbeats 4000000 in
set_option maxRecDepth 100000 in
theorem c_Truths_join (l : Launch) (D : va_G) (T : Nat → ClassId) (ad : Nat → Nat) (S : CS) (p0 : Int32) (sz : Nat)  (hI : CIv S) : Met l ⟨"PageScribe$Truths", "join", "(Z)I"⟩ (wy ⟨"PageScribe$Truths", "join", "(Z)I"⟩ prog_12_method_5_code 5 (some .int)) ({ frames := 2, cells := 0, slots := 0, locals := 140 }) (va_Pc [.ref (ad 74), .int p0] (Pw D T (cW T ad S) sz E0)) (va_Qi (fun (r : Int32) (u : CS) => CIv u ∧ kcL S u ∧ kcP S u ∧ kcU S u ∧ kcW S u) (fun u t => Bw D T (va_A (cW T ad S) sz) (cW T ad u) t) (va_A (cW T ad S) sz)) 0 0 (va_A (cW T ad S) sz) := by
  refine j_met (y := ⟨"PageScribe$Truths", "join", "(Z)I"⟩) (b := prog_12_method_5_code) (n := 5) (ret := (some .int)) (av := [.ref (ad 74), .int p0]) (Qc := fun A => va_Qi (fun (r : Int32) (u : CS) => CIv u ∧ kcL S u ∧ kcP S u ∧ kcU S u ∧ kcW S u) (fun u t => Bw D T A (cW T ad u) t) A) (by decide +kernel) (Nat.le_of_ble_eq_true rfl) (fun p e s m args below meth c A ls F hr hlocks hnm hK hP hD hS hA hN hE hl => ?_)
  obtain ⟨hx, hb, hml, hown, hts⟩ := id F
  have hl : lv_has ls 5 [(0, .ref (ad 74)), (1, .int p0)] := hl
  obtain ⟨i_vst, i_vc0, i_vc1, i_vc2, i_vc3, i_vv0, i_vv1, i_vv2, i_vv3, i_vg, i_wct, i_wln, i_sd0, i_sd1, i_sd2, i_sd3, i_rln, i_rtx, i_rpl, i_rtk, i_cnv, i_pts, i_cik, i_und⟩ := id hI
  have rp0 := zt_rng p0
  refine lv_aload_n hx hb d_Truths_join_0 rfl (lv_at hl 0 rfl) ?_
  refine va_get (D := D) (ci := 9) (v := .ref (ad 1)) (C := "PageScribe$Truths") (T := F_Truths) (N := 1) hx hb hts i_Truths hown hK hP 74 (ce_74 _ _ _) cl_9 0 (by decide) (hts _ k_2_18) (fun _ h9 => h9) rfl d_Truths_join_1 ?_
  refine lv_iconst (v := 0) hx hb d_Truths_join_4 (by decide) ?_
  refine jc_ci (w := (fun _ => S)) hK hP hD hS hA (va_runV (As := [.int 0]) (rest := []) F (c_Stack_kindDown l D T ad S (0 : Int32)  s.heap.size) (j_cV (k := 1) (C := "PageScribe$Stack") hts k_2_120 k_1_3 k_4_184 k_2_118 k_2_119 (by decide +kernel) ⟨Nat.le_of_ble_eq_true rfl, Nat.le_of_ble_eq_true rfl⟩) (j_preV (q0 := 1) (ci := 0) hK hP hD csc csc_all csc_nd cl_0 (ce_1 _ _ _) (fun _ _ _ _ h => h) (fun _ _ _ => trivial)) rfl rfl hl.1 rfl (lv_room (Nat.le_of_ble_eq_true rfl)) d_Truths_join_5 ⟨Nat.le_of_ble_eq_true rfl, Nat.le_of_ble_eq_true rfl⟩) (fun rv1 u1 H locs hw1 hP hD hS => ?_)
  have hP : va_P D classes (cW T ad S) H := hP
  have hD : va_D A (cW T ad S) := hD
  have rrv1 := zt_rng rv1
  refine lv_istore_n (lv' := [(2, .int rv1), (0, .ref (ad 74)), (1, .int p0)]) hx hb d_Truths_join_8 rfl hl (by decide) rfl (fun ls hl => ?_)
  refine lv_aload_n hx hb d_Truths_join_9 rfl (lv_at hl 1 rfl) ?_
  refine va_get (D := D) (ci := 9) (v := .ref (ad 1)) (C := "PageScribe$Truths") (T := F_Truths) (N := 1) hx hb hts i_Truths hown hK hP 74 (ce_74 _ _ _) cl_9 0 (by decide) (hts _ k_2_18) (fun _ h9 => h9) rfl d_Truths_join_10 ?_
  refine lv_iconst (v := 1) hx hb d_Truths_join_13 (by decide) ?_
  refine jc_ci (w := (fun _ => S)) hK hP hD hS hA (va_runV (As := [.int 1]) (rest := []) F (c_Stack_numberDown l D T ad S (1 : Int32)  H.size) (j_cV (k := 1) (C := "PageScribe$Stack") hts k_2_130 k_1_3 k_4_186 k_2_128 k_2_129 (by decide +kernel) ⟨Nat.le_of_ble_eq_true rfl, Nat.le_of_ble_eq_true rfl⟩) (j_preV (q0 := 1) (ci := 0) hK hP hD csc csc_all csc_nd cl_0 (ce_1 _ _ _) (fun _ _ _ _ h => h) (fun _ _ _ => trivial)) rfl rfl hl.1 rfl (lv_room (Nat.le_of_ble_eq_true rfl)) d_Truths_join_14 ⟨Nat.le_of_ble_eq_true rfl, Nat.le_of_ble_eq_true rfl⟩) (fun rv2 u2 H locs hw2 hP hD hS => ?_)
  have hP : va_P D classes (cW T ad S) H := hP
  have hD : va_D A (cW T ad S) := hD
  have rrv2 := zt_rng rv2
  refine lv_istore_n (lv' := [(3, .int rv2), (2, .int rv1), (0, .ref (ad 74)), (1, .int p0)]) hx hb d_Truths_join_17 rfl hl (by decide) rfl (fun ls hl => ?_)
  refine lv_aload_n hx hb d_Truths_join_18 rfl (lv_at hl 2 rfl) ?_
  refine va_get (D := D) (ci := 9) (v := .ref (ad 1)) (C := "PageScribe$Truths") (T := F_Truths) (N := 1) hx hb hts i_Truths hown hK hP 74 (ce_74 _ _ _) cl_9 0 (by decide) (hts _ k_2_18) (fun _ h9 => h9) rfl d_Truths_join_19 ?_
  refine lv_iconst (v := 0) hx hb d_Truths_join_22 (by decide) ?_
  refine jc_ci (w := (fun _ => S)) hK hP hD hS hA (va_runV (As := [.int 0]) (rest := []) F (c_Stack_numberDown l D T ad S (0 : Int32)  H.size) (j_cV (k := 1) (C := "PageScribe$Stack") hts k_2_130 k_1_3 k_4_186 k_2_128 k_2_129 (by decide +kernel) ⟨Nat.le_of_ble_eq_true rfl, Nat.le_of_ble_eq_true rfl⟩) (j_preV (q0 := 1) (ci := 0) hK hP hD csc csc_all csc_nd cl_0 (ce_1 _ _ _) (fun _ _ _ _ h => h) (fun _ _ _ => trivial)) rfl rfl hl.1 rfl (lv_room (Nat.le_of_ble_eq_true rfl)) d_Truths_join_23 ⟨Nat.le_of_ble_eq_true rfl, Nat.le_of_ble_eq_true rfl⟩) (fun rv3 u3 H locs hw3 hP hD hS => ?_)
  have hP : va_P D classes (cW T ad S) H := hP
  have hD : va_D A (cW T ad S) := hD
  have rrv3 := zt_rng rv3
  refine lv_istore (lv' := [(4, .int rv3), (3, .int rv2), (2, .int rv1), (0, .ref (ad 74)), (1, .int p0)]) hx hb d_Truths_join_26 hl (by decide) rfl (fun ls hl => ?_)
  refine lv_aload_n hx hb d_Truths_join_28 rfl (lv_at hl 3 rfl) ?_
  refine va_get (D := D) (ci := 9) (v := .ref (ad 1)) (C := "PageScribe$Truths") (T := F_Truths) (N := 1) hx hb hts i_Truths hown hK hP 74 (ce_74 _ _ _) cl_9 0 (by decide) (hts _ k_2_18) (fun _ h9 => h9) rfl d_Truths_join_29 ?_
  refine lv_iconst (v := 2) hx hb d_Truths_join_32 (by decide) ?_
  refine jc_cv (w := (fun u => u)) hK hP hD hS hA (va_runU (As := [.int 2]) (rest := []) F (c_Row_drop l D T ad S (2 : Int32)  H.size ⟨i_vst, i_vc0, i_vc1, i_vc2, i_vc3, i_vv0, i_vv1, i_vv2, i_vv3, i_vg, i_wct, i_wln, i_sd0, i_sd1, i_sd2, i_sd3, i_rln, i_rtx, i_rpl, i_rtk, i_cnv, i_pts, i_cik, i_und⟩) (j_cU (k := 1) (C := "PageScribe$Stack") (owner := "PageScribe$Row") (x := ⟨"PageScribe$Stack", "drop", "(I)V"⟩) hts k_4_47 k_4_202 k_4_43 k_4_45 k_4_46 k_1_2 rfl (by decide +kernel) ⟨Nat.le_of_ble_eq_true rfl, Nat.le_of_ble_eq_true rfl⟩) (j_preV (q0 := 1) (ci := 0) hK hP hD csc csc_all csc_nd cl_0 (ce_1 _ _ _) (fun _ _ _ _ h => h) (fun _ _ _ => trivial)) rfl rfl hl.1 rfl (lv_room (Nat.le_of_ble_eq_true rfl)) d_Truths_join_33 ⟨Nat.le_of_ble_eq_true rfl, Nat.le_of_ble_eq_true rfl⟩) (fun S1 H locs hw4 hP hD hS => ?_)
  have hP : va_P D classes (cW T ad S1) H := hP
  have hD : va_D A (cW T ad S1) := hD
  obtain ⟨⟨i_vst, i_vc0, i_vc1, i_vc2, i_vc3, i_vv0, i_vv1, i_vv2, i_vv3, i_vg, i_wct, i_wln, i_sd0, i_sd1, i_sd2, i_sd3, i_rln, i_rtx, i_rpl, i_rtk, i_cnv, i_pts, i_cik, i_und⟩, kpcL_S1, kpcP_S1, kpcU_S1, kpcW_S1⟩ := hw4
  have kScL_S1 : kcL S S1 := kcL_t (show kcL S S from (kcL_r S)) kpcL_S1
  have kScP_S1 : kcP S S1 := kcP_t (show kcP S S from (kcP_r S)) kpcP_S1
  have kScU_S1 : kcU S S1 := kcU_t (show kcU S S from (kcU_r S)) kpcU_S1
  have kScW_S1 : kcW S S1 := kcW_t (show kcW S S from (kcW_r S)) kpcW_S1
  have nxr_length_S1 : (f_xr_length S1).toInt = (f_xr_length S).toInt := congrArg Int32.toInt kpcL_S1
  have nxr_length_S1 : (f_xr_length S1).toInt = (f_xr_length S).toInt := congrArg Int32.toInt kpcP_S1.1
  have nxr_place_S1 : (f_xr_place S1).toInt = (f_xr_place S).toInt := congrArg Int32.toInt kpcP_S1.2.1
  have nxe_underWay_S1 : (f_xe_underWay S1).toInt = (f_xe_underWay S).toInt := congrArg Int32.toInt kpcU_S1
  have nxp_columns_S1 : (f_xp_columns S1).toInt = (f_xp_columns S).toInt := congrArg Int32.toInt kpcW_S1.1
  have nxp_rows_S1 : (f_xp_rows S1).toInt = (f_xp_rows S).toInt := congrArg Int32.toInt kpcW_S1.2
  refine lv_aload_n hx hb d_Truths_join_36 rfl (lv_at hl 3 rfl) ?_
  refine va_get (D := D) (ci := 9) (v := .ref (ad 1)) (C := "PageScribe$Truths") (T := F_Truths) (N := 1) hx hb hts i_Truths hown hK hP 74 (ce_74 _ _ _) cl_9 0 (by decide) (hts _ k_2_18) (fun _ h9 => h9) rfl d_Truths_join_37 ?_
  refine lv_iload_n hx hb d_Truths_join_40 rfl (lv_at hl 2 rfl) ?_
  refine j_joinH (α := Int32) (fun x H locs ls => (True) ∧ va_P D classes (cW T ad S1) H ∧ va_D A (cW T ad S1) ∧ va_S A s.heap H locs ∧ lv_has ls 5 [(4, .int rv3), (3, .int rv2), (2, .int rv1), (0, .ref (ad 74)), (1, .int p0)]) (fun x ls => F0 m 56 ls (.int x :: [.int rv1, .ref (ad 1)])) (fun x H locs ls hI9 => ?_) (fun key1 => ?_)
  · obtain ⟨j1, rfl⟩ : ∃ z, z = x := ⟨_, rfl⟩
    obtain ⟨hj1, hP, hD, hS, hl⟩ := hI9
    have hP : va_P D classes (cW T ad S1) H := hP
    have hD : va_D A (cW T ad S1) := hD
    have hl : lv_has ls 5 [(4, .int rv3), (3, .int rv2), (2, .int rv1), (0, .ref (ad 74)), (1, .int p0)] := hl
    refine lv_dconst0 hx hb d_Truths_join_56 ?_
    have := tD_0
    refine jc_ci (w := (fun u => u)) hK hP hD hS hA (va_runU (As := [.int rv1, .int j1, .double 0]) (rest := []) F (c_Row_push l D T ad S1 rv1 j1 0  H.size ⟨i_vst, i_vc0, i_vc1, i_vc2, i_vc3, i_vv0, i_vv1, i_vv2, i_vv3, i_vg, i_wct, i_wln, i_sd0, i_sd1, i_sd2, i_sd3, i_rln, i_rtx, i_rpl, i_rtk, i_cnv, i_pts, i_cik, i_und⟩ (show dB 0 by omega)) (j_cU (k := 3) (C := "PageScribe$Stack") (owner := "PageScribe$Row") (x := ⟨"PageScribe$Stack", "push", "(IID)I"⟩) hts k_2_104 k_4_203 k_2_100 k_2_102 k_2_103 k_1_2 rfl (by decide +kernel) ⟨Nat.le_of_ble_eq_true rfl, Nat.le_of_ble_eq_true rfl⟩) (j_preV (q0 := 1) (ci := 0) hK hP hD csc csc_all csc_nd cl_0 (ce_1 _ _ _) (fun _ _ _ _ h => h) (fun _ _ _ => trivial)) rfl rfl hl.1 rfl (lv_room (Nat.le_of_ble_eq_true rfl)) d_Truths_join_57 ⟨Nat.le_of_ble_eq_true rfl, Nat.le_of_ble_eq_true rfl⟩) (fun rv5 S2 H locs hw5 hP hD hS => ?_)
    have hP : va_P D classes (cW T ad S2) H := hP
    have hD : va_D A (cW T ad S2) := hD
    obtain ⟨⟨i_vst, i_vc0, i_vc1, i_vc2, i_vc3, i_vv0, i_vv1, i_vv2, i_vv3, i_vg, i_wct, i_wln, i_sd0, i_sd1, i_sd2, i_sd3, i_rln, i_rtx, i_rpl, i_rtk, i_cnv, i_pts, i_cik, i_und⟩, kpcL_S2, kpcP_S2, kpcU_S2, kpcW_S2⟩ := hw5
    have kScL_S2 : kcL S S2 := kcL_t (show kcL S S1 from kScL_S1) kpcL_S2
    have kScP_S2 : kcP S S2 := kcP_t (show kcP S S1 from kScP_S1) kpcP_S2
    have kScU_S2 : kcU S S2 := kcU_t (show kcU S S1 from kScU_S1) kpcU_S2
    have kScW_S2 : kcW S S2 := kcW_t (show kcW S S1 from kScW_S1) kpcW_S2
    have nxr_length_S2 : (f_xr_length S2).toInt = (f_xr_length S1).toInt := congrArg Int32.toInt kpcL_S2
    have nxr_length_S2 : (f_xr_length S2).toInt = (f_xr_length S1).toInt := congrArg Int32.toInt kpcP_S2.1
    have nxr_place_S2 : (f_xr_place S2).toInt = (f_xr_place S1).toInt := congrArg Int32.toInt kpcP_S2.2.1
    have nxe_underWay_S2 : (f_xe_underWay S2).toInt = (f_xe_underWay S1).toInt := congrArg Int32.toInt kpcU_S2
    have nxp_columns_S2 : (f_xp_columns S2).toInt = (f_xp_columns S1).toInt := congrArg Int32.toInt kpcW_S2.1
    have nxp_rows_S2 : (f_xp_rows S2).toInt = (f_xp_rows S1).toInt := congrArg Int32.toInt kpcW_S2.2
    have rrv5 := zt_rng rv5
    exact j_iret F hr hlocks hK hS S2 ⟨⟨i_vst, i_vc0, i_vc1, i_vc2, i_vc3, i_vv0, i_vv1, i_vv2, i_vv3, i_vg, i_wct, i_wln, i_sd0, i_sd1, i_sd2, i_sd3, i_rln, i_rtx, i_rpl, i_rtk, i_cnv, i_pts, i_cik, i_und⟩, kScL_S2, kScP_S2, kScU_S2, kScW_S2⟩ hP hD d_Truths_join_60
  · refine lv_iload_n hx hb d_Truths_join_41 rfl (lv_at hl 4 rfl) ?_
    refine lv_if_eq (tgt := 52) hx hb d_Truths_join_42 (by decide) (fun c42_1 => ?_) (fun c42_1 => ?_)
    · have fc42_1 : p0.toInt = 0 := zt_eq (show p0.toInt = _ from rfl) tI_0 c42_1
      refine lv_iload_n hx hb d_Truths_join_52 rfl (lv_at hl 1 rfl) ?_
      refine lv_iload hx hb d_Truths_join_53 (lv_at hl 0 rfl) ?_
      refine lv_ior hx hb d_Truths_join_55 ?_
      refine lv_topi (fun x1 ex1 => ?_)
      have rx1 := zt_rng x1
      exact key1 (x1) _ _ _ ⟨trivial, hP, hD, hS, lv_sub hl [0, 1, 2, 3, 4] rfl⟩
    · first | have fc42_1 : p0.toInt < 0 := (by have := zt_ne (show p0.toInt = _ from rfl) tI_0 c42_1; omega) | have fc42_1 : 0 < p0.toInt := (by have := zt_ne (show p0.toInt = _ from rfl) tI_0 c42_1; omega) | skip
      refine lv_iload_n hx hb d_Truths_join_45 rfl (lv_at hl 1 rfl) ?_
      refine lv_iload hx hb d_Truths_join_46 (lv_at hl 0 rfl) ?_
      refine lv_iand hx hb d_Truths_join_48 ?_
      refine lv_topi (fun x2 ex2 => ?_)
      have rx2 := zt_rng x2
      refine lv_goto (tgt := 56) hx hb d_Truths_join_49 (by decide) ?_
      exact key1 (x2) _ _ _ ⟨trivial, hP, hD, hS, lv_sub hl [0, 1, 2, 3, 4] rfl⟩
theorem d_Truths_turnRound_0 : decode prog_12_method_6_code 0 = .ok (.aload_n 0, 1) := by decide +kernel
theorem d_Truths_turnRound_1 : decode prog_12_method_6_code 1 = .ok (.getfield 9, 3) := by decide +kernel
theorem d_Truths_turnRound_4 : decode prog_12_method_6_code 4 = .ok (.iconst 0, 1) := by decide +kernel
theorem d_Truths_turnRound_5 : decode prog_12_method_6_code 5 = .ok (.invokevirtual 79, 3) := by decide +kernel
theorem d_Truths_turnRound_8 : decode prog_12_method_6_code 8 = .ok (.istore_n 1, 1) := by decide +kernel
theorem d_Truths_turnRound_9 : decode prog_12_method_6_code 9 = .ok (.aload_n 0, 1) := by decide +kernel
theorem d_Truths_turnRound_10 : decode prog_12_method_6_code 10 = .ok (.getfield 9, 3) := by decide +kernel
theorem d_Truths_turnRound_13 : decode prog_12_method_6_code 13 = .ok (.iconst 0, 1) := by decide +kernel
theorem d_Truths_turnRound_14 : decode prog_12_method_6_code 14 = .ok (.invokevirtual 63, 3) := by decide +kernel
theorem d_Truths_turnRound_17 : decode prog_12_method_6_code 17 = .ok (.iconst 2, 1) := by decide +kernel
theorem d_Truths_turnRound_18 : decode prog_12_method_6_code 18 = .ok (.if_icmp .ne 21, 3) := by decide +kernel
theorem d_Truths_turnRound_39 : decode prog_12_method_6_code 39 = .ok (.aload_n 0, 1) := by decide +kernel
theorem d_Truths_turnRound_40 : decode prog_12_method_6_code 40 = .ok (.getfield 9, 3) := by decide +kernel
theorem d_Truths_turnRound_43 : decode prog_12_method_6_code 43 = .ok (.iconst 1, 1) := by decide +kernel
theorem d_Truths_turnRound_44 : decode prog_12_method_6_code 44 = .ok (.iload_n 1, 1) := by decide +kernel
theorem d_Truths_turnRound_45 : decode prog_12_method_6_code 45 = .ok (.iconst (-1), 1) := by decide +kernel
theorem d_Truths_turnRound_46 : decode prog_12_method_6_code 46 = .ok (.ixor, 1) := by decide +kernel
theorem d_Truths_turnRound_47 : decode prog_12_method_6_code 47 = .ok (.invokevirtual 67, 3) := by decide +kernel
theorem k_4_208 : Cond.methodLink "PageScribe$Truths" 67 ⟨"PageScribe$Stack", "giveInt", "(II)I"⟩ ∈ gw := gw_of (tb_4 (List.mem_of_getElem? (i := 208) (by decide +kernel))) (by decide +kernel)
theorem d_Truths_turnRound_50 : decode prog_12_method_6_code 50 = .ok (.ireturn, 1) := by decide +kernel
theorem d_Truths_turnRound_21 : decode prog_12_method_6_code 21 = .ok (.aload_n 0, 1) := by decide +kernel
theorem d_Truths_turnRound_22 : decode prog_12_method_6_code 22 = .ok (.getfield 9, 3) := by decide +kernel
theorem d_Truths_turnRound_25 : decode prog_12_method_6_code 25 = .ok (.iconst 1, 1) := by decide +kernel
theorem d_Truths_turnRound_26 : decode prog_12_method_6_code 26 = .ok (.iload_n 1, 1) := by decide +kernel
theorem d_Truths_turnRound_27 : decode prog_12_method_6_code 27 = .ok (.ifCond .ne 7, 3) := by decide +kernel
theorem d_Truths_turnRound_34 : decode prog_12_method_6_code 34 = .ok (.iconst 0, 1) := by decide +kernel
theorem d_Truths_turnRound_35 : decode prog_12_method_6_code 35 = .ok (.invokevirtual 44, 3) := by decide +kernel
theorem k_4_192 : Cond.methodLink "PageScribe$Truths" 44 ⟨"PageScribe$Stack", "giveFlag", "(IZ)I"⟩ ∈ gw := gw_of (tb_4 (List.mem_of_getElem? (i := 192) (by decide +kernel))) (by decide +kernel)
theorem d_Truths_turnRound_38 : decode prog_12_method_6_code 38 = .ok (.ireturn, 1) := by decide +kernel
theorem d_Truths_turnRound_30 : decode prog_12_method_6_code 30 = .ok (.iconst 1, 1) := by decide +kernel
theorem d_Truths_turnRound_31 : decode prog_12_method_6_code 31 = .ok (.goto 4, 3) := by decide +kernel
set_option maxHeartbeats 4000000 in
set_option maxRecDepth 100000 in
theorem c_Truths_turnRound (l : Launch) (D : va_G) (T : Nat → ClassId) (ad : Nat → Nat) (S : CS)  (sz : Nat)  (hI : CIv S) : Met l ⟨"PageScribe$Truths", "turnRound", "()I"⟩ (wy ⟨"PageScribe$Truths", "turnRound", "()I"⟩ prog_12_method_6_code 2 (some .int)) ({ frames := 3, cells := 0, slots := 0, locals := 210 }) (va_Pc [.ref (ad 74)] (Pw D T (cW T ad S) sz E0)) (va_Qi (fun (r : Int32) (u : CS) => CIv u ∧ kcL S u ∧ kcP S u ∧ kcU S u ∧ kcW S u) (fun u t => Bw D T (va_A (cW T ad S) sz) (cW T ad u) t) (va_A (cW T ad S) sz)) 0 0 (va_A (cW T ad S) sz) := by
  refine j_met (y := ⟨"PageScribe$Truths", "turnRound", "()I"⟩) (b := prog_12_method_6_code) (n := 2) (ret := (some .int)) (av := [.ref (ad 74)]) (Qc := fun A => va_Qi (fun (r : Int32) (u : CS) => CIv u ∧ kcL S u ∧ kcP S u ∧ kcU S u ∧ kcW S u) (fun u t => Bw D T A (cW T ad u) t) A) (by decide +kernel) (Nat.le_of_ble_eq_true rfl) (fun p e s m args below meth c A ls F hr hlocks hnm hK hP hD hS hA hN hE hl => ?_)
  obtain ⟨hx, hb, hml, hown, hts⟩ := id F
  have hl : lv_has ls 2 [(0, .ref (ad 74))] := hl
  obtain ⟨i_vst, i_vc0, i_vc1, i_vc2, i_vc3, i_vv0, i_vv1, i_vv2, i_vv3, i_vg, i_wct, i_wln, i_sd0, i_sd1, i_sd2, i_sd3, i_rln, i_rtx, i_rpl, i_rtk, i_cnv, i_pts, i_cik, i_und⟩ := id hI
  refine lv_aload_n hx hb d_Truths_turnRound_0 rfl (lv_at hl 0 rfl) ?_
  refine va_get (D := D) (ci := 9) (v := .ref (ad 1)) (C := "PageScribe$Truths") (T := F_Truths) (N := 1) hx hb hts i_Truths hown hK hP 74 (ce_74 _ _ _) cl_9 0 (by decide) (hts _ k_2_18) (fun _ h9 => h9) rfl d_Truths_turnRound_1 ?_
  refine lv_iconst (v := 0) hx hb d_Truths_turnRound_4 (by decide) ?_
  refine jc_ci (w := (fun _ => S)) hK hP hD hS hA (va_runV (As := [.int 0]) (rest := []) F (c_Stack_numberDown l D T ad S (0 : Int32)  s.heap.size) (j_cV (k := 1) (C := "PageScribe$Stack") hts k_2_130 k_1_3 k_4_186 k_2_128 k_2_129 (by decide +kernel) ⟨Nat.le_of_ble_eq_true rfl, Nat.le_of_ble_eq_true rfl⟩) (j_preV (q0 := 1) (ci := 0) hK hP hD csc csc_all csc_nd cl_0 (ce_1 _ _ _) (fun _ _ _ _ h => h) (fun _ _ _ => trivial)) rfl rfl hl.1 rfl (lv_room (Nat.le_of_ble_eq_true rfl)) d_Truths_turnRound_5 ⟨Nat.le_of_ble_eq_true rfl, Nat.le_of_ble_eq_true rfl⟩) (fun rv1 u1 H locs hw1 hP hD hS => ?_)
  have hP : va_P D classes (cW T ad S) H := hP
  have hD : va_D A (cW T ad S) := hD
  have rrv1 := zt_rng rv1
  refine lv_istore_n (lv' := [(1, .int rv1), (0, .ref (ad 74))]) hx hb d_Truths_turnRound_8 rfl hl (by decide) rfl (fun ls hl => ?_)
  refine lv_aload_n hx hb d_Truths_turnRound_9 rfl (lv_at hl 1 rfl) ?_
  refine va_get (D := D) (ci := 9) (v := .ref (ad 1)) (C := "PageScribe$Truths") (T := F_Truths) (N := 1) hx hb hts i_Truths hown hK hP 74 (ce_74 _ _ _) cl_9 0 (by decide) (hts _ k_2_18) (fun _ h9 => h9) rfl d_Truths_turnRound_10 ?_
  refine lv_iconst (v := 0) hx hb d_Truths_turnRound_13 (by decide) ?_
  refine jc_ci (w := (fun _ => S)) hK hP hD hS hA (va_runV (As := [.int 0]) (rest := []) F (c_Stack_kindDown l D T ad S (0 : Int32)  H.size) (j_cV (k := 1) (C := "PageScribe$Stack") hts k_2_120 k_1_3 k_4_184 k_2_118 k_2_119 (by decide +kernel) ⟨Nat.le_of_ble_eq_true rfl, Nat.le_of_ble_eq_true rfl⟩) (j_preV (q0 := 1) (ci := 0) hK hP hD csc csc_all csc_nd cl_0 (ce_1 _ _ _) (fun _ _ _ _ h => h) (fun _ _ _ => trivial)) rfl rfl hl.1 rfl (lv_room (Nat.le_of_ble_eq_true rfl)) d_Truths_turnRound_14 ⟨Nat.le_of_ble_eq_true rfl, Nat.le_of_ble_eq_true rfl⟩) (fun rv2 u2 H locs hw2 hP hD hS => ?_)
  have hP : va_P D classes (cW T ad S) H := hP
  have hD : va_D A (cW T ad S) := hD
  have rrv2 := zt_rng rv2
  refine lv_iconst (v := 2) hx hb d_Truths_turnRound_17 (by decide) ?_
  refine lv_icmp_ne (tgt := 39) hx hb d_Truths_turnRound_18 (by decide) (fun c18_1 => ?_) (fun c18_1 => ?_)
  · first | have fc18_1 : rv2.toInt < 2 := (by have := zt_ne (show rv2.toInt = _ from rfl) tI_2 c18_1; omega) | have fc18_1 : 2 < rv2.toInt := (by have := zt_ne (show rv2.toInt = _ from rfl) tI_2 c18_1; omega) | skip
    refine lv_aload_n hx hb d_Truths_turnRound_39 rfl (lv_at hl 1 rfl) ?_
    refine va_get (D := D) (ci := 9) (v := .ref (ad 1)) (C := "PageScribe$Truths") (T := F_Truths) (N := 1) hx hb hts i_Truths hown hK hP 74 (ce_74 _ _ _) cl_9 0 (by decide) (hts _ k_2_18) (fun _ h9 => h9) rfl d_Truths_turnRound_40 ?_
    refine lv_iconst (v := 1) hx hb d_Truths_turnRound_43 (by decide) ?_
    refine lv_iload_n hx hb d_Truths_turnRound_44 rfl (lv_at hl 0 rfl) ?_
    refine lv_iconst (v := (-1)) hx hb d_Truths_turnRound_45 (by decide) ?_
    refine lv_ixor hx hb d_Truths_turnRound_46 ?_
    refine lv_topi (fun x1 ex1 => ?_)
    have rx1 := zt_rng x1
    refine jc_ci (w := (fun u => u)) hK hP hD hS hA (va_runV (As := [.int 1, .int x1]) (rest := []) F (c_Stack_giveInt l D T ad S (1 : Int32) x1  H.size ⟨i_vst, i_vc0, i_vc1, i_vc2, i_vc3, i_vv0, i_vv1, i_vv2, i_vv3, i_vg, i_wct, i_wln, i_sd0, i_sd1, i_sd2, i_sd3, i_rln, i_rtx, i_rpl, i_rtk, i_cnv, i_pts, i_cik, i_und⟩) (j_cV (k := 2) (C := "PageScribe$Stack") hts k_4_140 k_1_3 k_4_208 k_4_138 k_4_139 (by decide +kernel) ⟨Nat.le_of_ble_eq_true rfl, Nat.le_of_ble_eq_true rfl⟩) (j_preV (q0 := 1) (ci := 0) hK hP hD csc csc_all csc_nd cl_0 (ce_1 _ _ _) (fun _ _ _ _ h => h) (fun _ _ _ => trivial)) rfl rfl hl.1 rfl (lv_room (Nat.le_of_ble_eq_true rfl)) d_Truths_turnRound_47 ⟨Nat.le_of_ble_eq_true rfl, Nat.le_of_ble_eq_true rfl⟩) (fun rv3 S1 H locs hw3 hP hD hS => ?_)
    have hP : va_P D classes (cW T ad S1) H := hP
    have hD : va_D A (cW T ad S1) := hD
    obtain ⟨⟨i_vst, i_vc0, i_vc1, i_vc2, i_vc3, i_vv0, i_vv1, i_vv2, i_vv3, i_vg, i_wct, i_wln, i_sd0, i_sd1, i_sd2, i_sd3, i_rln, i_rtx, i_rpl, i_rtk, i_cnv, i_pts, i_cik, i_und⟩, kpcL_S1, kpcP_S1, kpcU_S1, kpcW_S1⟩ := hw3
    have kScL_S1 : kcL S S1 := kcL_t (show kcL S S from (kcL_r S)) kpcL_S1
    have kScP_S1 : kcP S S1 := kcP_t (show kcP S S from (kcP_r S)) kpcP_S1
    have kScU_S1 : kcU S S1 := kcU_t (show kcU S S from (kcU_r S)) kpcU_S1
    have kScW_S1 : kcW S S1 := kcW_t (show kcW S S from (kcW_r S)) kpcW_S1
    have nxr_length_S1 : (f_xr_length S1).toInt = (f_xr_length S).toInt := congrArg Int32.toInt kpcL_S1
    have nxr_length_S1 : (f_xr_length S1).toInt = (f_xr_length S).toInt := congrArg Int32.toInt kpcP_S1.1
    have nxr_place_S1 : (f_xr_place S1).toInt = (f_xr_place S).toInt := congrArg Int32.toInt kpcP_S1.2.1
    have nxe_underWay_S1 : (f_xe_underWay S1).toInt = (f_xe_underWay S).toInt := congrArg Int32.toInt kpcU_S1
    have nxp_columns_S1 : (f_xp_columns S1).toInt = (f_xp_columns S).toInt := congrArg Int32.toInt kpcW_S1.1
    have nxp_rows_S1 : (f_xp_rows S1).toInt = (f_xp_rows S).toInt := congrArg Int32.toInt kpcW_S1.2
    have rrv3 := zt_rng rv3
    exact j_iret F hr hlocks hK hS S1 ⟨⟨i_vst, i_vc0, i_vc1, i_vc2, i_vc3, i_vv0, i_vv1, i_vv2, i_vv3, i_vg, i_wct, i_wln, i_sd0, i_sd1, i_sd2, i_sd3, i_rln, i_rtx, i_rpl, i_rtk, i_cnv, i_pts, i_cik, i_und⟩, kScL_S1, kScP_S1, kScU_S1, kScW_S1⟩ hP hD d_Truths_turnRound_50
  · have fc18_1 : rv2.toInt = 2 := zt_eq (show rv2.toInt = _ from rfl) tI_2 c18_1
    refine lv_aload_n hx hb d_Truths_turnRound_21 rfl (lv_at hl 1 rfl) ?_
    refine va_get (D := D) (ci := 9) (v := .ref (ad 1)) (C := "PageScribe$Truths") (T := F_Truths) (N := 1) hx hb hts i_Truths hown hK hP 74 (ce_74 _ _ _) cl_9 0 (by decide) (hts _ k_2_18) (fun _ h9 => h9) rfl d_Truths_turnRound_22 ?_
    refine lv_iconst (v := 1) hx hb d_Truths_turnRound_25 (by decide) ?_
    refine lv_iload_n hx hb d_Truths_turnRound_26 rfl (lv_at hl 0 rfl) ?_
    refine lv_if_ne (tgt := 34) hx hb d_Truths_turnRound_27 (by decide) (fun c27_1 => ?_) (fun c27_1 => ?_)
    · first | have fc27_1 : rv1.toInt < 0 := (by have := zt_ne (show rv1.toInt = _ from rfl) tI_0 c27_1; omega) | have fc27_1 : 0 < rv1.toInt := (by have := zt_ne (show rv1.toInt = _ from rfl) tI_0 c27_1; omega) | skip
      refine lv_iconst (v := 0) hx hb d_Truths_turnRound_34 (by decide) ?_
      refine jc_ci (w := (fun u => u)) hK hP hD hS hA (va_runV (As := [.int 1, .int 0]) (rest := []) F (c_Stack_giveFlag l D T ad S (1 : Int32) (0 : Int32)  H.size ⟨i_vst, i_vc0, i_vc1, i_vc2, i_vc3, i_vv0, i_vv1, i_vv2, i_vv3, i_vg, i_wct, i_wln, i_sd0, i_sd1, i_sd2, i_sd3, i_rln, i_rtx, i_rpl, i_rtk, i_cnv, i_pts, i_cik, i_und⟩) (j_cV (k := 2) (C := "PageScribe$Stack") hts k_4_195 k_1_3 k_4_192 k_4_193 k_4_194 (by decide +kernel) ⟨Nat.le_of_ble_eq_true rfl, Nat.le_of_ble_eq_true rfl⟩) (j_preV (q0 := 1) (ci := 0) hK hP hD csc csc_all csc_nd cl_0 (ce_1 _ _ _) (fun _ _ _ _ h => h) (fun _ _ _ => trivial)) rfl rfl hl.1 rfl (lv_room (Nat.le_of_ble_eq_true rfl)) d_Truths_turnRound_35 ⟨Nat.le_of_ble_eq_true rfl, Nat.le_of_ble_eq_true rfl⟩) (fun rv4 S2 H locs hw4 hP hD hS => ?_)
      have hP : va_P D classes (cW T ad S2) H := hP
      have hD : va_D A (cW T ad S2) := hD
      obtain ⟨⟨i_vst, i_vc0, i_vc1, i_vc2, i_vc3, i_vv0, i_vv1, i_vv2, i_vv3, i_vg, i_wct, i_wln, i_sd0, i_sd1, i_sd2, i_sd3, i_rln, i_rtx, i_rpl, i_rtk, i_cnv, i_pts, i_cik, i_und⟩, kpcL_S2, kpcP_S2, kpcU_S2, kpcW_S2⟩ := hw4
      have kScL_S2 : kcL S S2 := kcL_t (show kcL S S from (kcL_r S)) kpcL_S2
      have kScP_S2 : kcP S S2 := kcP_t (show kcP S S from (kcP_r S)) kpcP_S2
      have kScU_S2 : kcU S S2 := kcU_t (show kcU S S from (kcU_r S)) kpcU_S2
      have kScW_S2 : kcW S S2 := kcW_t (show kcW S S from (kcW_r S)) kpcW_S2
      have nxr_length_S2 : (f_xr_length S2).toInt = (f_xr_length S).toInt := congrArg Int32.toInt kpcL_S2
      have nxr_length_S2 : (f_xr_length S2).toInt = (f_xr_length S).toInt := congrArg Int32.toInt kpcP_S2.1
      have nxr_place_S2 : (f_xr_place S2).toInt = (f_xr_place S).toInt := congrArg Int32.toInt kpcP_S2.2.1
      have nxe_underWay_S2 : (f_xe_underWay S2).toInt = (f_xe_underWay S).toInt := congrArg Int32.toInt kpcU_S2
      have nxp_columns_S2 : (f_xp_columns S2).toInt = (f_xp_columns S).toInt := congrArg Int32.toInt kpcW_S2.1
      have nxp_rows_S2 : (f_xp_rows S2).toInt = (f_xp_rows S).toInt := congrArg Int32.toInt kpcW_S2.2
      have rrv4 := zt_rng rv4
      exact j_iret F hr hlocks hK hS S2 ⟨⟨i_vst, i_vc0, i_vc1, i_vc2, i_vc3, i_vv0, i_vv1, i_vv2, i_vv3, i_vg, i_wct, i_wln, i_sd0, i_sd1, i_sd2, i_sd3, i_rln, i_rtx, i_rpl, i_rtk, i_cnv, i_pts, i_cik, i_und⟩, kScL_S2, kScP_S2, kScU_S2, kScW_S2⟩ hP hD d_Truths_turnRound_38
    · have fc27_1 : rv1.toInt = 0 := zt_eq (show rv1.toInt = _ from rfl) tI_0 c27_1
      refine lv_iconst (v := 1) hx hb d_Truths_turnRound_30 (by decide) ?_
      refine lv_goto (tgt := 35) hx hb d_Truths_turnRound_31 (by decide) ?_
      refine jc_ci (w := (fun u => u)) hK hP hD hS hA (va_runV (As := [.int 1, .int 1]) (rest := []) F (c_Stack_giveFlag l D T ad S (1 : Int32) (1 : Int32)  H.size ⟨i_vst, i_vc0, i_vc1, i_vc2, i_vc3, i_vv0, i_vv1, i_vv2, i_vv3, i_vg, i_wct, i_wln, i_sd0, i_sd1, i_sd2, i_sd3, i_rln, i_rtx, i_rpl, i_rtk, i_cnv, i_pts, i_cik, i_und⟩) (j_cV (k := 2) (C := "PageScribe$Stack") hts k_4_195 k_1_3 k_4_192 k_4_193 k_4_194 (by decide +kernel) ⟨Nat.le_of_ble_eq_true rfl, Nat.le_of_ble_eq_true rfl⟩) (j_preV (q0 := 1) (ci := 0) hK hP hD csc csc_all csc_nd cl_0 (ce_1 _ _ _) (fun _ _ _ _ h => h) (fun _ _ _ => trivial)) rfl rfl hl.1 rfl (lv_room (Nat.le_of_ble_eq_true rfl)) d_Truths_turnRound_35 ⟨Nat.le_of_ble_eq_true rfl, Nat.le_of_ble_eq_true rfl⟩) (fun rv5 S3 H locs hw5 hP hD hS => ?_)
      have hP : va_P D classes (cW T ad S3) H := hP
      have hD : va_D A (cW T ad S3) := hD
      obtain ⟨⟨i_vst, i_vc0, i_vc1, i_vc2, i_vc3, i_vv0, i_vv1, i_vv2, i_vv3, i_vg, i_wct, i_wln, i_sd0, i_sd1, i_sd2, i_sd3, i_rln, i_rtx, i_rpl, i_rtk, i_cnv, i_pts, i_cik, i_und⟩, kpcL_S3, kpcP_S3, kpcU_S3, kpcW_S3⟩ := hw5
      have kScL_S3 : kcL S S3 := kcL_t (show kcL S S from (kcL_r S)) kpcL_S3
      have kScP_S3 : kcP S S3 := kcP_t (show kcP S S from (kcP_r S)) kpcP_S3
      have kScU_S3 : kcU S S3 := kcU_t (show kcU S S from (kcU_r S)) kpcU_S3
      have kScW_S3 : kcW S S3 := kcW_t (show kcW S S from (kcW_r S)) kpcW_S3
      have nxr_length_S3 : (f_xr_length S3).toInt = (f_xr_length S).toInt := congrArg Int32.toInt kpcL_S3
      have nxr_length_S3 : (f_xr_length S3).toInt = (f_xr_length S).toInt := congrArg Int32.toInt kpcP_S3.1
      have nxr_place_S3 : (f_xr_place S3).toInt = (f_xr_place S).toInt := congrArg Int32.toInt kpcP_S3.2.1
      have nxe_underWay_S3 : (f_xe_underWay S3).toInt = (f_xe_underWay S).toInt := congrArg Int32.toInt kpcU_S3
      have nxp_columns_S3 : (f_xp_columns S3).toInt = (f_xp_columns S).toInt := congrArg Int32.toInt kpcW_S3.1
      have nxp_rows_S3 : (f_xp_rows S3).toInt = (f_xp_rows S).toInt := congrArg Int32.toInt kpcW_S3.2
      have rrv5 := zt_rng rv5
      exact j_iret F hr hlocks hK hS S3 ⟨⟨i_vst, i_vc0, i_vc1, i_vc2, i_vc3, i_vv0, i_vv1, i_vv2, i_vv3, i_vg, i_wct, i_wln, i_sd0, i_sd1, i_sd2, i_sd3, i_rln, i_rtx, i_rpl, i_rtk, i_cnv, i_pts, i_cik, i_und⟩, kScL_S3, kScP_S3, kScU_S3, kScW_S3⟩ hP hD d_Truths_turnRound_38
theorem d_Truths_setLive_0 : decode prog_12_method_7_code 0 = .ok (.aload_n 0, 1) := by decide +kernel
theorem d_Truths_setLive_1 : decode prog_12_method_7_code 1 = .ok (.getfield 9, 3) := by decide +kernel
theorem d_Truths_setLive_4 : decode prog_12_method_7_code 4 = .ok (.iconst 0, 1) := by decide +kernel
theorem d_Truths_setLive_5 : decode prog_12_method_7_code 5 = .ok (.invokevirtual 63, 3) := by decide +kernel
theorem d_Truths_setLive_8 : decode prog_12_method_7_code 8 = .ok (.bipush 7, 2) := by decide +kernel
theorem d_Truths_setLive_10 : decode prog_12_method_7_code 10 = .ok (.iand, 1) := by decide +kernel
theorem d_Truths_setLive_11 : decode prog_12_method_7_code 11 = .ok (.istore_n 2, 1) := by decide +kernel
theorem d_Truths_setLive_12 : decode prog_12_method_7_code 12 = .ok (.aload_n 0, 1) := by decide +kernel
theorem d_Truths_setLive_13 : decode prog_12_method_7_code 13 = .ok (.getfield 9, 3) := by decide +kernel
theorem d_Truths_setLive_16 : decode prog_12_method_7_code 16 = .ok (.iconst 0, 1) := by decide +kernel
theorem d_Truths_setLive_17 : decode prog_12_method_7_code 17 = .ok (.invokevirtual 79, 3) := by decide +kernel
theorem d_Truths_setLive_20 : decode prog_12_method_7_code 20 = .ok (.istore_n 3, 1) := by decide +kernel
theorem d_Truths_setLive_21 : decode prog_12_method_7_code 21 = .ok (.iload_n 2, 1) := by decide +kernel
theorem d_Truths_setLive_22 : decode prog_12_method_7_code 22 = .ok (.iconst 3, 1) := by decide +kernel
theorem d_Truths_setLive_23 : decode prog_12_method_7_code 23 = .ok (.if_icmp .eq 8, 3) := by decide +kernel
theorem d_Truths_setLive_31 : decode prog_12_method_7_code 31 = .ok (.aload_n 0, 1) := by decide +kernel
theorem d_Truths_setLive_32 : decode prog_12_method_7_code 32 = .ok (.getfield 9, 3) := by decide +kernel
theorem d_Truths_setLive_35 : decode prog_12_method_7_code 35 = .ok (.iconst 1, 1) := by decide +kernel
theorem d_Truths_setLive_36 : decode prog_12_method_7_code 36 = .ok (.invokevirtual 85, 3) := by decide +kernel
theorem d_Truths_setLive_39 : decode prog_12_method_7_code 39 = .ok (.aload_n 0, 1) := by decide +kernel
theorem d_Truths_setLive_40 : decode prog_12_method_7_code 40 = .ok (.getfield 9, 3) := by decide +kernel
theorem d_Truths_setLive_55 : decode prog_12_method_7_code 55 = .ok (.iload_n 3, 1) := by decide +kernel
theorem d_Truths_setLive_56 : decode prog_12_method_7_code 56 = .ok (.dconst 0, 1) := by decide +kernel
theorem d_Truths_setLive_57 : decode prog_12_method_7_code 57 = .ok (.invokevirtual 89, 3) := by decide +kernel
theorem d_Truths_setLive_60 : decode prog_12_method_7_code 60 = .ok (.ireturn, 1) := by decide +kernel
theorem d_Truths_setLive_43 : decode prog_12_method_7_code 43 = .ok (.iload_n 1, 1) := by decide +kernel
theorem d_Truths_setLive_44 : decode prog_12_method_7_code 44 = .ok (.ifCond .eq 10, 3) := by decide +kernel
theorem d_Truths_setLive_54 : decode prog_12_method_7_code 54 = .ok (.iload_n 2, 1) := by decide +kernel
theorem d_Truths_setLive_47 : decode prog_12_method_7_code 47 = .ok (.iload_n 2, 1) := by decide +kernel
theorem d_Truths_setLive_48 : decode prog_12_method_7_code 48 = .ok (.bipush 8, 2) := by decide +kernel
theorem d_Truths_setLive_50 : decode prog_12_method_7_code 50 = .ok (.iadd, 1) := by decide +kernel
theorem d_Truths_setLive_51 : decode prog_12_method_7_code 51 = .ok (.goto 4, 3) := by decide +kernel
theorem d_Truths_setLive_26 : decode prog_12_method_7_code 26 = .ok (.iload_n 2, 1) := by decide +kernel
theorem d_Truths_setLive_27 : decode prog_12_method_7_code 27 = .ok (.iconst 5, 1) := by decide +kernel
theorem d_Truths_setLive_28 : decode prog_12_method_7_code 28 = .ok (.if_icmp .ne 33, 3) := by decide +kernel
theorem d_Truths_setLive_61 : decode prog_12_method_7_code 61 = .ok (.iconst 0, 1) := by decide +kernel
theorem d_Truths_setLive_62 : decode prog_12_method_7_code 62 = .ok (.ireturn, 1) := by decide +kernel
set_option maxHeartbeats 4000000 in
set_option maxRecDepth 100000 in
theorem c_Truths_setLive (l : Launch) (D : va_G) (T : Nat → ClassId) (ad : Nat → Nat) (S : CS) (p0 : Int32) (sz : Nat)  (hI : CIv S) : Met l ⟨"PageScribe$Truths", "setLive", "(Z)I"⟩ (wy ⟨"PageScribe$Truths", "setLive", "(Z)I"⟩ prog_12_method_7_code 4 (some .int)) ({ frames := 2, cells := 0, slots := 0, locals := 140 }) (va_Pc [.ref (ad 74), .int p0] (Pw D T (cW T ad S) sz E0)) (va_Qi (fun (r : Int32) (u : CS) => CIv u ∧ kcL S u ∧ kcP S u ∧ kcU S u ∧ kcW S u) (fun u t => Bw D T (va_A (cW T ad S) sz) (cW T ad u) t) (va_A (cW T ad S) sz)) 0 0 (va_A (cW T ad S) sz) := by
  refine j_met (y := ⟨"PageScribe$Truths", "setLive", "(Z)I"⟩) (b := prog_12_method_7_code) (n := 4) (ret := (some .int)) (av := [.ref (ad 74), .int p0]) (Qc := fun A => va_Qi (fun (r : Int32) (u : CS) => CIv u ∧ kcL S u ∧ kcP S u ∧ kcU S u ∧ kcW S u) (fun u t => Bw D T A (cW T ad u) t) A) (by decide +kernel) (Nat.le_of_ble_eq_true rfl) (fun p e s m args below meth c A ls F hr hlocks hnm hK hP hD hS hA hN hE hl => ?_)
  obtain ⟨hx, hb, hml, hown, hts⟩ := id F
  have hl : lv_has ls 4 [(0, .ref (ad 74)), (1, .int p0)] := hl
  obtain ⟨i_vst, i_vc0, i_vc1, i_vc2, i_vc3, i_vv0, i_vv1, i_vv2, i_vv3, i_vg, i_wct, i_wln, i_sd0, i_sd1, i_sd2, i_sd3, i_rln, i_rtx, i_rpl, i_rtk, i_cnv, i_pts, i_cik, i_und⟩ := id hI
  have rp0 := zt_rng p0
  refine lv_aload_n hx hb d_Truths_setLive_0 rfl (lv_at hl 0 rfl) ?_
  refine va_get (D := D) (ci := 9) (v := .ref (ad 1)) (C := "PageScribe$Truths") (T := F_Truths) (N := 1) hx hb hts i_Truths hown hK hP 74 (ce_74 _ _ _) cl_9 0 (by decide) (hts _ k_2_18) (fun _ h9 => h9) rfl d_Truths_setLive_1 ?_
  refine lv_iconst (v := 0) hx hb d_Truths_setLive_4 (by decide) ?_
  refine jc_ci (w := (fun _ => S)) hK hP hD hS hA (va_runV (As := [.int 0]) (rest := []) F (c_Stack_kindDown l D T ad S (0 : Int32)  s.heap.size) (j_cV (k := 1) (C := "PageScribe$Stack") hts k_2_120 k_1_3 k_4_184 k_2_118 k_2_119 (by decide +kernel) ⟨Nat.le_of_ble_eq_true rfl, Nat.le_of_ble_eq_true rfl⟩) (j_preV (q0 := 1) (ci := 0) hK hP hD csc csc_all csc_nd cl_0 (ce_1 _ _ _) (fun _ _ _ _ h => h) (fun _ _ _ => trivial)) rfl rfl hl.1 rfl (lv_room (Nat.le_of_ble_eq_true rfl)) d_Truths_setLive_5 ⟨Nat.le_of_ble_eq_true rfl, Nat.le_of_ble_eq_true rfl⟩) (fun rv1 u1 H locs hw1 hP hD hS => ?_)
  have hP : va_P D classes (cW T ad S) H := hP
  have hD : va_D A (cW T ad S) := hD
  have rrv1 := zt_rng rv1
  refine lv_bipush (v := 7) hx hb d_Truths_setLive_8 (by decide) ?_
  refine lv_iand hx hb d_Truths_setLive_10 ?_
  refine lv_topi (fun x1 ex1 => ?_)
  have rx1 := zt_rng x1
  refine lv_istore_n (lv' := [(2, .int x1), (0, .ref (ad 74)), (1, .int p0)]) hx hb d_Truths_setLive_11 rfl hl (by decide) rfl (fun ls hl => ?_)
  refine lv_aload_n hx hb d_Truths_setLive_12 rfl (lv_at hl 1 rfl) ?_
  refine va_get (D := D) (ci := 9) (v := .ref (ad 1)) (C := "PageScribe$Truths") (T := F_Truths) (N := 1) hx hb hts i_Truths hown hK hP 74 (ce_74 _ _ _) cl_9 0 (by decide) (hts _ k_2_18) (fun _ h9 => h9) rfl d_Truths_setLive_13 ?_
  refine lv_iconst (v := 0) hx hb d_Truths_setLive_16 (by decide) ?_
  refine jc_ci (w := (fun _ => S)) hK hP hD hS hA (va_runV (As := [.int 0]) (rest := []) F (c_Stack_numberDown l D T ad S (0 : Int32)  H.size) (j_cV (k := 1) (C := "PageScribe$Stack") hts k_2_130 k_1_3 k_4_186 k_2_128 k_2_129 (by decide +kernel) ⟨Nat.le_of_ble_eq_true rfl, Nat.le_of_ble_eq_true rfl⟩) (j_preV (q0 := 1) (ci := 0) hK hP hD csc csc_all csc_nd cl_0 (ce_1 _ _ _) (fun _ _ _ _ h => h) (fun _ _ _ => trivial)) rfl rfl hl.1 rfl (lv_room (Nat.le_of_ble_eq_true rfl)) d_Truths_setLive_17 ⟨Nat.le_of_ble_eq_true rfl, Nat.le_of_ble_eq_true rfl⟩) (fun rv2 u2 H locs hw2 hP hD hS => ?_)
  have hP : va_P D classes (cW T ad S) H := hP
  have hD : va_D A (cW T ad S) := hD
  have rrv2 := zt_rng rv2
  refine lv_istore_n (lv' := [(3, .int rv2), (2, .int x1), (0, .ref (ad 74)), (1, .int p0)]) hx hb d_Truths_setLive_20 rfl hl (by decide) rfl (fun ls hl => ?_)
  refine lv_iload_n hx hb d_Truths_setLive_21 rfl (lv_at hl 1 rfl) ?_
  refine lv_iconst (v := 3) hx hb d_Truths_setLive_22 (by decide) ?_
  refine lv_icmp_eq (tgt := 31) hx hb d_Truths_setLive_23 (by decide) (fun c23_1 => ?_) (fun c23_1 => ?_)
  · have fc23_1 : x1.toInt = 3 := zt_eq (show x1.toInt = _ from rfl) tI_3 c23_1
    refine lv_aload_n hx hb d_Truths_setLive_31 rfl (lv_at hl 2 rfl) ?_
    refine va_get (D := D) (ci := 9) (v := .ref (ad 1)) (C := "PageScribe$Truths") (T := F_Truths) (N := 1) hx hb hts i_Truths hown hK hP 74 (ce_74 _ _ _) cl_9 0 (by decide) (hts _ k_2_18) (fun _ h9 => h9) rfl d_Truths_setLive_32 ?_
    refine lv_iconst (v := 1) hx hb d_Truths_setLive_35 (by decide) ?_
    refine jc_cv (w := (fun u => u)) hK hP hD hS hA (va_runU (As := [.int 1]) (rest := []) F (c_Row_drop l D T ad S (1 : Int32)  H.size ⟨i_vst, i_vc0, i_vc1, i_vc2, i_vc3, i_vv0, i_vv1, i_vv2, i_vv3, i_vg, i_wct, i_wln, i_sd0, i_sd1, i_sd2, i_sd3, i_rln, i_rtx, i_rpl, i_rtk, i_cnv, i_pts, i_cik, i_und⟩) (j_cU (k := 1) (C := "PageScribe$Stack") (owner := "PageScribe$Row") (x := ⟨"PageScribe$Stack", "drop", "(I)V"⟩) hts k_4_47 k_4_202 k_4_43 k_4_45 k_4_46 k_1_2 rfl (by decide +kernel) ⟨Nat.le_of_ble_eq_true rfl, Nat.le_of_ble_eq_true rfl⟩) (j_preV (q0 := 1) (ci := 0) hK hP hD csc csc_all csc_nd cl_0 (ce_1 _ _ _) (fun _ _ _ _ h => h) (fun _ _ _ => trivial)) rfl rfl hl.1 rfl (lv_room (Nat.le_of_ble_eq_true rfl)) d_Truths_setLive_36 ⟨Nat.le_of_ble_eq_true rfl, Nat.le_of_ble_eq_true rfl⟩) (fun S1 H locs hw3 hP hD hS => ?_)
    have hP : va_P D classes (cW T ad S1) H := hP
    have hD : va_D A (cW T ad S1) := hD
    obtain ⟨⟨i_vst, i_vc0, i_vc1, i_vc2, i_vc3, i_vv0, i_vv1, i_vv2, i_vv3, i_vg, i_wct, i_wln, i_sd0, i_sd1, i_sd2, i_sd3, i_rln, i_rtx, i_rpl, i_rtk, i_cnv, i_pts, i_cik, i_und⟩, kpcL_S1, kpcP_S1, kpcU_S1, kpcW_S1⟩ := hw3
    have kScL_S1 : kcL S S1 := kcL_t (show kcL S S from (kcL_r S)) kpcL_S1
    have kScP_S1 : kcP S S1 := kcP_t (show kcP S S from (kcP_r S)) kpcP_S1
    have kScU_S1 : kcU S S1 := kcU_t (show kcU S S from (kcU_r S)) kpcU_S1
    have kScW_S1 : kcW S S1 := kcW_t (show kcW S S from (kcW_r S)) kpcW_S1
    have nxr_length_S1 : (f_xr_length S1).toInt = (f_xr_length S).toInt := congrArg Int32.toInt kpcL_S1
    have nxr_length_S1 : (f_xr_length S1).toInt = (f_xr_length S).toInt := congrArg Int32.toInt kpcP_S1.1
    have nxr_place_S1 : (f_xr_place S1).toInt = (f_xr_place S).toInt := congrArg Int32.toInt kpcP_S1.2.1
    have nxe_underWay_S1 : (f_xe_underWay S1).toInt = (f_xe_underWay S).toInt := congrArg Int32.toInt kpcU_S1
    have nxp_columns_S1 : (f_xp_columns S1).toInt = (f_xp_columns S).toInt := congrArg Int32.toInt kpcW_S1.1
    have nxp_rows_S1 : (f_xp_rows S1).toInt = (f_xp_rows S).toInt := congrArg Int32.toInt kpcW_S1.2
    refine lv_aload_n hx hb d_Truths_setLive_39 rfl (lv_at hl 2 rfl) ?_
    refine va_get (D := D) (ci := 9) (v := .ref (ad 1)) (C := "PageScribe$Truths") (T := F_Truths) (N := 1) hx hb hts i_Truths hown hK hP 74 (ce_74 _ _ _) cl_9 0 (by decide) (hts _ k_2_18) (fun _ h9 => h9) rfl d_Truths_setLive_40 ?_
    refine j_joinH (α := Int32) (fun x H locs ls => (True) ∧ va_P D classes (cW T ad S1) H ∧ va_D A (cW T ad S1) ∧ va_S A s.heap H locs ∧ lv_has ls 4 [(3, .int rv2), (2, .int x1), (0, .ref (ad 74)), (1, .int p0)]) (fun x ls => F0 m 55 ls (.int x :: [.ref (ad 1)])) (fun x H locs ls hI9 => ?_) (fun key1 => ?_)
    · obtain ⟨j1, rfl⟩ : ∃ z, z = x := ⟨_, rfl⟩
      obtain ⟨hj1, hP, hD, hS, hl⟩ := hI9
      have hP : va_P D classes (cW T ad S1) H := hP
      have hD : va_D A (cW T ad S1) := hD
      have hl : lv_has ls 4 [(3, .int rv2), (2, .int x1), (0, .ref (ad 74)), (1, .int p0)] := hl
      refine lv_iload_n hx hb d_Truths_setLive_55 rfl (lv_at hl 0 rfl) ?_
      refine lv_dconst0 hx hb d_Truths_setLive_56 ?_
      have := tD_0
      refine jc_ci (w := (fun u => u)) hK hP hD hS hA (va_runU (As := [.int j1, .int rv2, .double 0]) (rest := []) F (c_Row_push l D T ad S1 j1 rv2 0  H.size ⟨i_vst, i_vc0, i_vc1, i_vc2, i_vc3, i_vv0, i_vv1, i_vv2, i_vv3, i_vg, i_wct, i_wln, i_sd0, i_sd1, i_sd2, i_sd3, i_rln, i_rtx, i_rpl, i_rtk, i_cnv, i_pts, i_cik, i_und⟩ (show dB 0 by omega)) (j_cU (k := 3) (C := "PageScribe$Stack") (owner := "PageScribe$Row") (x := ⟨"PageScribe$Stack", "push", "(IID)I"⟩) hts k_2_104 k_4_203 k_2_100 k_2_102 k_2_103 k_1_2 rfl (by decide +kernel) ⟨Nat.le_of_ble_eq_true rfl, Nat.le_of_ble_eq_true rfl⟩) (j_preV (q0 := 1) (ci := 0) hK hP hD csc csc_all csc_nd cl_0 (ce_1 _ _ _) (fun _ _ _ _ h => h) (fun _ _ _ => trivial)) rfl rfl hl.1 rfl (lv_room (Nat.le_of_ble_eq_true rfl)) d_Truths_setLive_57 ⟨Nat.le_of_ble_eq_true rfl, Nat.le_of_ble_eq_true rfl⟩) (fun rv4 S2 H locs hw4 hP hD hS => ?_)
      have hP : va_P D classes (cW T ad S2) H := hP
      have hD : va_D A (cW T ad S2) := hD
      obtain ⟨⟨i_vst, i_vc0, i_vc1, i_vc2, i_vc3, i_vv0, i_vv1, i_vv2, i_vv3, i_vg, i_wct, i_wln, i_sd0, i_sd1, i_sd2, i_sd3, i_rln, i_rtx, i_rpl, i_rtk, i_cnv, i_pts, i_cik, i_und⟩, kpcL_S2, kpcP_S2, kpcU_S2, kpcW_S2⟩ := hw4
      have kScL_S2 : kcL S S2 := kcL_t (show kcL S S1 from kScL_S1) kpcL_S2
      have kScP_S2 : kcP S S2 := kcP_t (show kcP S S1 from kScP_S1) kpcP_S2
      have kScU_S2 : kcU S S2 := kcU_t (show kcU S S1 from kScU_S1) kpcU_S2
      have kScW_S2 : kcW S S2 := kcW_t (show kcW S S1 from kScW_S1) kpcW_S2
      have nxr_length_S2 : (f_xr_length S2).toInt = (f_xr_length S1).toInt := congrArg Int32.toInt kpcL_S2
      have nxr_length_S2 : (f_xr_length S2).toInt = (f_xr_length S1).toInt := congrArg Int32.toInt kpcP_S2.1
      have nxr_place_S2 : (f_xr_place S2).toInt = (f_xr_place S1).toInt := congrArg Int32.toInt kpcP_S2.2.1
      have nxe_underWay_S2 : (f_xe_underWay S2).toInt = (f_xe_underWay S1).toInt := congrArg Int32.toInt kpcU_S2
      have nxp_columns_S2 : (f_xp_columns S2).toInt = (f_xp_columns S1).toInt := congrArg Int32.toInt kpcW_S2.1
      have nxp_rows_S2 : (f_xp_rows S2).toInt = (f_xp_rows S1).toInt := congrArg Int32.toInt kpcW_S2.2
      have rrv4 := zt_rng rv4
      exact j_iret F hr hlocks hK hS S2 ⟨⟨i_vst, i_vc0, i_vc1, i_vc2, i_vc3, i_vv0, i_vv1, i_vv2, i_vv3, i_vg, i_wct, i_wln, i_sd0, i_sd1, i_sd2, i_sd3, i_rln, i_rtx, i_rpl, i_rtk, i_cnv, i_pts, i_cik, i_und⟩, kScL_S2, kScP_S2, kScU_S2, kScW_S2⟩ hP hD d_Truths_setLive_60
    · refine lv_iload_n hx hb d_Truths_setLive_43 rfl (lv_at hl 3 rfl) ?_
      refine lv_if_eq (tgt := 54) hx hb d_Truths_setLive_44 (by decide) (fun c44_1 => ?_) (fun c44_1 => ?_)
      · have fc44_1 : p0.toInt = 0 := zt_eq (show p0.toInt = _ from rfl) tI_0 c44_1
        refine lv_iload_n hx hb d_Truths_setLive_54 rfl (lv_at hl 1 rfl) ?_
        exact key1 (x1) _ _ _ ⟨trivial, hP, hD, hS, lv_sub hl [0, 1, 2, 3] rfl⟩
      · first | have fc44_1 : p0.toInt < 0 := (by have := zt_ne (show p0.toInt = _ from rfl) tI_0 c44_1; omega) | have fc44_1 : 0 < p0.toInt := (by have := zt_ne (show p0.toInt = _ from rfl) tI_0 c44_1; omega) | skip
        refine lv_iload_n hx hb d_Truths_setLive_47 rfl (lv_at hl 1 rfl) ?_
        refine lv_bipush (v := 8) hx hb d_Truths_setLive_48 (by decide) ?_
        refine lv_iadd hx hb d_Truths_setLive_50 ?_
        refine lv_topi (fun x2 ex2 => ?_)
        have rx2 := zt_rng x2
        refine lv_goto (tgt := 55) hx hb d_Truths_setLive_51 (by decide) ?_
        exact key1 (x2) _ _ _ ⟨trivial, hP, hD, hS, lv_sub hl [0, 1, 2, 3] rfl⟩
  · first | have fc23_1 : x1.toInt < 3 := (by have := zt_ne (show x1.toInt = _ from rfl) tI_3 c23_1; omega) | have fc23_1 : 3 < x1.toInt := (by have := zt_ne (show x1.toInt = _ from rfl) tI_3 c23_1; omega) | skip
    refine lv_iload_n hx hb d_Truths_setLive_26 rfl (lv_at hl 1 rfl) ?_
    refine lv_iconst (v := 5) hx hb d_Truths_setLive_27 (by decide) ?_
    refine lv_icmp_ne (tgt := 61) hx hb d_Truths_setLive_28 (by decide) (fun c28_1 => ?_) (fun c28_1 => ?_)
    · first | have fc28_1 : x1.toInt < 5 := (by have := zt_ne (show x1.toInt = _ from rfl) tI_5 c28_1; omega) | have fc28_1 : 5 < x1.toInt := (by have := zt_ne (show x1.toInt = _ from rfl) tI_5 c28_1; omega) | skip
      refine lv_iconst (v := 0) hx hb d_Truths_setLive_61 (by decide) ?_
      exact j_iret F hr hlocks hK hS S ⟨⟨i_vst, i_vc0, i_vc1, i_vc2, i_vc3, i_vv0, i_vv1, i_vv2, i_vv3, i_vg, i_wct, i_wln, i_sd0, i_sd1, i_sd2, i_sd3, i_rln, i_rtx, i_rpl, i_rtk, i_cnv, i_pts, i_cik, i_und⟩, (kcL_r S), (kcP_r S), (kcU_r S), (kcW_r S)⟩ hP hD d_Truths_setLive_62
    · have fc28_1 : x1.toInt = 5 := zt_eq (show x1.toInt = _ from rfl) tI_5 c28_1
      refine lv_aload_n hx hb d_Truths_setLive_31 rfl (lv_at hl 2 rfl) ?_
      refine va_get (D := D) (ci := 9) (v := .ref (ad 1)) (C := "PageScribe$Truths") (T := F_Truths) (N := 1) hx hb hts i_Truths hown hK hP 74 (ce_74 _ _ _) cl_9 0 (by decide) (hts _ k_2_18) (fun _ h9 => h9) rfl d_Truths_setLive_32 ?_
      refine lv_iconst (v := 1) hx hb d_Truths_setLive_35 (by decide) ?_
      refine jc_cv (w := (fun u => u)) hK hP hD hS hA (va_runU (As := [.int 1]) (rest := []) F (c_Row_drop l D T ad S (1 : Int32)  H.size ⟨i_vst, i_vc0, i_vc1, i_vc2, i_vc3, i_vv0, i_vv1, i_vv2, i_vv3, i_vg, i_wct, i_wln, i_sd0, i_sd1, i_sd2, i_sd3, i_rln, i_rtx, i_rpl, i_rtk, i_cnv, i_pts, i_cik, i_und⟩) (j_cU (k := 1) (C := "PageScribe$Stack") (owner := "PageScribe$Row") (x := ⟨"PageScribe$Stack", "drop", "(I)V"⟩) hts k_4_47 k_4_202 k_4_43 k_4_45 k_4_46 k_1_2 rfl (by decide +kernel) ⟨Nat.le_of_ble_eq_true rfl, Nat.le_of_ble_eq_true rfl⟩) (j_preV (q0 := 1) (ci := 0) hK hP hD csc csc_all csc_nd cl_0 (ce_1 _ _ _) (fun _ _ _ _ h => h) (fun _ _ _ => trivial)) rfl rfl hl.1 rfl (lv_room (Nat.le_of_ble_eq_true rfl)) d_Truths_setLive_36 ⟨Nat.le_of_ble_eq_true rfl, Nat.le_of_ble_eq_true rfl⟩) (fun S3 H locs hw5 hP hD hS => ?_)
      have hP : va_P D classes (cW T ad S3) H := hP
      have hD : va_D A (cW T ad S3) := hD
      obtain ⟨⟨i_vst, i_vc0, i_vc1, i_vc2, i_vc3, i_vv0, i_vv1, i_vv2, i_vv3, i_vg, i_wct, i_wln, i_sd0, i_sd1, i_sd2, i_sd3, i_rln, i_rtx, i_rpl, i_rtk, i_cnv, i_pts, i_cik, i_und⟩, kpcL_S3, kpcP_S3, kpcU_S3, kpcW_S3⟩ := hw5
      have kScL_S3 : kcL S S3 := kcL_t (show kcL S S from (kcL_r S)) kpcL_S3
      have kScP_S3 : kcP S S3 := kcP_t (show kcP S S from (kcP_r S)) kpcP_S3
      have kScU_S3 : kcU S S3 := kcU_t (show kcU S S from (kcU_r S)) kpcU_S3
      have kScW_S3 : kcW S S3 := kcW_t (show kcW S S from (kcW_r S)) kpcW_S3
      have nxr_length_S3 : (f_xr_length S3).toInt = (f_xr_length S).toInt := congrArg Int32.toInt kpcL_S3
      have nxr_length_S3 : (f_xr_length S3).toInt = (f_xr_length S).toInt := congrArg Int32.toInt kpcP_S3.1
      have nxr_place_S3 : (f_xr_place S3).toInt = (f_xr_place S).toInt := congrArg Int32.toInt kpcP_S3.2.1
      have nxe_underWay_S3 : (f_xe_underWay S3).toInt = (f_xe_underWay S).toInt := congrArg Int32.toInt kpcU_S3
      have nxp_columns_S3 : (f_xp_columns S3).toInt = (f_xp_columns S).toInt := congrArg Int32.toInt kpcW_S3.1
      have nxp_rows_S3 : (f_xp_rows S3).toInt = (f_xp_rows S).toInt := congrArg Int32.toInt kpcW_S3.2
      refine lv_aload_n hx hb d_Truths_setLive_39 rfl (lv_at hl 2 rfl) ?_
      refine va_get (D := D) (ci := 9) (v := .ref (ad 1)) (C := "PageScribe$Truths") (T := F_Truths) (N := 1) hx hb hts i_Truths hown hK hP 74 (ce_74 _ _ _) cl_9 0 (by decide) (hts _ k_2_18) (fun _ h9 => h9) rfl d_Truths_setLive_40 ?_
      refine j_joinH (α := Int32) (fun x H locs ls => (True) ∧ va_P D classes (cW T ad S3) H ∧ va_D A (cW T ad S3) ∧ va_S A s.heap H locs ∧ lv_has ls 4 [(3, .int rv2), (2, .int x1), (0, .ref (ad 74)), (1, .int p0)]) (fun x ls => F0 m 55 ls (.int x :: [.ref (ad 1)])) (fun x H locs ls hI9 => ?_) (fun key2 => ?_)
      · obtain ⟨j2, rfl⟩ : ∃ z, z = x := ⟨_, rfl⟩
        obtain ⟨hj2, hP, hD, hS, hl⟩ := hI9
        have hP : va_P D classes (cW T ad S3) H := hP
        have hD : va_D A (cW T ad S3) := hD
        have hl : lv_has ls 4 [(3, .int rv2), (2, .int x1), (0, .ref (ad 74)), (1, .int p0)] := hl
        refine lv_iload_n hx hb d_Truths_setLive_55 rfl (lv_at hl 0 rfl) ?_
        refine lv_dconst0 hx hb d_Truths_setLive_56 ?_
        have := tD_0
        refine jc_ci (w := (fun u => u)) hK hP hD hS hA (va_runU (As := [.int j2, .int rv2, .double 0]) (rest := []) F (c_Row_push l D T ad S3 j2 rv2 0  H.size ⟨i_vst, i_vc0, i_vc1, i_vc2, i_vc3, i_vv0, i_vv1, i_vv2, i_vv3, i_vg, i_wct, i_wln, i_sd0, i_sd1, i_sd2, i_sd3, i_rln, i_rtx, i_rpl, i_rtk, i_cnv, i_pts, i_cik, i_und⟩ (show dB 0 by omega)) (j_cU (k := 3) (C := "PageScribe$Stack") (owner := "PageScribe$Row") (x := ⟨"PageScribe$Stack", "push", "(IID)I"⟩) hts k_2_104 k_4_203 k_2_100 k_2_102 k_2_103 k_1_2 rfl (by decide +kernel) ⟨Nat.le_of_ble_eq_true rfl, Nat.le_of_ble_eq_true rfl⟩) (j_preV (q0 := 1) (ci := 0) hK hP hD csc csc_all csc_nd cl_0 (ce_1 _ _ _) (fun _ _ _ _ h => h) (fun _ _ _ => trivial)) rfl rfl hl.1 rfl (lv_room (Nat.le_of_ble_eq_true rfl)) d_Truths_setLive_57 ⟨Nat.le_of_ble_eq_true rfl, Nat.le_of_ble_eq_true rfl⟩) (fun rv6 S4 H locs hw6 hP hD hS => ?_)
        have hP : va_P D classes (cW T ad S4) H := hP
        have hD : va_D A (cW T ad S4) := hD
        obtain ⟨⟨i_vst, i_vc0, i_vc1, i_vc2, i_vc3, i_vv0, i_vv1, i_vv2, i_vv3, i_vg, i_wct, i_wln, i_sd0, i_sd1, i_sd2, i_sd3, i_rln, i_rtx, i_rpl, i_rtk, i_cnv, i_pts, i_cik, i_und⟩, kpcL_S4, kpcP_S4, kpcU_S4, kpcW_S4⟩ := hw6
        have kScL_S4 : kcL S S4 := kcL_t (show kcL S S3 from kScL_S3) kpcL_S4
        have kScP_S4 : kcP S S4 := kcP_t (show kcP S S3 from kScP_S3) kpcP_S4
        have kScU_S4 : kcU S S4 := kcU_t (show kcU S S3 from kScU_S3) kpcU_S4
        have kScW_S4 : kcW S S4 := kcW_t (show kcW S S3 from kScW_S3) kpcW_S4
        have nxr_length_S4 : (f_xr_length S4).toInt = (f_xr_length S3).toInt := congrArg Int32.toInt kpcL_S4
        have nxr_length_S4 : (f_xr_length S4).toInt = (f_xr_length S3).toInt := congrArg Int32.toInt kpcP_S4.1
        have nxr_place_S4 : (f_xr_place S4).toInt = (f_xr_place S3).toInt := congrArg Int32.toInt kpcP_S4.2.1
        have nxe_underWay_S4 : (f_xe_underWay S4).toInt = (f_xe_underWay S3).toInt := congrArg Int32.toInt kpcU_S4
        have nxp_columns_S4 : (f_xp_columns S4).toInt = (f_xp_columns S3).toInt := congrArg Int32.toInt kpcW_S4.1
        have nxp_rows_S4 : (f_xp_rows S4).toInt = (f_xp_rows S3).toInt := congrArg Int32.toInt kpcW_S4.2
        have rrv6 := zt_rng rv6
        exact j_iret F hr hlocks hK hS S4 ⟨⟨i_vst, i_vc0, i_vc1, i_vc2, i_vc3, i_vv0, i_vv1, i_vv2, i_vv3, i_vg, i_wct, i_wln, i_sd0, i_sd1, i_sd2, i_sd3, i_rln, i_rtx, i_rpl, i_rtk, i_cnv, i_pts, i_cik, i_und⟩, kScL_S4, kScP_S4, kScU_S4, kScW_S4⟩ hP hD d_Truths_setLive_60
      · refine lv_iload_n hx hb d_Truths_setLive_43 rfl (lv_at hl 3 rfl) ?_
        refine lv_if_eq (tgt := 54) hx hb d_Truths_setLive_44 (by decide) (fun c44_2 => ?_) (fun c44_2 => ?_)
        · have fc44_2 : p0.toInt = 0 := zt_eq (show p0.toInt = _ from rfl) tI_0 c44_2
          refine lv_iload_n hx hb d_Truths_setLive_54 rfl (lv_at hl 1 rfl) ?_
          exact key2 (x1) _ _ _ ⟨trivial, hP, hD, hS, lv_sub hl [0, 1, 2, 3] rfl⟩
        · first | have fc44_2 : p0.toInt < 0 := (by have := zt_ne (show p0.toInt = _ from rfl) tI_0 c44_2; omega) | have fc44_2 : 0 < p0.toInt := (by have := zt_ne (show p0.toInt = _ from rfl) tI_0 c44_2; omega) | skip
          refine lv_iload_n hx hb d_Truths_setLive_47 rfl (lv_at hl 1 rfl) ?_
          refine lv_bipush (v := 8) hx hb d_Truths_setLive_48 (by decide) ?_
          refine lv_iadd hx hb d_Truths_setLive_50 ?_
          refine lv_topi (fun x3 ex3 => ?_)
          have rx3 := zt_rng x3
          refine lv_goto (tgt := 55) hx hb d_Truths_setLive_51 (by decide) ?_
          exact key2 (x3) _ _ _ ⟨trivial, hP, hD, hS, lv_sub hl [0, 1, 2, 3] rfl⟩
theorem d_Truths_act_0 : decode prog_12_method_2_code 0 = .ok (.getstatic 15, 3) := by decide +kernel
theorem d_Truths_act_3 : decode prog_12_method_2_code 3 = .ok (.aload_n 1, 1) := by decide +kernel
theorem d_Truths_act_4 : decode prog_12_method_2_code 4 = .ok (.invokevirtual 21, 3) := by decide +kernel
theorem d_Truths_act_7 : decode prog_12_method_2_code 7 = .ok (.iaload, 1) := by decide +kernel
theorem d_Truths_act_8 : decode prog_12_method_2_code 8 = .ok (.tableswitch 199 19 29 #[60, 60, 80, 80, 113, 113, 130, 135, 135, 152, 179], 60) := by decide +kernel
theorem d_Truths_act_68 : decode prog_12_method_2_code 68 = .ok (.aload_n 0, 1) := by decide +kernel
theorem d_Truths_act_69 : decode prog_12_method_2_code 69 = .ok (.getfield 9, 3) := by decide +kernel
theorem d_Truths_act_72 : decode prog_12_method_2_code 72 = .ok (.aload_n 1, 1) := by decide +kernel
theorem d_Truths_act_73 : decode prog_12_method_2_code 73 = .ok (.getstatic 27, 3) := by decide +kernel
theorem k_4_174 : Cond.fieldLink "PageScribe$Truths" 27 "PageScribe$Op" "TRUE" "LPageScribe$Op;" ∈ gw := gw_of (tb_4 (List.mem_of_getElem? (i := 174) (by decide +kernel))) (by decide +kernel)
theorem d_Truths_act_76 : decode prog_12_method_2_code 76 = .ok (.if_acmp .ne 7, 3) := by decide +kernel
theorem d_Truths_act_83 : decode prog_12_method_2_code 83 = .ok (.iconst 0, 1) := by decide +kernel
theorem d_Truths_act_84 : decode prog_12_method_2_code 84 = .ok (.invokevirtual 31, 3) := by decide +kernel
theorem k_4_179 : Cond.code ⟨"PageScribe$Stack", "pushFlag", "(Z)I"⟩ prog_9_method_8_code 2 (some .int) ∈ gw := gw_of (tb_4 (List.mem_of_getElem? (i := 179) (by decide +kernel))) (by decide +kernel)
theorem k_4_176 : Cond.methodLink "PageScribe$Truths" 31 ⟨"PageScribe$Stack", "pushFlag", "(Z)I"⟩ ∈ gw := gw_of (tb_4 (List.mem_of_getElem? (i := 176) (by decide +kernel))) (by decide +kernel)
theorem k_4_177 : Cond.instanceMethod ⟨"PageScribe$Stack", "pushFlag", "(Z)I"⟩ ∈ gw := gw_of (tb_4 (List.mem_of_getElem? (i := 177) (by decide +kernel))) (by decide +kernel)
theorem k_4_178 : Cond.selects "PageScribe$Stack" ⟨"PageScribe$Stack", "pushFlag", "(Z)I"⟩ ⟨"PageScribe$Stack", "pushFlag", "(Z)I"⟩ ∈ gw := gw_of (tb_4 (List.mem_of_getElem? (i := 178) (by decide +kernel))) (by decide +kernel)
theorem d_Truths_act_87 : decode prog_12_method_2_code 87 = .ok (.ireturn, 1) := by decide +kernel
theorem d_Truths_act_79 : decode prog_12_method_2_code 79 = .ok (.iconst 1, 1) := by decide +kernel
theorem d_Truths_act_80 : decode prog_12_method_2_code 80 = .ok (.goto 4, 3) := by decide +kernel
theorem d_Truths_act_88 : decode prog_12_method_2_code 88 = .ok (.aload_n 0, 1) := by decide +kernel
theorem d_Truths_act_89 : decode prog_12_method_2_code 89 = .ok (.getfield 9, 3) := by decide +kernel
theorem d_Truths_act_92 : decode prog_12_method_2_code 92 = .ok (.iconst 2, 1) := by decide +kernel
theorem d_Truths_act_93 : decode prog_12_method_2_code 93 = .ok (.aload_n 0, 1) := by decide +kernel
theorem d_Truths_act_94 : decode prog_12_method_2_code 94 = .ok (.invokevirtual 37, 3) := by decide +kernel
theorem k_4_183 : Cond.code ⟨"PageScribe$Truths", "alike", "()Z"⟩ prog_12_method_3_code 5 (some .boolean) ∈ gw := gw_of (tb_4 (List.mem_of_getElem? (i := 183) (by decide +kernel))) (by decide +kernel)
theorem k_1_11 : Cond.initialized "PageScribe$Truths" ∈ gw := gw_of (tb_1 (List.mem_of_getElem? (i := 11) (by decide +kernel))) (by decide +kernel)
theorem k_4_180 : Cond.methodLink "PageScribe$Truths" 37 ⟨"PageScribe$Truths", "alike", "()Z"⟩ ∈ gw := gw_of (tb_4 (List.mem_of_getElem? (i := 180) (by decide +kernel))) (by decide +kernel)
theorem k_4_182 : Cond.instanceMethod ⟨"PageScribe$Truths", "alike", "()Z"⟩ ∈ gw := gw_of (tb_4 (List.mem_of_getElem? (i := 182) (by decide +kernel))) (by decide +kernel)
theorem k_0_33 : Cond.selects "PageScribe$Truths" ⟨"PageScribe$Truths", "alike", "()Z"⟩ ⟨"PageScribe$Truths", "alike", "()Z"⟩ ∈ gw := gw_of (tb_0 (List.mem_of_getElem? (i := 33) (by decide +kernel))) (by decide +kernel)
theorem d_Truths_act_97 : decode prog_12_method_2_code 97 = .ok (.aload_n 1, 1) := by decide +kernel
theorem d_Truths_act_98 : decode prog_12_method_2_code 98 = .ok (.getstatic 41, 3) := by decide +kernel
theorem k_4_190 : Cond.fieldLink "PageScribe$Truths" 41 "PageScribe$Op" "EQ" "LPageScribe$Op;" ∈ gw := gw_of (tb_4 (List.mem_of_getElem? (i := 190) (by decide +kernel))) (by decide +kernel)
theorem d_Truths_act_101 : decode prog_12_method_2_code 101 = .ok (.if_acmp .ne 7, 3) := by decide +kernel
theorem d_Truths_act_108 : decode prog_12_method_2_code 108 = .ok (.iconst 0, 1) := by decide +kernel
theorem d_Truths_act_109 : decode prog_12_method_2_code 109 = .ok (.if_icmp .ne 7, 3) := by decide +kernel
theorem d_Truths_act_116 : decode prog_12_method_2_code 116 = .ok (.iconst 0, 1) := by decide +kernel
theorem d_Truths_act_117 : decode prog_12_method_2_code 117 = .ok (.invokevirtual 44, 3) := by decide +kernel
theorem d_Truths_act_120 : decode prog_12_method_2_code 120 = .ok (.ireturn, 1) := by decide +kernel
theorem d_Truths_act_112 : decode prog_12_method_2_code 112 = .ok (.iconst 1, 1) := by decide +kernel
theorem d_Truths_act_113 : decode prog_12_method_2_code 113 = .ok (.goto 4, 3) := by decide +kernel
theorem d_Truths_act_104 : decode prog_12_method_2_code 104 = .ok (.iconst 1, 1) := by decide +kernel
theorem d_Truths_act_105 : decode prog_12_method_2_code 105 = .ok (.goto 4, 3) := by decide +kernel
theorem d_Truths_act_121 : decode prog_12_method_2_code 121 = .ok (.aload_n 0, 1) := by decide +kernel
theorem d_Truths_act_122 : decode prog_12_method_2_code 122 = .ok (.aload_n 1, 1) := by decide +kernel
theorem d_Truths_act_123 : decode prog_12_method_2_code 123 = .ok (.getstatic 48, 3) := by decide +kernel
theorem k_4_196 : Cond.fieldLink "PageScribe$Truths" 48 "PageScribe$Op" "AND" "LPageScribe$Op;" ∈ gw := gw_of (tb_4 (List.mem_of_getElem? (i := 196) (by decide +kernel))) (by decide +kernel)
theorem d_Truths_act_126 : decode prog_12_method_2_code 126 = .ok (.if_acmp .ne 7, 3) := by decide +kernel
theorem d_Truths_act_133 : decode prog_12_method_2_code 133 = .ok (.iconst 0, 1) := by decide +kernel
theorem d_Truths_act_134 : decode prog_12_method_2_code 134 = .ok (.invokevirtual 51, 3) := by decide +kernel
theorem k_4_201 : Cond.code ⟨"PageScribe$Truths", "join", "(Z)I"⟩ prog_12_method_5_code 5 (some .int) ∈ gw := gw_of (tb_4 (List.mem_of_getElem? (i := 201) (by decide +kernel))) (by decide +kernel)
theorem k_4_198 : Cond.methodLink "PageScribe$Truths" 51 ⟨"PageScribe$Truths", "join", "(Z)I"⟩ ∈ gw := gw_of (tb_4 (List.mem_of_getElem? (i := 198) (by decide +kernel))) (by decide +kernel)
theorem k_4_200 : Cond.instanceMethod ⟨"PageScribe$Truths", "join", "(Z)I"⟩ ∈ gw := gw_of (tb_4 (List.mem_of_getElem? (i := 200) (by decide +kernel))) (by decide +kernel)
theorem k_0_34 : Cond.selects "PageScribe$Truths" ⟨"PageScribe$Truths", "join", "(Z)I"⟩ ⟨"PageScribe$Truths", "join", "(Z)I"⟩ ∈ gw := gw_of (tb_0 (List.mem_of_getElem? (i := 34) (by decide +kernel))) (by decide +kernel)
theorem d_Truths_act_137 : decode prog_12_method_2_code 137 = .ok (.ireturn, 1) := by decide +kernel
theorem d_Truths_act_129 : decode prog_12_method_2_code 129 = .ok (.iconst 1, 1) := by decide +kernel
theorem d_Truths_act_130 : decode prog_12_method_2_code 130 = .ok (.goto 4, 3) := by decide +kernel
theorem d_Truths_act_138 : decode prog_12_method_2_code 138 = .ok (.aload_n 0, 1) := by decide +kernel
theorem d_Truths_act_139 : decode prog_12_method_2_code 139 = .ok (.invokevirtual 54, 3) := by decide +kernel
theorem k_4_207 : Cond.code ⟨"PageScribe$Truths", "turnRound", "()I"⟩ prog_12_method_6_code 2 (some .int) ∈ gw := gw_of (tb_4 (List.mem_of_getElem? (i := 207) (by decide +kernel))) (by decide +kernel)
theorem k_4_204 : Cond.methodLink "PageScribe$Truths" 54 ⟨"PageScribe$Truths", "turnRound", "()I"⟩ ∈ gw := gw_of (tb_4 (List.mem_of_getElem? (i := 204) (by decide +kernel))) (by decide +kernel)
theorem k_4_206 : Cond.instanceMethod ⟨"PageScribe$Truths", "turnRound", "()I"⟩ ∈ gw := gw_of (tb_4 (List.mem_of_getElem? (i := 206) (by decide +kernel))) (by decide +kernel)
theorem k_0_35 : Cond.selects "PageScribe$Truths" ⟨"PageScribe$Truths", "turnRound", "()I"⟩ ⟨"PageScribe$Truths", "turnRound", "()I"⟩ ∈ gw := gw_of (tb_0 (List.mem_of_getElem? (i := 35) (by decide +kernel))) (by decide +kernel)
theorem d_Truths_act_142 : decode prog_12_method_2_code 142 = .ok (.ireturn, 1) := by decide +kernel
theorem d_Truths_act_143 : decode prog_12_method_2_code 143 = .ok (.aload_n 0, 1) := by decide +kernel
theorem d_Truths_act_144 : decode prog_12_method_2_code 144 = .ok (.aload_n 1, 1) := by decide +kernel
theorem d_Truths_act_145 : decode prog_12_method_2_code 145 = .ok (.getstatic 57, 3) := by decide +kernel
theorem k_4_209 : Cond.fieldLink "PageScribe$Truths" 57 "PageScribe$Op" "CVX" "LPageScribe$Op;" ∈ gw := gw_of (tb_4 (List.mem_of_getElem? (i := 209) (by decide +kernel))) (by decide +kernel)
theorem d_Truths_act_148 : decode prog_12_method_2_code 148 = .ok (.if_acmp .ne 7, 3) := by decide +kernel
theorem d_Truths_act_155 : decode prog_12_method_2_code 155 = .ok (.iconst 0, 1) := by decide +kernel
theorem d_Truths_act_156 : decode prog_12_method_2_code 156 = .ok (.invokevirtual 60, 3) := by decide +kernel
theorem k_4_214 : Cond.code ⟨"PageScribe$Truths", "setLive", "(Z)I"⟩ prog_12_method_7_code 4 (some .int) ∈ gw := gw_of (tb_4 (List.mem_of_getElem? (i := 214) (by decide +kernel))) (by decide +kernel)
theorem k_4_211 : Cond.methodLink "PageScribe$Truths" 60 ⟨"PageScribe$Truths", "setLive", "(Z)I"⟩ ∈ gw := gw_of (tb_4 (List.mem_of_getElem? (i := 211) (by decide +kernel))) (by decide +kernel)
theorem k_4_213 : Cond.instanceMethod ⟨"PageScribe$Truths", "setLive", "(Z)I"⟩ ∈ gw := gw_of (tb_4 (List.mem_of_getElem? (i := 213) (by decide +kernel))) (by decide +kernel)
theorem k_0_36 : Cond.selects "PageScribe$Truths" ⟨"PageScribe$Truths", "setLive", "(Z)I"⟩ ⟨"PageScribe$Truths", "setLive", "(Z)I"⟩ ∈ gw := gw_of (tb_0 (List.mem_of_getElem? (i := 36) (by decide +kernel))) (by decide +kernel)
theorem d_Truths_act_159 : decode prog_12_method_2_code 159 = .ok (.ireturn, 1) := by decide +kernel
theorem d_Truths_act_151 : decode prog_12_method_2_code 151 = .ok (.iconst 1, 1) := by decide +kernel
theorem d_Truths_act_152 : decode prog_12_method_2_code 152 = .ok (.goto 4, 3) := by decide +kernel
theorem d_Truths_act_160 : decode prog_12_method_2_code 160 = .ok (.aload_n 0, 1) := by decide +kernel
theorem d_Truths_act_161 : decode prog_12_method_2_code 161 = .ok (.getfield 9, 3) := by decide +kernel
theorem d_Truths_act_164 : decode prog_12_method_2_code 164 = .ok (.iconst 1, 1) := by decide +kernel
theorem d_Truths_act_165 : decode prog_12_method_2_code 165 = .ok (.aload_n 0, 1) := by decide +kernel
theorem d_Truths_act_166 : decode prog_12_method_2_code 166 = .ok (.getfield 9, 3) := by decide +kernel
theorem d_Truths_act_169 : decode prog_12_method_2_code 169 = .ok (.iconst 0, 1) := by decide +kernel
theorem d_Truths_act_170 : decode prog_12_method_2_code 170 = .ok (.invokevirtual 63, 3) := by decide +kernel
theorem d_Truths_act_173 : decode prog_12_method_2_code 173 = .ok (.bipush 8, 2) := by decide +kernel
theorem d_Truths_act_175 : decode prog_12_method_2_code 175 = .ok (.if_icmp .lt 7, 3) := by decide +kernel
theorem d_Truths_act_182 : decode prog_12_method_2_code 182 = .ok (.iconst 0, 1) := by decide +kernel
theorem d_Truths_act_183 : decode prog_12_method_2_code 183 = .ok (.invokevirtual 44, 3) := by decide +kernel
theorem d_Truths_act_186 : decode prog_12_method_2_code 186 = .ok (.ireturn, 1) := by decide +kernel
theorem d_Truths_act_178 : decode prog_12_method_2_code 178 = .ok (.iconst 1, 1) := by decide +kernel
theorem d_Truths_act_179 : decode prog_12_method_2_code 179 = .ok (.goto 4, 3) := by decide +kernel
theorem d_Truths_act_187 : decode prog_12_method_2_code 187 = .ok (.aload_n 0, 1) := by decide +kernel
theorem d_Truths_act_188 : decode prog_12_method_2_code 188 = .ok (.getfield 9, 3) := by decide +kernel
theorem d_Truths_act_191 : decode prog_12_method_2_code 191 = .ok (.iconst 1, 1) := by decide +kernel
theorem d_Truths_act_192 : decode prog_12_method_2_code 192 = .ok (.aload_n 0, 1) := by decide +kernel
theorem d_Truths_act_193 : decode prog_12_method_2_code 193 = .ok (.getfield 9, 3) := by decide +kernel
theorem d_Truths_act_196 : decode prog_12_method_2_code 196 = .ok (.iconst 0, 1) := by decide +kernel
theorem d_Truths_act_197 : decode prog_12_method_2_code 197 = .ok (.invokevirtual 63, 3) := by decide +kernel
theorem d_Truths_act_200 : decode prog_12_method_2_code 200 = .ok (.bipush 7, 2) := by decide +kernel
theorem d_Truths_act_202 : decode prog_12_method_2_code 202 = .ok (.iand, 1) := by decide +kernel
theorem d_Truths_act_203 : decode prog_12_method_2_code 203 = .ok (.invokevirtual 67, 3) := by decide +kernel
theorem d_Truths_act_206 : decode prog_12_method_2_code 206 = .ok (.ireturn, 1) := by decide +kernel
theorem d_Truths_act_207 : decode prog_12_method_2_code 207 = .ok (.aload_n 0, 1) := by decide +kernel
theorem d_Truths_act_208 : decode prog_12_method_2_code 208 = .ok (.getfield 9, 3) := by decide +kernel
theorem d_Truths_act_211 : decode prog_12_method_2_code 211 = .ok (.iconst 2, 1) := by decide +kernel
theorem d_Truths_act_212 : decode prog_12_method_2_code 212 = .ok (.aload_n 0, 1) := by decide +kernel
theorem d_Truths_act_213 : decode prog_12_method_2_code 213 = .ok (.aload_n 1, 1) := by decide +kernel
theorem d_Truths_act_214 : decode prog_12_method_2_code 214 = .ok (.aload_n 0, 1) := by decide +kernel
theorem d_Truths_act_215 : decode prog_12_method_2_code 215 = .ok (.getfield 9, 3) := by decide +kernel
theorem d_Truths_act_218 : decode prog_12_method_2_code 218 = .ok (.iconst 1, 1) := by decide +kernel
theorem d_Truths_act_219 : decode prog_12_method_2_code 219 = .ok (.invokevirtual 71, 3) := by decide +kernel
theorem d_Truths_act_222 : decode prog_12_method_2_code 222 = .ok (.aload_n 0, 1) := by decide +kernel
theorem d_Truths_act_223 : decode prog_12_method_2_code 223 = .ok (.getfield 9, 3) := by decide +kernel
theorem d_Truths_act_226 : decode prog_12_method_2_code 226 = .ok (.iconst 0, 1) := by decide +kernel
theorem d_Truths_act_227 : decode prog_12_method_2_code 227 = .ok (.invokevirtual 71, 3) := by decide +kernel
theorem d_Truths_act_230 : decode prog_12_method_2_code 230 = .ok (.invokevirtual 75, 3) := by decide +kernel
theorem k_4_218 : Cond.code ⟨"PageScribe$Truths", "compare", "(LPageScribe$Op;DD)Z"⟩ prog_12_method_4_code 6 (some .boolean) ∈ gw := gw_of (tb_4 (List.mem_of_getElem? (i := 218) (by decide +kernel))) (by decide +kernel)
theorem k_4_215 : Cond.methodLink "PageScribe$Truths" 75 ⟨"PageScribe$Truths", "compare", "(LPageScribe$Op;DD)Z"⟩ ∈ gw := gw_of (tb_4 (List.mem_of_getElem? (i := 215) (by decide +kernel))) (by decide +kernel)
theorem k_4_217 : Cond.instanceMethod ⟨"PageScribe$Truths", "compare", "(LPageScribe$Op;DD)Z"⟩ ∈ gw := gw_of (tb_4 (List.mem_of_getElem? (i := 217) (by decide +kernel))) (by decide +kernel)
theorem k_0_37 : Cond.selects "PageScribe$Truths" ⟨"PageScribe$Truths", "compare", "(LPageScribe$Op;DD)Z"⟩ ⟨"PageScribe$Truths", "compare", "(LPageScribe$Op;DD)Z"⟩ ∈ gw := gw_of (tb_0 (List.mem_of_getElem? (i := 37) (by decide +kernel))) (by decide +kernel)
theorem d_Truths_act_233 : decode prog_12_method_2_code 233 = .ok (.invokevirtual 44, 3) := by decide +kernel
theorem d_Truths_act_236 : decode prog_12_method_2_code 236 = .ok (.ireturn, 1) := by decide +kernel
set_option maxHeartbeats 4000000 in
set_option maxRecDepth 100000 in
theorem c_Truths_act (l : Launch) (D : va_G) (T : Nat → ClassId) (ad : Nat → Nat) (g : GE) (Bq : Nat → Prop) (S : CS) (op : Nat) (sz : Nat) (hi_op : op < 72) (hI : CIv S) : Met l ⟨"PageScribe$Truths", "act", "(LPageScribe$Op;)I"⟩ (wy ⟨"PageScribe$Truths", "act", "(LPageScribe$Op;)I"⟩ prog_12_method_2_code 2 (some .int)) ({ frames := 4, cells := 0, slots := 0, locals := 280 }) (va_Pc [.ref (ad 74), .ref (g_en g op)] (Pw D T (cW T ad S) sz (EC g Bq ad))) (va_Qi (fun (r : Int32) (u : CS) => CIv u ∧ kcL S u ∧ kcP S u ∧ kcU S u ∧ kcW S u) (fun u t => Bw D T (va_A (cW T ad S) sz) (cW T ad u) t) (va_A (cW T ad S) sz)) 0 0 (va_A (cW T ad S) sz) := by
  refine j_met (y := ⟨"PageScribe$Truths", "act", "(LPageScribe$Op;)I"⟩) (b := prog_12_method_2_code) (n := 2) (ret := (some .int)) (av := [.ref (ad 74), .ref (g_en g op)]) (Qc := fun A => va_Qi (fun (r : Int32) (u : CS) => CIv u ∧ kcL S u ∧ kcP S u ∧ kcU S u ∧ kcW S u) (fun u t => Bw D T A (cW T ad u) t) A) (by decide +kernel) (Nat.le_of_ble_eq_true rfl) (fun p e s m args below meth c A ls F hr hlocks hnm hK hP hD hS hA hN hE hl => ?_)
  obtain ⟨hx, hb, hml, hown, hts⟩ := id F
  have hl : lv_has ls 2 [(0, .ref (ad 74)), (1, .ref (g_en g op))] := hl
  obtain ⟨i_vst, i_vc0, i_vc1, i_vc2, i_vc3, i_vv0, i_vv1, i_vv2, i_vv3, i_vg, i_wct, i_wln, i_sd0, i_sd1, i_sd2, i_sd3, i_rln, i_rtx, i_rpl, i_rtk, i_cnv, i_pts, i_cik, i_und⟩ := id hI
  have hAB : ∀ q, A q → Bq q := EC.ab hE hN
  have hEV := hE.1.narrow hAB
  refine va_gets hx hb hEV.2.2.1.1 hS hown (hts _ k_4_172) (fun _ h9 => h9) d_Truths_act_0 ?_
  refine lv_aload_n hx hb d_Truths_act_3 rfl (lv_at hl 1 rfl) ?_
  refine jc_ci (w := (fun _ => S)) hK hP hD hS hA (va_runU (As := []) (rest := [.ref (g_tS g)]) F (c_Enum_ordinal l D T ad g Bq S op  s.heap.size hi_op) (j_cU (k := 0) (C := "PageScribe$Op") (owner := "java/lang/Enum") (x := ⟨"PageScribe$Op", "ordinal", "()I"⟩) hts k_4_41 k_4_173 k_4_37 k_4_39 k_4_40 k_1_24 rfl (by decide +kernel) ⟨Nat.le_of_ble_eq_true rfl, Nat.le_of_ble_eq_true rfl⟩) (jc_preO (j_preS hK hP hD csc csc_all csc_nd (fun _ _ _ _ h => EC.calling h) (fun U hU hW => EC.at hS hAB hU hW hE)) (hEV.1 _ hi_op).1.1 hS) rfl rfl hl.1 rfl (lv_room (Nat.le_of_ble_eq_true rfl)) d_Truths_act_4 ⟨Nat.le_of_ble_eq_true rfl, Nat.le_of_ble_eq_true rfl⟩) (fun rv1 u1 H locs hw1 hP hD hS => ?_)
  have hP : va_P D classes (cW T ad S) H := hP
  have hD : va_D A (cW T ad S) := hD
  have qhw1 : rv1.toInt = (op : Int) := hw1
  have rrv1 := zt_rng rv1
  refine va_ti hx hb hEV.2.2.1.2 hS (zt_in (show rv1.toInt = _ from rfl) (by omega) (by omega)) rfl d_Truths_act_7 ?_
  refine lv_topi (fun x1 ex1 => ?_)
  have rx1 := zt_rng x1
  by_cases h_19_1 : x1.toInt = 19
  · refine lv_tableIn (off := 60) (tgt := 68) hx hb d_Truths_act_8 (by omega) (by omega) (by rw [show x1.toInt = 19 from h_19_1]; decide +kernel) (by decide) ?_
    refine lv_aload_n hx hb d_Truths_act_68 rfl (lv_at hl 0 rfl) ?_
    refine va_get (D := D) (ci := 9) (v := .ref (ad 1)) (C := "PageScribe$Truths") (T := F_Truths) (N := 1) hx hb hts i_Truths hown hK hP 74 (ce_74 _ _ _) cl_9 0 (by decide) (hts _ k_2_18) (fun _ h9 => h9) rfl d_Truths_act_69 ?_
    refine lv_aload_n hx hb d_Truths_act_72 rfl (lv_at hl 1 rfl) ?_
    refine va_gets hx hb (v := .ref (g_en g 24)) (hEV.1 24 (by decide)).1.2 hS hown (hts _ k_4_174) (fun _ h9 => h9) d_Truths_act_73 ?_
    refine lv_acmp_ne (rx := some (g_en g op)) (ry := some (g_en g 24)) (tgt := 83) hx hb d_Truths_act_76 (by decide) (fun c76_1 => ?_) (fun c76_1 => ?_)
    · refine lv_iconst (v := 0) hx hb d_Truths_act_83 (by decide) ?_
      refine jc_ci (w := (fun u => u)) hK hP hD hS hA (va_runV (As := [.int 0]) (rest := []) F (c_Stack_pushFlag l D T ad S (0 : Int32)  H.size ⟨i_vst, i_vc0, i_vc1, i_vc2, i_vc3, i_vv0, i_vv1, i_vv2, i_vv3, i_vg, i_wct, i_wln, i_sd0, i_sd1, i_sd2, i_sd3, i_rln, i_rtx, i_rpl, i_rtk, i_cnv, i_pts, i_cik, i_und⟩) (j_cV (k := 1) (C := "PageScribe$Stack") hts k_4_179 k_1_3 k_4_176 k_4_177 k_4_178 (by decide +kernel) ⟨Nat.le_of_ble_eq_true rfl, Nat.le_of_ble_eq_true rfl⟩) (j_preV (q0 := 1) (ci := 0) hK hP hD csc csc_all csc_nd cl_0 (ce_1 _ _ _) (fun _ _ _ _ h => h) (fun _ _ _ => trivial)) rfl rfl hl.1 rfl (lv_room (Nat.le_of_ble_eq_true rfl)) d_Truths_act_84 ⟨Nat.le_of_ble_eq_true rfl, Nat.le_of_ble_eq_true rfl⟩) (fun rv2 S1 H locs hw2 hP hD hS => ?_)
      have hP : va_P D classes (cW T ad S1) H := hP
      have hD : va_D A (cW T ad S1) := hD
      obtain ⟨⟨i_vst, i_vc0, i_vc1, i_vc2, i_vc3, i_vv0, i_vv1, i_vv2, i_vv3, i_vg, i_wct, i_wln, i_sd0, i_sd1, i_sd2, i_sd3, i_rln, i_rtx, i_rpl, i_rtk, i_cnv, i_pts, i_cik, i_und⟩, kpcL_S1, kpcP_S1, kpcU_S1, kpcW_S1⟩ := hw2
      have kScL_S1 : kcL S S1 := kcL_t (show kcL S S from (kcL_r S)) kpcL_S1
      have kScP_S1 : kcP S S1 := kcP_t (show kcP S S from (kcP_r S)) kpcP_S1
      have kScU_S1 : kcU S S1 := kcU_t (show kcU S S from (kcU_r S)) kpcU_S1
      have kScW_S1 : kcW S S1 := kcW_t (show kcW S S from (kcW_r S)) kpcW_S1
      have nxr_length_S1 : (f_xr_length S1).toInt = (f_xr_length S).toInt := congrArg Int32.toInt kpcL_S1
      have nxr_length_S1 : (f_xr_length S1).toInt = (f_xr_length S).toInt := congrArg Int32.toInt kpcP_S1.1
      have nxr_place_S1 : (f_xr_place S1).toInt = (f_xr_place S).toInt := congrArg Int32.toInt kpcP_S1.2.1
      have nxe_underWay_S1 : (f_xe_underWay S1).toInt = (f_xe_underWay S).toInt := congrArg Int32.toInt kpcU_S1
      have nxp_columns_S1 : (f_xp_columns S1).toInt = (f_xp_columns S).toInt := congrArg Int32.toInt kpcW_S1.1
      have nxp_rows_S1 : (f_xp_rows S1).toInt = (f_xp_rows S).toInt := congrArg Int32.toInt kpcW_S1.2
      have rrv2 := zt_rng rv2
      exact j_iret F hr hlocks hK hS S1 ⟨⟨i_vst, i_vc0, i_vc1, i_vc2, i_vc3, i_vv0, i_vv1, i_vv2, i_vv3, i_vg, i_wct, i_wln, i_sd0, i_sd1, i_sd2, i_sd3, i_rln, i_rtx, i_rpl, i_rtk, i_cnv, i_pts, i_cik, i_und⟩, kScL_S1, kScP_S1, kScU_S1, kScW_S1⟩ hP hD d_Truths_act_87
    · refine lv_iconst (v := 1) hx hb d_Truths_act_79 (by decide) ?_
      refine lv_goto (tgt := 84) hx hb d_Truths_act_80 (by decide) ?_
      refine jc_ci (w := (fun u => u)) hK hP hD hS hA (va_runV (As := [.int 1]) (rest := []) F (c_Stack_pushFlag l D T ad S (1 : Int32)  H.size ⟨i_vst, i_vc0, i_vc1, i_vc2, i_vc3, i_vv0, i_vv1, i_vv2, i_vv3, i_vg, i_wct, i_wln, i_sd0, i_sd1, i_sd2, i_sd3, i_rln, i_rtx, i_rpl, i_rtk, i_cnv, i_pts, i_cik, i_und⟩) (j_cV (k := 1) (C := "PageScribe$Stack") hts k_4_179 k_1_3 k_4_176 k_4_177 k_4_178 (by decide +kernel) ⟨Nat.le_of_ble_eq_true rfl, Nat.le_of_ble_eq_true rfl⟩) (j_preV (q0 := 1) (ci := 0) hK hP hD csc csc_all csc_nd cl_0 (ce_1 _ _ _) (fun _ _ _ _ h => h) (fun _ _ _ => trivial)) rfl rfl hl.1 rfl (lv_room (Nat.le_of_ble_eq_true rfl)) d_Truths_act_84 ⟨Nat.le_of_ble_eq_true rfl, Nat.le_of_ble_eq_true rfl⟩) (fun rv3 S2 H locs hw3 hP hD hS => ?_)
      have hP : va_P D classes (cW T ad S2) H := hP
      have hD : va_D A (cW T ad S2) := hD
      obtain ⟨⟨i_vst, i_vc0, i_vc1, i_vc2, i_vc3, i_vv0, i_vv1, i_vv2, i_vv3, i_vg, i_wct, i_wln, i_sd0, i_sd1, i_sd2, i_sd3, i_rln, i_rtx, i_rpl, i_rtk, i_cnv, i_pts, i_cik, i_und⟩, kpcL_S2, kpcP_S2, kpcU_S2, kpcW_S2⟩ := hw3
      have kScL_S2 : kcL S S2 := kcL_t (show kcL S S from (kcL_r S)) kpcL_S2
      have kScP_S2 : kcP S S2 := kcP_t (show kcP S S from (kcP_r S)) kpcP_S2
      have kScU_S2 : kcU S S2 := kcU_t (show kcU S S from (kcU_r S)) kpcU_S2
      have kScW_S2 : kcW S S2 := kcW_t (show kcW S S from (kcW_r S)) kpcW_S2
      have nxr_length_S2 : (f_xr_length S2).toInt = (f_xr_length S).toInt := congrArg Int32.toInt kpcL_S2
      have nxr_length_S2 : (f_xr_length S2).toInt = (f_xr_length S).toInt := congrArg Int32.toInt kpcP_S2.1
      have nxr_place_S2 : (f_xr_place S2).toInt = (f_xr_place S).toInt := congrArg Int32.toInt kpcP_S2.2.1
      have nxe_underWay_S2 : (f_xe_underWay S2).toInt = (f_xe_underWay S).toInt := congrArg Int32.toInt kpcU_S2
      have nxp_columns_S2 : (f_xp_columns S2).toInt = (f_xp_columns S).toInt := congrArg Int32.toInt kpcW_S2.1
      have nxp_rows_S2 : (f_xp_rows S2).toInt = (f_xp_rows S).toInt := congrArg Int32.toInt kpcW_S2.2
      have rrv3 := zt_rng rv3
      exact j_iret F hr hlocks hK hS S2 ⟨⟨i_vst, i_vc0, i_vc1, i_vc2, i_vc3, i_vv0, i_vv1, i_vv2, i_vv3, i_vg, i_wct, i_wln, i_sd0, i_sd1, i_sd2, i_sd3, i_rln, i_rtx, i_rpl, i_rtk, i_cnv, i_pts, i_cik, i_und⟩, kScL_S2, kScP_S2, kScU_S2, kScW_S2⟩ hP hD d_Truths_act_87
  by_cases h_20_1 : x1.toInt = 20
  · refine lv_tableIn (off := 60) (tgt := 68) hx hb d_Truths_act_8 (by omega) (by omega) (by rw [show x1.toInt = 20 from h_20_1]; decide +kernel) (by decide) ?_
    refine lv_aload_n hx hb d_Truths_act_68 rfl (lv_at hl 0 rfl) ?_
    refine va_get (D := D) (ci := 9) (v := .ref (ad 1)) (C := "PageScribe$Truths") (T := F_Truths) (N := 1) hx hb hts i_Truths hown hK hP 74 (ce_74 _ _ _) cl_9 0 (by decide) (hts _ k_2_18) (fun _ h9 => h9) rfl d_Truths_act_69 ?_
    refine lv_aload_n hx hb d_Truths_act_72 rfl (lv_at hl 1 rfl) ?_
    refine va_gets hx hb (v := .ref (g_en g 24)) (hEV.1 24 (by decide)).1.2 hS hown (hts _ k_4_174) (fun _ h9 => h9) d_Truths_act_73 ?_
    refine lv_acmp_ne (rx := some (g_en g op)) (ry := some (g_en g 24)) (tgt := 83) hx hb d_Truths_act_76 (by decide) (fun c76_2 => ?_) (fun c76_2 => ?_)
    · refine lv_iconst (v := 0) hx hb d_Truths_act_83 (by decide) ?_
      refine jc_ci (w := (fun u => u)) hK hP hD hS hA (va_runV (As := [.int 0]) (rest := []) F (c_Stack_pushFlag l D T ad S (0 : Int32)  H.size ⟨i_vst, i_vc0, i_vc1, i_vc2, i_vc3, i_vv0, i_vv1, i_vv2, i_vv3, i_vg, i_wct, i_wln, i_sd0, i_sd1, i_sd2, i_sd3, i_rln, i_rtx, i_rpl, i_rtk, i_cnv, i_pts, i_cik, i_und⟩) (j_cV (k := 1) (C := "PageScribe$Stack") hts k_4_179 k_1_3 k_4_176 k_4_177 k_4_178 (by decide +kernel) ⟨Nat.le_of_ble_eq_true rfl, Nat.le_of_ble_eq_true rfl⟩) (j_preV (q0 := 1) (ci := 0) hK hP hD csc csc_all csc_nd cl_0 (ce_1 _ _ _) (fun _ _ _ _ h => h) (fun _ _ _ => trivial)) rfl rfl hl.1 rfl (lv_room (Nat.le_of_ble_eq_true rfl)) d_Truths_act_84 ⟨Nat.le_of_ble_eq_true rfl, Nat.le_of_ble_eq_true rfl⟩) (fun rv4 S3 H locs hw4 hP hD hS => ?_)
      have hP : va_P D classes (cW T ad S3) H := hP
      have hD : va_D A (cW T ad S3) := hD
      obtain ⟨⟨i_vst, i_vc0, i_vc1, i_vc2, i_vc3, i_vv0, i_vv1, i_vv2, i_vv3, i_vg, i_wct, i_wln, i_sd0, i_sd1, i_sd2, i_sd3, i_rln, i_rtx, i_rpl, i_rtk, i_cnv, i_pts, i_cik, i_und⟩, kpcL_S3, kpcP_S3, kpcU_S3, kpcW_S3⟩ := hw4
      have kScL_S3 : kcL S S3 := kcL_t (show kcL S S from (kcL_r S)) kpcL_S3
      have kScP_S3 : kcP S S3 := kcP_t (show kcP S S from (kcP_r S)) kpcP_S3
      have kScU_S3 : kcU S S3 := kcU_t (show kcU S S from (kcU_r S)) kpcU_S3
      have kScW_S3 : kcW S S3 := kcW_t (show kcW S S from (kcW_r S)) kpcW_S3
      have nxr_length_S3 : (f_xr_length S3).toInt = (f_xr_length S).toInt := congrArg Int32.toInt kpcL_S3
      have nxr_length_S3 : (f_xr_length S3).toInt = (f_xr_length S).toInt := congrArg Int32.toInt kpcP_S3.1
      have nxr_place_S3 : (f_xr_place S3).toInt = (f_xr_place S).toInt := congrArg Int32.toInt kpcP_S3.2.1
      have nxe_underWay_S3 : (f_xe_underWay S3).toInt = (f_xe_underWay S).toInt := congrArg Int32.toInt kpcU_S3
      have nxp_columns_S3 : (f_xp_columns S3).toInt = (f_xp_columns S).toInt := congrArg Int32.toInt kpcW_S3.1
      have nxp_rows_S3 : (f_xp_rows S3).toInt = (f_xp_rows S).toInt := congrArg Int32.toInt kpcW_S3.2
      have rrv4 := zt_rng rv4
      exact j_iret F hr hlocks hK hS S3 ⟨⟨i_vst, i_vc0, i_vc1, i_vc2, i_vc3, i_vv0, i_vv1, i_vv2, i_vv3, i_vg, i_wct, i_wln, i_sd0, i_sd1, i_sd2, i_sd3, i_rln, i_rtx, i_rpl, i_rtk, i_cnv, i_pts, i_cik, i_und⟩, kScL_S3, kScP_S3, kScU_S3, kScW_S3⟩ hP hD d_Truths_act_87
    · refine lv_iconst (v := 1) hx hb d_Truths_act_79 (by decide) ?_
      refine lv_goto (tgt := 84) hx hb d_Truths_act_80 (by decide) ?_
      refine jc_ci (w := (fun u => u)) hK hP hD hS hA (va_runV (As := [.int 1]) (rest := []) F (c_Stack_pushFlag l D T ad S (1 : Int32)  H.size ⟨i_vst, i_vc0, i_vc1, i_vc2, i_vc3, i_vv0, i_vv1, i_vv2, i_vv3, i_vg, i_wct, i_wln, i_sd0, i_sd1, i_sd2, i_sd3, i_rln, i_rtx, i_rpl, i_rtk, i_cnv, i_pts, i_cik, i_und⟩) (j_cV (k := 1) (C := "PageScribe$Stack") hts k_4_179 k_1_3 k_4_176 k_4_177 k_4_178 (by decide +kernel) ⟨Nat.le_of_ble_eq_true rfl, Nat.le_of_ble_eq_true rfl⟩) (j_preV (q0 := 1) (ci := 0) hK hP hD csc csc_all csc_nd cl_0 (ce_1 _ _ _) (fun _ _ _ _ h => h) (fun _ _ _ => trivial)) rfl rfl hl.1 rfl (lv_room (Nat.le_of_ble_eq_true rfl)) d_Truths_act_84 ⟨Nat.le_of_ble_eq_true rfl, Nat.le_of_ble_eq_true rfl⟩) (fun rv5 S4 H locs hw5 hP hD hS => ?_)
      have hP : va_P D classes (cW T ad S4) H := hP
      have hD : va_D A (cW T ad S4) := hD
      obtain ⟨⟨i_vst, i_vc0, i_vc1, i_vc2, i_vc3, i_vv0, i_vv1, i_vv2, i_vv3, i_vg, i_wct, i_wln, i_sd0, i_sd1, i_sd2, i_sd3, i_rln, i_rtx, i_rpl, i_rtk, i_cnv, i_pts, i_cik, i_und⟩, kpcL_S4, kpcP_S4, kpcU_S4, kpcW_S4⟩ := hw5
      have kScL_S4 : kcL S S4 := kcL_t (show kcL S S from (kcL_r S)) kpcL_S4
      have kScP_S4 : kcP S S4 := kcP_t (show kcP S S from (kcP_r S)) kpcP_S4
      have kScU_S4 : kcU S S4 := kcU_t (show kcU S S from (kcU_r S)) kpcU_S4
      have kScW_S4 : kcW S S4 := kcW_t (show kcW S S from (kcW_r S)) kpcW_S4
      have nxr_length_S4 : (f_xr_length S4).toInt = (f_xr_length S).toInt := congrArg Int32.toInt kpcL_S4
      have nxr_length_S4 : (f_xr_length S4).toInt = (f_xr_length S).toInt := congrArg Int32.toInt kpcP_S4.1
      have nxr_place_S4 : (f_xr_place S4).toInt = (f_xr_place S).toInt := congrArg Int32.toInt kpcP_S4.2.1
      have nxe_underWay_S4 : (f_xe_underWay S4).toInt = (f_xe_underWay S).toInt := congrArg Int32.toInt kpcU_S4
      have nxp_columns_S4 : (f_xp_columns S4).toInt = (f_xp_columns S).toInt := congrArg Int32.toInt kpcW_S4.1
      have nxp_rows_S4 : (f_xp_rows S4).toInt = (f_xp_rows S).toInt := congrArg Int32.toInt kpcW_S4.2
      have rrv5 := zt_rng rv5
      exact j_iret F hr hlocks hK hS S4 ⟨⟨i_vst, i_vc0, i_vc1, i_vc2, i_vc3, i_vv0, i_vv1, i_vv2, i_vv3, i_vg, i_wct, i_wln, i_sd0, i_sd1, i_sd2, i_sd3, i_rln, i_rtx, i_rpl, i_rtk, i_cnv, i_pts, i_cik, i_und⟩, kScL_S4, kScP_S4, kScU_S4, kScW_S4⟩ hP hD d_Truths_act_87
  by_cases h_21_1 : x1.toInt = 21
  · refine lv_tableIn (off := 80) (tgt := 88) hx hb d_Truths_act_8 (by omega) (by omega) (by rw [show x1.toInt = 21 from h_21_1]; decide +kernel) (by decide) ?_
    refine lv_aload_n hx hb d_Truths_act_88 rfl (lv_at hl 0 rfl) ?_
    refine va_get (D := D) (ci := 9) (v := .ref (ad 1)) (C := "PageScribe$Truths") (T := F_Truths) (N := 1) hx hb hts i_Truths hown hK hP 74 (ce_74 _ _ _) cl_9 0 (by decide) (hts _ k_2_18) (fun _ h9 => h9) rfl d_Truths_act_89 ?_
    refine lv_iconst (v := 2) hx hb d_Truths_act_92 (by decide) ?_
    refine lv_aload_n hx hb d_Truths_act_93 rfl (lv_at hl 0 rfl) ?_
    refine jc_ci (w := (fun _ => S)) hK hP hD hS hA (va_runV (As := []) (rest := [.int 2, .ref (ad 1)]) F (c_Truths_alike l D T ad g Bq S  H.size ⟨i_vst, i_vc0, i_vc1, i_vc2, i_vc3, i_vv0, i_vv1, i_vv2, i_vv3, i_vg, i_wct, i_wln, i_sd0, i_sd1, i_sd2, i_sd3, i_rln, i_rtx, i_rpl, i_rtk, i_cnv, i_pts, i_cik, i_und⟩) (j_cV (k := 0) (C := "PageScribe$Truths") hts k_4_183 k_1_11 k_4_180 k_4_182 k_0_33 (by decide +kernel) ⟨Nat.le_of_ble_eq_true rfl, Nat.le_of_ble_eq_true rfl⟩) (j_preV (q0 := 74) (ci := 9) hK hP hD csc csc_all csc_nd cl_9 (ce_74 _ _ _) (fun _ _ _ _ h => EC.calling h) (fun U hU hW => EC.at hS hAB hU hW hE)) rfl rfl hl.1 rfl (lv_room (Nat.le_of_ble_eq_true rfl)) d_Truths_act_94 ⟨Nat.le_of_ble_eq_true rfl, Nat.le_of_ble_eq_true rfl⟩) (fun rv6 u2 H locs hw6 hP hD hS => ?_)
    have hP : va_P D classes (cW T ad S) H := hP
    have hD : va_D A (cW T ad S) := hD
    have qhw6 : rv6.toInt = 0 ∨ rv6.toInt = 1 := hw6
    have rrv6 := zt_rng rv6
    refine lv_aload_n hx hb d_Truths_act_97 rfl (lv_at hl 1 rfl) ?_
    refine va_gets hx hb (v := .ref (g_en g 26)) (hEV.1 26 (by decide)).1.2 hS hown (hts _ k_4_190) (fun _ h9 => h9) d_Truths_act_98 ?_
    refine lv_acmp_ne (rx := some (g_en g op)) (ry := some (g_en g 26)) (tgt := 108) hx hb d_Truths_act_101 (by decide) (fun c101_1 => ?_) (fun c101_1 => ?_)
    · refine lv_iconst (v := 0) hx hb d_Truths_act_108 (by decide) ?_
      refine lv_icmp_ne (tgt := 116) hx hb d_Truths_act_109 (by decide) (fun c109_1 => ?_) (fun c109_1 => ?_)
      · first | have fc109_1 : rv6.toInt < 0 := (by have := zt_ne (show rv6.toInt = _ from rfl) tI_0 c109_1; omega) | have fc109_1 : 0 < rv6.toInt := (by have := zt_ne (show rv6.toInt = _ from rfl) tI_0 c109_1; omega) | skip
        refine lv_iconst (v := 0) hx hb d_Truths_act_116 (by decide) ?_
        refine jc_ci (w := (fun u => u)) hK hP hD hS hA (va_runV (As := [.int 2, .int 0]) (rest := []) F (c_Stack_giveFlag l D T ad S (2 : Int32) (0 : Int32)  H.size ⟨i_vst, i_vc0, i_vc1, i_vc2, i_vc3, i_vv0, i_vv1, i_vv2, i_vv3, i_vg, i_wct, i_wln, i_sd0, i_sd1, i_sd2, i_sd3, i_rln, i_rtx, i_rpl, i_rtk, i_cnv, i_pts, i_cik, i_und⟩) (j_cV (k := 2) (C := "PageScribe$Stack") hts k_4_195 k_1_3 k_4_192 k_4_193 k_4_194 (by decide +kernel) ⟨Nat.le_of_ble_eq_true rfl, Nat.le_of_ble_eq_true rfl⟩) (j_preV (q0 := 1) (ci := 0) hK hP hD csc csc_all csc_nd cl_0 (ce_1 _ _ _) (fun _ _ _ _ h => h) (fun _ _ _ => trivial)) rfl rfl hl.1 rfl (lv_room (Nat.le_of_ble_eq_true rfl)) d_Truths_act_117 ⟨Nat.le_of_ble_eq_true rfl, Nat.le_of_ble_eq_true rfl⟩) (fun rv7 S5 H locs hw7 hP hD hS => ?_)
        have hP : va_P D classes (cW T ad S5) H := hP
        have hD : va_D A (cW T ad S5) := hD
        obtain ⟨⟨i_vst, i_vc0, i_vc1, i_vc2, i_vc3, i_vv0, i_vv1, i_vv2, i_vv3, i_vg, i_wct, i_wln, i_sd0, i_sd1, i_sd2, i_sd3, i_rln, i_rtx, i_rpl, i_rtk, i_cnv, i_pts, i_cik, i_und⟩, kpcL_S5, kpcP_S5, kpcU_S5, kpcW_S5⟩ := hw7
        have kScL_S5 : kcL S S5 := kcL_t (show kcL S S from (kcL_r S)) kpcL_S5
        have kScP_S5 : kcP S S5 := kcP_t (show kcP S S from (kcP_r S)) kpcP_S5
        have kScU_S5 : kcU S S5 := kcU_t (show kcU S S from (kcU_r S)) kpcU_S5
        have kScW_S5 : kcW S S5 := kcW_t (show kcW S S from (kcW_r S)) kpcW_S5
        have nxr_length_S5 : (f_xr_length S5).toInt = (f_xr_length S).toInt := congrArg Int32.toInt kpcL_S5
        have nxr_length_S5 : (f_xr_length S5).toInt = (f_xr_length S).toInt := congrArg Int32.toInt kpcP_S5.1
        have nxr_place_S5 : (f_xr_place S5).toInt = (f_xr_place S).toInt := congrArg Int32.toInt kpcP_S5.2.1
        have nxe_underWay_S5 : (f_xe_underWay S5).toInt = (f_xe_underWay S).toInt := congrArg Int32.toInt kpcU_S5
        have nxp_columns_S5 : (f_xp_columns S5).toInt = (f_xp_columns S).toInt := congrArg Int32.toInt kpcW_S5.1
        have nxp_rows_S5 : (f_xp_rows S5).toInt = (f_xp_rows S).toInt := congrArg Int32.toInt kpcW_S5.2
        have rrv7 := zt_rng rv7
        exact j_iret F hr hlocks hK hS S5 ⟨⟨i_vst, i_vc0, i_vc1, i_vc2, i_vc3, i_vv0, i_vv1, i_vv2, i_vv3, i_vg, i_wct, i_wln, i_sd0, i_sd1, i_sd2, i_sd3, i_rln, i_rtx, i_rpl, i_rtk, i_cnv, i_pts, i_cik, i_und⟩, kScL_S5, kScP_S5, kScU_S5, kScW_S5⟩ hP hD d_Truths_act_120
      · have fc109_1 : rv6.toInt = 0 := zt_eq (show rv6.toInt = _ from rfl) tI_0 c109_1
        refine lv_iconst (v := 1) hx hb d_Truths_act_112 (by decide) ?_
        refine lv_goto (tgt := 117) hx hb d_Truths_act_113 (by decide) ?_
        refine jc_ci (w := (fun u => u)) hK hP hD hS hA (va_runV (As := [.int 2, .int 1]) (rest := []) F (c_Stack_giveFlag l D T ad S (2 : Int32) (1 : Int32)  H.size ⟨i_vst, i_vc0, i_vc1, i_vc2, i_vc3, i_vv0, i_vv1, i_vv2, i_vv3, i_vg, i_wct, i_wln, i_sd0, i_sd1, i_sd2, i_sd3, i_rln, i_rtx, i_rpl, i_rtk, i_cnv, i_pts, i_cik, i_und⟩) (j_cV (k := 2) (C := "PageScribe$Stack") hts k_4_195 k_1_3 k_4_192 k_4_193 k_4_194 (by decide +kernel) ⟨Nat.le_of_ble_eq_true rfl, Nat.le_of_ble_eq_true rfl⟩) (j_preV (q0 := 1) (ci := 0) hK hP hD csc csc_all csc_nd cl_0 (ce_1 _ _ _) (fun _ _ _ _ h => h) (fun _ _ _ => trivial)) rfl rfl hl.1 rfl (lv_room (Nat.le_of_ble_eq_true rfl)) d_Truths_act_117 ⟨Nat.le_of_ble_eq_true rfl, Nat.le_of_ble_eq_true rfl⟩) (fun rv8 S6 H locs hw8 hP hD hS => ?_)
        have hP : va_P D classes (cW T ad S6) H := hP
        have hD : va_D A (cW T ad S6) := hD
        obtain ⟨⟨i_vst, i_vc0, i_vc1, i_vc2, i_vc3, i_vv0, i_vv1, i_vv2, i_vv3, i_vg, i_wct, i_wln, i_sd0, i_sd1, i_sd2, i_sd3, i_rln, i_rtx, i_rpl, i_rtk, i_cnv, i_pts, i_cik, i_und⟩, kpcL_S6, kpcP_S6, kpcU_S6, kpcW_S6⟩ := hw8
        have kScL_S6 : kcL S S6 := kcL_t (show kcL S S from (kcL_r S)) kpcL_S6
        have kScP_S6 : kcP S S6 := kcP_t (show kcP S S from (kcP_r S)) kpcP_S6
        have kScU_S6 : kcU S S6 := kcU_t (show kcU S S from (kcU_r S)) kpcU_S6
        have kScW_S6 : kcW S S6 := kcW_t (show kcW S S from (kcW_r S)) kpcW_S6
        have nxr_length_S6 : (f_xr_length S6).toInt = (f_xr_length S).toInt := congrArg Int32.toInt kpcL_S6
        have nxr_length_S6 : (f_xr_length S6).toInt = (f_xr_length S).toInt := congrArg Int32.toInt kpcP_S6.1
        have nxr_place_S6 : (f_xr_place S6).toInt = (f_xr_place S).toInt := congrArg Int32.toInt kpcP_S6.2.1
        have nxe_underWay_S6 : (f_xe_underWay S6).toInt = (f_xe_underWay S).toInt := congrArg Int32.toInt kpcU_S6
        have nxp_columns_S6 : (f_xp_columns S6).toInt = (f_xp_columns S).toInt := congrArg Int32.toInt kpcW_S6.1
        have nxp_rows_S6 : (f_xp_rows S6).toInt = (f_xp_rows S).toInt := congrArg Int32.toInt kpcW_S6.2
        have rrv8 := zt_rng rv8
        exact j_iret F hr hlocks hK hS S6 ⟨⟨i_vst, i_vc0, i_vc1, i_vc2, i_vc3, i_vv0, i_vv1, i_vv2, i_vv3, i_vg, i_wct, i_wln, i_sd0, i_sd1, i_sd2, i_sd3, i_rln, i_rtx, i_rpl, i_rtk, i_cnv, i_pts, i_cik, i_und⟩, kScL_S6, kScP_S6, kScU_S6, kScW_S6⟩ hP hD d_Truths_act_120
    · refine lv_iconst (v := 1) hx hb d_Truths_act_104 (by decide) ?_
      refine lv_goto (tgt := 109) hx hb d_Truths_act_105 (by decide) ?_
      refine lv_icmp_ne (tgt := 116) hx hb d_Truths_act_109 (by decide) (fun c109_2 => ?_) (fun c109_2 => ?_)
      · first | have fc109_2 : rv6.toInt < 1 := (by have := zt_ne (show rv6.toInt = _ from rfl) tI_1 c109_2; omega) | have fc109_2 : 1 < rv6.toInt := (by have := zt_ne (show rv6.toInt = _ from rfl) tI_1 c109_2; omega) | skip
        refine lv_iconst (v := 0) hx hb d_Truths_act_116 (by decide) ?_
        refine jc_ci (w := (fun u => u)) hK hP hD hS hA (va_runV (As := [.int 2, .int 0]) (rest := []) F (c_Stack_giveFlag l D T ad S (2 : Int32) (0 : Int32)  H.size ⟨i_vst, i_vc0, i_vc1, i_vc2, i_vc3, i_vv0, i_vv1, i_vv2, i_vv3, i_vg, i_wct, i_wln, i_sd0, i_sd1, i_sd2, i_sd3, i_rln, i_rtx, i_rpl, i_rtk, i_cnv, i_pts, i_cik, i_und⟩) (j_cV (k := 2) (C := "PageScribe$Stack") hts k_4_195 k_1_3 k_4_192 k_4_193 k_4_194 (by decide +kernel) ⟨Nat.le_of_ble_eq_true rfl, Nat.le_of_ble_eq_true rfl⟩) (j_preV (q0 := 1) (ci := 0) hK hP hD csc csc_all csc_nd cl_0 (ce_1 _ _ _) (fun _ _ _ _ h => h) (fun _ _ _ => trivial)) rfl rfl hl.1 rfl (lv_room (Nat.le_of_ble_eq_true rfl)) d_Truths_act_117 ⟨Nat.le_of_ble_eq_true rfl, Nat.le_of_ble_eq_true rfl⟩) (fun rv9 S7 H locs hw9 hP hD hS => ?_)
        have hP : va_P D classes (cW T ad S7) H := hP
        have hD : va_D A (cW T ad S7) := hD
        obtain ⟨⟨i_vst, i_vc0, i_vc1, i_vc2, i_vc3, i_vv0, i_vv1, i_vv2, i_vv3, i_vg, i_wct, i_wln, i_sd0, i_sd1, i_sd2, i_sd3, i_rln, i_rtx, i_rpl, i_rtk, i_cnv, i_pts, i_cik, i_und⟩, kpcL_S7, kpcP_S7, kpcU_S7, kpcW_S7⟩ := hw9
        have kScL_S7 : kcL S S7 := kcL_t (show kcL S S from (kcL_r S)) kpcL_S7
        have kScP_S7 : kcP S S7 := kcP_t (show kcP S S from (kcP_r S)) kpcP_S7
        have kScU_S7 : kcU S S7 := kcU_t (show kcU S S from (kcU_r S)) kpcU_S7
        have kScW_S7 : kcW S S7 := kcW_t (show kcW S S from (kcW_r S)) kpcW_S7
        have nxr_length_S7 : (f_xr_length S7).toInt = (f_xr_length S).toInt := congrArg Int32.toInt kpcL_S7
        have nxr_length_S7 : (f_xr_length S7).toInt = (f_xr_length S).toInt := congrArg Int32.toInt kpcP_S7.1
        have nxr_place_S7 : (f_xr_place S7).toInt = (f_xr_place S).toInt := congrArg Int32.toInt kpcP_S7.2.1
        have nxe_underWay_S7 : (f_xe_underWay S7).toInt = (f_xe_underWay S).toInt := congrArg Int32.toInt kpcU_S7
        have nxp_columns_S7 : (f_xp_columns S7).toInt = (f_xp_columns S).toInt := congrArg Int32.toInt kpcW_S7.1
        have nxp_rows_S7 : (f_xp_rows S7).toInt = (f_xp_rows S).toInt := congrArg Int32.toInt kpcW_S7.2
        have rrv9 := zt_rng rv9
        exact j_iret F hr hlocks hK hS S7 ⟨⟨i_vst, i_vc0, i_vc1, i_vc2, i_vc3, i_vv0, i_vv1, i_vv2, i_vv3, i_vg, i_wct, i_wln, i_sd0, i_sd1, i_sd2, i_sd3, i_rln, i_rtx, i_rpl, i_rtk, i_cnv, i_pts, i_cik, i_und⟩, kScL_S7, kScP_S7, kScU_S7, kScW_S7⟩ hP hD d_Truths_act_120
      · have fc109_2 : rv6.toInt = 1 := zt_eq (show rv6.toInt = _ from rfl) tI_1 c109_2
        refine lv_iconst (v := 1) hx hb d_Truths_act_112 (by decide) ?_
        refine lv_goto (tgt := 117) hx hb d_Truths_act_113 (by decide) ?_
        refine jc_ci (w := (fun u => u)) hK hP hD hS hA (va_runV (As := [.int 2, .int 1]) (rest := []) F (c_Stack_giveFlag l D T ad S (2 : Int32) (1 : Int32)  H.size ⟨i_vst, i_vc0, i_vc1, i_vc2, i_vc3, i_vv0, i_vv1, i_vv2, i_vv3, i_vg, i_wct, i_wln, i_sd0, i_sd1, i_sd2, i_sd3, i_rln, i_rtx, i_rpl, i_rtk, i_cnv, i_pts, i_cik, i_und⟩) (j_cV (k := 2) (C := "PageScribe$Stack") hts k_4_195 k_1_3 k_4_192 k_4_193 k_4_194 (by decide +kernel) ⟨Nat.le_of_ble_eq_true rfl, Nat.le_of_ble_eq_true rfl⟩) (j_preV (q0 := 1) (ci := 0) hK hP hD csc csc_all csc_nd cl_0 (ce_1 _ _ _) (fun _ _ _ _ h => h) (fun _ _ _ => trivial)) rfl rfl hl.1 rfl (lv_room (Nat.le_of_ble_eq_true rfl)) d_Truths_act_117 ⟨Nat.le_of_ble_eq_true rfl, Nat.le_of_ble_eq_true rfl⟩) (fun rv10 S8 H locs hw10 hP hD hS => ?_)
        have hP : va_P D classes (cW T ad S8) H := hP
        have hD : va_D A (cW T ad S8) := hD
        obtain ⟨⟨i_vst, i_vc0, i_vc1, i_vc2, i_vc3, i_vv0, i_vv1, i_vv2, i_vv3, i_vg, i_wct, i_wln, i_sd0, i_sd1, i_sd2, i_sd3, i_rln, i_rtx, i_rpl, i_rtk, i_cnv, i_pts, i_cik, i_und⟩, kpcL_S8, kpcP_S8, kpcU_S8, kpcW_S8⟩ := hw10
        have kScL_S8 : kcL S S8 := kcL_t (show kcL S S from (kcL_r S)) kpcL_S8
        have kScP_S8 : kcP S S8 := kcP_t (show kcP S S from (kcP_r S)) kpcP_S8
        have kScU_S8 : kcU S S8 := kcU_t (show kcU S S from (kcU_r S)) kpcU_S8
        have kScW_S8 : kcW S S8 := kcW_t (show kcW S S from (kcW_r S)) kpcW_S8
        have nxr_length_S8 : (f_xr_length S8).toInt = (f_xr_length S).toInt := congrArg Int32.toInt kpcL_S8
        have nxr_length_S8 : (f_xr_length S8).toInt = (f_xr_length S).toInt := congrArg Int32.toInt kpcP_S8.1
        have nxr_place_S8 : (f_xr_place S8).toInt = (f_xr_place S).toInt := congrArg Int32.toInt kpcP_S8.2.1
        have nxe_underWay_S8 : (f_xe_underWay S8).toInt = (f_xe_underWay S).toInt := congrArg Int32.toInt kpcU_S8
        have nxp_columns_S8 : (f_xp_columns S8).toInt = (f_xp_columns S).toInt := congrArg Int32.toInt kpcW_S8.1
        have nxp_rows_S8 : (f_xp_rows S8).toInt = (f_xp_rows S).toInt := congrArg Int32.toInt kpcW_S8.2
        have rrv10 := zt_rng rv10
        exact j_iret F hr hlocks hK hS S8 ⟨⟨i_vst, i_vc0, i_vc1, i_vc2, i_vc3, i_vv0, i_vv1, i_vv2, i_vv3, i_vg, i_wct, i_wln, i_sd0, i_sd1, i_sd2, i_sd3, i_rln, i_rtx, i_rpl, i_rtk, i_cnv, i_pts, i_cik, i_und⟩, kScL_S8, kScP_S8, kScU_S8, kScW_S8⟩ hP hD d_Truths_act_120
  by_cases h_22_1 : x1.toInt = 22
  · refine lv_tableIn (off := 80) (tgt := 88) hx hb d_Truths_act_8 (by omega) (by omega) (by rw [show x1.toInt = 22 from h_22_1]; decide +kernel) (by decide) ?_
    refine lv_aload_n hx hb d_Truths_act_88 rfl (lv_at hl 0 rfl) ?_
    refine va_get (D := D) (ci := 9) (v := .ref (ad 1)) (C := "PageScribe$Truths") (T := F_Truths) (N := 1) hx hb hts i_Truths hown hK hP 74 (ce_74 _ _ _) cl_9 0 (by decide) (hts _ k_2_18) (fun _ h9 => h9) rfl d_Truths_act_89 ?_
    refine lv_iconst (v := 2) hx hb d_Truths_act_92 (by decide) ?_
    refine lv_aload_n hx hb d_Truths_act_93 rfl (lv_at hl 0 rfl) ?_
    refine jc_ci (w := (fun _ => S)) hK hP hD hS hA (va_runV (As := []) (rest := [.int 2, .ref (ad 1)]) F (c_Truths_alike l D T ad g Bq S  H.size ⟨i_vst, i_vc0, i_vc1, i_vc2, i_vc3, i_vv0, i_vv1, i_vv2, i_vv3, i_vg, i_wct, i_wln, i_sd0, i_sd1, i_sd2, i_sd3, i_rln, i_rtx, i_rpl, i_rtk, i_cnv, i_pts, i_cik, i_und⟩) (j_cV (k := 0) (C := "PageScribe$Truths") hts k_4_183 k_1_11 k_4_180 k_4_182 k_0_33 (by decide +kernel) ⟨Nat.le_of_ble_eq_true rfl, Nat.le_of_ble_eq_true rfl⟩) (j_preV (q0 := 74) (ci := 9) hK hP hD csc csc_all csc_nd cl_9 (ce_74 _ _ _) (fun _ _ _ _ h => EC.calling h) (fun U hU hW => EC.at hS hAB hU hW hE)) rfl rfl hl.1 rfl (lv_room (Nat.le_of_ble_eq_true rfl)) d_Truths_act_94 ⟨Nat.le_of_ble_eq_true rfl, Nat.le_of_ble_eq_true rfl⟩) (fun rv11 u3 H locs hw11 hP hD hS => ?_)
    have hP : va_P D classes (cW T ad S) H := hP
    have hD : va_D A (cW T ad S) := hD
    have qhw11 : rv11.toInt = 0 ∨ rv11.toInt = 1 := hw11
    have rrv11 := zt_rng rv11
    refine lv_aload_n hx hb d_Truths_act_97 rfl (lv_at hl 1 rfl) ?_
    refine va_gets hx hb (v := .ref (g_en g 26)) (hEV.1 26 (by decide)).1.2 hS hown (hts _ k_4_190) (fun _ h9 => h9) d_Truths_act_98 ?_
    refine lv_acmp_ne (rx := some (g_en g op)) (ry := some (g_en g 26)) (tgt := 108) hx hb d_Truths_act_101 (by decide) (fun c101_2 => ?_) (fun c101_2 => ?_)
    · refine lv_iconst (v := 0) hx hb d_Truths_act_108 (by decide) ?_
      refine lv_icmp_ne (tgt := 116) hx hb d_Truths_act_109 (by decide) (fun c109_3 => ?_) (fun c109_3 => ?_)
      · first | have fc109_3 : rv11.toInt < 0 := (by have := zt_ne (show rv11.toInt = _ from rfl) tI_0 c109_3; omega) | have fc109_3 : 0 < rv11.toInt := (by have := zt_ne (show rv11.toInt = _ from rfl) tI_0 c109_3; omega) | skip
        refine lv_iconst (v := 0) hx hb d_Truths_act_116 (by decide) ?_
        refine jc_ci (w := (fun u => u)) hK hP hD hS hA (va_runV (As := [.int 2, .int 0]) (rest := []) F (c_Stack_giveFlag l D T ad S (2 : Int32) (0 : Int32)  H.size ⟨i_vst, i_vc0, i_vc1, i_vc2, i_vc3, i_vv0, i_vv1, i_vv2, i_vv3, i_vg, i_wct, i_wln, i_sd0, i_sd1, i_sd2, i_sd3, i_rln, i_rtx, i_rpl, i_rtk, i_cnv, i_pts, i_cik, i_und⟩) (j_cV (k := 2) (C := "PageScribe$Stack") hts k_4_195 k_1_3 k_4_192 k_4_193 k_4_194 (by decide +kernel) ⟨Nat.le_of_ble_eq_true rfl, Nat.le_of_ble_eq_true rfl⟩) (j_preV (q0 := 1) (ci := 0) hK hP hD csc csc_all csc_nd cl_0 (ce_1 _ _ _) (fun _ _ _ _ h => h) (fun _ _ _ => trivial)) rfl rfl hl.1 rfl (lv_room (Nat.le_of_ble_eq_true rfl)) d_Truths_act_117 ⟨Nat.le_of_ble_eq_true rfl, Nat.le_of_ble_eq_true rfl⟩) (fun rv12 S9 H locs hw12 hP hD hS => ?_)
        have hP : va_P D classes (cW T ad S9) H := hP
        have hD : va_D A (cW T ad S9) := hD
        obtain ⟨⟨i_vst, i_vc0, i_vc1, i_vc2, i_vc3, i_vv0, i_vv1, i_vv2, i_vv3, i_vg, i_wct, i_wln, i_sd0, i_sd1, i_sd2, i_sd3, i_rln, i_rtx, i_rpl, i_rtk, i_cnv, i_pts, i_cik, i_und⟩, kpcL_S9, kpcP_S9, kpcU_S9, kpcW_S9⟩ := hw12
        have kScL_S9 : kcL S S9 := kcL_t (show kcL S S from (kcL_r S)) kpcL_S9
        have kScP_S9 : kcP S S9 := kcP_t (show kcP S S from (kcP_r S)) kpcP_S9
        have kScU_S9 : kcU S S9 := kcU_t (show kcU S S from (kcU_r S)) kpcU_S9
        have kScW_S9 : kcW S S9 := kcW_t (show kcW S S from (kcW_r S)) kpcW_S9
        have nxr_length_S9 : (f_xr_length S9).toInt = (f_xr_length S).toInt := congrArg Int32.toInt kpcL_S9
        have nxr_length_S9 : (f_xr_length S9).toInt = (f_xr_length S).toInt := congrArg Int32.toInt kpcP_S9.1
        have nxr_place_S9 : (f_xr_place S9).toInt = (f_xr_place S).toInt := congrArg Int32.toInt kpcP_S9.2.1
        have nxe_underWay_S9 : (f_xe_underWay S9).toInt = (f_xe_underWay S).toInt := congrArg Int32.toInt kpcU_S9
        have nxp_columns_S9 : (f_xp_columns S9).toInt = (f_xp_columns S).toInt := congrArg Int32.toInt kpcW_S9.1
        have nxp_rows_S9 : (f_xp_rows S9).toInt = (f_xp_rows S).toInt := congrArg Int32.toInt kpcW_S9.2
        have rrv12 := zt_rng rv12
        exact j_iret F hr hlocks hK hS S9 ⟨⟨i_vst, i_vc0, i_vc1, i_vc2, i_vc3, i_vv0, i_vv1, i_vv2, i_vv3, i_vg, i_wct, i_wln, i_sd0, i_sd1, i_sd2, i_sd3, i_rln, i_rtx, i_rpl, i_rtk, i_cnv, i_pts, i_cik, i_und⟩, kScL_S9, kScP_S9, kScU_S9, kScW_S9⟩ hP hD d_Truths_act_120
      · have fc109_3 : rv11.toInt = 0 := zt_eq (show rv11.toInt = _ from rfl) tI_0 c109_3
        refine lv_iconst (v := 1) hx hb d_Truths_act_112 (by decide) ?_
        refine lv_goto (tgt := 117) hx hb d_Truths_act_113 (by decide) ?_
        refine jc_ci (w := (fun u => u)) hK hP hD hS hA (va_runV (As := [.int 2, .int 1]) (rest := []) F (c_Stack_giveFlag l D T ad S (2 : Int32) (1 : Int32)  H.size ⟨i_vst, i_vc0, i_vc1, i_vc2, i_vc3, i_vv0, i_vv1, i_vv2, i_vv3, i_vg, i_wct, i_wln, i_sd0, i_sd1, i_sd2, i_sd3, i_rln, i_rtx, i_rpl, i_rtk, i_cnv, i_pts, i_cik, i_und⟩) (j_cV (k := 2) (C := "PageScribe$Stack") hts k_4_195 k_1_3 k_4_192 k_4_193 k_4_194 (by decide +kernel) ⟨Nat.le_of_ble_eq_true rfl, Nat.le_of_ble_eq_true rfl⟩) (j_preV (q0 := 1) (ci := 0) hK hP hD csc csc_all csc_nd cl_0 (ce_1 _ _ _) (fun _ _ _ _ h => h) (fun _ _ _ => trivial)) rfl rfl hl.1 rfl (lv_room (Nat.le_of_ble_eq_true rfl)) d_Truths_act_117 ⟨Nat.le_of_ble_eq_true rfl, Nat.le_of_ble_eq_true rfl⟩) (fun rv13 S10 H locs hw13 hP hD hS => ?_)
        have hP : va_P D classes (cW T ad S10) H := hP
        have hD : va_D A (cW T ad S10) := hD
        obtain ⟨⟨i_vst, i_vc0, i_vc1, i_vc2, i_vc3, i_vv0, i_vv1, i_vv2, i_vv3, i_vg, i_wct, i_wln, i_sd0, i_sd1, i_sd2, i_sd3, i_rln, i_rtx, i_rpl, i_rtk, i_cnv, i_pts, i_cik, i_und⟩, kpcL_S10, kpcP_S10, kpcU_S10, kpcW_S10⟩ := hw13
        have kScL_S10 : kcL S S10 := kcL_t (show kcL S S from (kcL_r S)) kpcL_S10
        have kScP_S10 : kcP S S10 := kcP_t (show kcP S S from (kcP_r S)) kpcP_S10
        have kScU_S10 : kcU S S10 := kcU_t (show kcU S S from (kcU_r S)) kpcU_S10
        have kScW_S10 : kcW S S10 := kcW_t (show kcW S S from (kcW_r S)) kpcW_S10
        have nxr_length_S10 : (f_xr_length S10).toInt = (f_xr_length S).toInt := congrArg Int32.toInt kpcL_S10
        have nxr_length_S10 : (f_xr_length S10).toInt = (f_xr_length S).toInt := congrArg Int32.toInt kpcP_S10.1
        have nxr_place_S10 : (f_xr_place S10).toInt = (f_xr_place S).toInt := congrArg Int32.toInt kpcP_S10.2.1
        have nxe_underWay_S10 : (f_xe_underWay S10).toInt = (f_xe_underWay S).toInt := congrArg Int32.toInt kpcU_S10
        have nxp_columns_S10 : (f_xp_columns S10).toInt = (f_xp_columns S).toInt := congrArg Int32.toInt kpcW_S10.1
        have nxp_rows_S10 : (f_xp_rows S10).toInt = (f_xp_rows S).toInt := congrArg Int32.toInt kpcW_S10.2
        have rrv13 := zt_rng rv13
        exact j_iret F hr hlocks hK hS S10 ⟨⟨i_vst, i_vc0, i_vc1, i_vc2, i_vc3, i_vv0, i_vv1, i_vv2, i_vv3, i_vg, i_wct, i_wln, i_sd0, i_sd1, i_sd2, i_sd3, i_rln, i_rtx, i_rpl, i_rtk, i_cnv, i_pts, i_cik, i_und⟩, kScL_S10, kScP_S10, kScU_S10, kScW_S10⟩ hP hD d_Truths_act_120
    · refine lv_iconst (v := 1) hx hb d_Truths_act_104 (by decide) ?_
      refine lv_goto (tgt := 109) hx hb d_Truths_act_105 (by decide) ?_
      refine lv_icmp_ne (tgt := 116) hx hb d_Truths_act_109 (by decide) (fun c109_4 => ?_) (fun c109_4 => ?_)
      · first | have fc109_4 : rv11.toInt < 1 := (by have := zt_ne (show rv11.toInt = _ from rfl) tI_1 c109_4; omega) | have fc109_4 : 1 < rv11.toInt := (by have := zt_ne (show rv11.toInt = _ from rfl) tI_1 c109_4; omega) | skip
        refine lv_iconst (v := 0) hx hb d_Truths_act_116 (by decide) ?_
        refine jc_ci (w := (fun u => u)) hK hP hD hS hA (va_runV (As := [.int 2, .int 0]) (rest := []) F (c_Stack_giveFlag l D T ad S (2 : Int32) (0 : Int32)  H.size ⟨i_vst, i_vc0, i_vc1, i_vc2, i_vc3, i_vv0, i_vv1, i_vv2, i_vv3, i_vg, i_wct, i_wln, i_sd0, i_sd1, i_sd2, i_sd3, i_rln, i_rtx, i_rpl, i_rtk, i_cnv, i_pts, i_cik, i_und⟩) (j_cV (k := 2) (C := "PageScribe$Stack") hts k_4_195 k_1_3 k_4_192 k_4_193 k_4_194 (by decide +kernel) ⟨Nat.le_of_ble_eq_true rfl, Nat.le_of_ble_eq_true rfl⟩) (j_preV (q0 := 1) (ci := 0) hK hP hD csc csc_all csc_nd cl_0 (ce_1 _ _ _) (fun _ _ _ _ h => h) (fun _ _ _ => trivial)) rfl rfl hl.1 rfl (lv_room (Nat.le_of_ble_eq_true rfl)) d_Truths_act_117 ⟨Nat.le_of_ble_eq_true rfl, Nat.le_of_ble_eq_true rfl⟩) (fun rv14 S11 H locs hw14 hP hD hS => ?_)
        have hP : va_P D classes (cW T ad S11) H := hP
        have hD : va_D A (cW T ad S11) := hD
        obtain ⟨⟨i_vst, i_vc0, i_vc1, i_vc2, i_vc3, i_vv0, i_vv1, i_vv2, i_vv3, i_vg, i_wct, i_wln, i_sd0, i_sd1, i_sd2, i_sd3, i_rln, i_rtx, i_rpl, i_rtk, i_cnv, i_pts, i_cik, i_und⟩, kpcL_S11, kpcP_S11, kpcU_S11, kpcW_S11⟩ := hw14
        have kScL_S11 : kcL S S11 := kcL_t (show kcL S S from (kcL_r S)) kpcL_S11
        have kScP_S11 : kcP S S11 := kcP_t (show kcP S S from (kcP_r S)) kpcP_S11
        have kScU_S11 : kcU S S11 := kcU_t (show kcU S S from (kcU_r S)) kpcU_S11
        have kScW_S11 : kcW S S11 := kcW_t (show kcW S S from (kcW_r S)) kpcW_S11
        have nxr_length_S11 : (f_xr_length S11).toInt = (f_xr_length S).toInt := congrArg Int32.toInt kpcL_S11
        have nxr_length_S11 : (f_xr_length S11).toInt = (f_xr_length S).toInt := congrArg Int32.toInt kpcP_S11.1
        have nxr_place_S11 : (f_xr_place S11).toInt = (f_xr_place S).toInt := congrArg Int32.toInt kpcP_S11.2.1
        have nxe_underWay_S11 : (f_xe_underWay S11).toInt = (f_xe_underWay S).toInt := congrArg Int32.toInt kpcU_S11
        have nxp_columns_S11 : (f_xp_columns S11).toInt = (f_xp_columns S).toInt := congrArg Int32.toInt kpcW_S11.1
        have nxp_rows_S11 : (f_xp_rows S11).toInt = (f_xp_rows S).toInt := congrArg Int32.toInt kpcW_S11.2
        have rrv14 := zt_rng rv14
        exact j_iret F hr hlocks hK hS S11 ⟨⟨i_vst, i_vc0, i_vc1, i_vc2, i_vc3, i_vv0, i_vv1, i_vv2, i_vv3, i_vg, i_wct, i_wln, i_sd0, i_sd1, i_sd2, i_sd3, i_rln, i_rtx, i_rpl, i_rtk, i_cnv, i_pts, i_cik, i_und⟩, kScL_S11, kScP_S11, kScU_S11, kScW_S11⟩ hP hD d_Truths_act_120
      · have fc109_4 : rv11.toInt = 1 := zt_eq (show rv11.toInt = _ from rfl) tI_1 c109_4
        refine lv_iconst (v := 1) hx hb d_Truths_act_112 (by decide) ?_
        refine lv_goto (tgt := 117) hx hb d_Truths_act_113 (by decide) ?_
        refine jc_ci (w := (fun u => u)) hK hP hD hS hA (va_runV (As := [.int 2, .int 1]) (rest := []) F (c_Stack_giveFlag l D T ad S (2 : Int32) (1 : Int32)  H.size ⟨i_vst, i_vc0, i_vc1, i_vc2, i_vc3, i_vv0, i_vv1, i_vv2, i_vv3, i_vg, i_wct, i_wln, i_sd0, i_sd1, i_sd2, i_sd3, i_rln, i_rtx, i_rpl, i_rtk, i_cnv, i_pts, i_cik, i_und⟩) (j_cV (k := 2) (C := "PageScribe$Stack") hts k_4_195 k_1_3 k_4_192 k_4_193 k_4_194 (by decide +kernel) ⟨Nat.le_of_ble_eq_true rfl, Nat.le_of_ble_eq_true rfl⟩) (j_preV (q0 := 1) (ci := 0) hK hP hD csc csc_all csc_nd cl_0 (ce_1 _ _ _) (fun _ _ _ _ h => h) (fun _ _ _ => trivial)) rfl rfl hl.1 rfl (lv_room (Nat.le_of_ble_eq_true rfl)) d_Truths_act_117 ⟨Nat.le_of_ble_eq_true rfl, Nat.le_of_ble_eq_true rfl⟩) (fun rv15 S12 H locs hw15 hP hD hS => ?_)
        have hP : va_P D classes (cW T ad S12) H := hP
        have hD : va_D A (cW T ad S12) := hD
        obtain ⟨⟨i_vst, i_vc0, i_vc1, i_vc2, i_vc3, i_vv0, i_vv1, i_vv2, i_vv3, i_vg, i_wct, i_wln, i_sd0, i_sd1, i_sd2, i_sd3, i_rln, i_rtx, i_rpl, i_rtk, i_cnv, i_pts, i_cik, i_und⟩, kpcL_S12, kpcP_S12, kpcU_S12, kpcW_S12⟩ := hw15
        have kScL_S12 : kcL S S12 := kcL_t (show kcL S S from (kcL_r S)) kpcL_S12
        have kScP_S12 : kcP S S12 := kcP_t (show kcP S S from (kcP_r S)) kpcP_S12
        have kScU_S12 : kcU S S12 := kcU_t (show kcU S S from (kcU_r S)) kpcU_S12
        have kScW_S12 : kcW S S12 := kcW_t (show kcW S S from (kcW_r S)) kpcW_S12
        have nxr_length_S12 : (f_xr_length S12).toInt = (f_xr_length S).toInt := congrArg Int32.toInt kpcL_S12
        have nxr_length_S12 : (f_xr_length S12).toInt = (f_xr_length S).toInt := congrArg Int32.toInt kpcP_S12.1
        have nxr_place_S12 : (f_xr_place S12).toInt = (f_xr_place S).toInt := congrArg Int32.toInt kpcP_S12.2.1
        have nxe_underWay_S12 : (f_xe_underWay S12).toInt = (f_xe_underWay S).toInt := congrArg Int32.toInt kpcU_S12
        have nxp_columns_S12 : (f_xp_columns S12).toInt = (f_xp_columns S).toInt := congrArg Int32.toInt kpcW_S12.1
        have nxp_rows_S12 : (f_xp_rows S12).toInt = (f_xp_rows S).toInt := congrArg Int32.toInt kpcW_S12.2
        have rrv15 := zt_rng rv15
        exact j_iret F hr hlocks hK hS S12 ⟨⟨i_vst, i_vc0, i_vc1, i_vc2, i_vc3, i_vv0, i_vv1, i_vv2, i_vv3, i_vg, i_wct, i_wln, i_sd0, i_sd1, i_sd2, i_sd3, i_rln, i_rtx, i_rpl, i_rtk, i_cnv, i_pts, i_cik, i_und⟩, kScL_S12, kScP_S12, kScU_S12, kScW_S12⟩ hP hD d_Truths_act_120
  by_cases h_23_1 : x1.toInt = 23
  · refine lv_tableIn (off := 113) (tgt := 121) hx hb d_Truths_act_8 (by omega) (by omega) (by rw [show x1.toInt = 23 from h_23_1]; decide +kernel) (by decide) ?_
    refine lv_aload_n hx hb d_Truths_act_121 rfl (lv_at hl 0 rfl) ?_
    refine lv_aload_n hx hb d_Truths_act_122 rfl (lv_at hl 1 rfl) ?_
    refine va_gets hx hb (v := .ref (g_en g 32)) (hEV.1 32 (by decide)).1.2 hS hown (hts _ k_4_196) (fun _ h9 => h9) d_Truths_act_123 ?_
    refine lv_acmp_ne (rx := some (g_en g op)) (ry := some (g_en g 32)) (tgt := 133) hx hb d_Truths_act_126 (by decide) (fun c126_1 => ?_) (fun c126_1 => ?_)
    · refine lv_iconst (v := 0) hx hb d_Truths_act_133 (by decide) ?_
      refine jc_ci (w := (fun u => u)) hK hP hD hS hA (va_runV (As := [.int 0]) (rest := []) F (c_Truths_join l D T ad S (0 : Int32)  H.size ⟨i_vst, i_vc0, i_vc1, i_vc2, i_vc3, i_vv0, i_vv1, i_vv2, i_vv3, i_vg, i_wct, i_wln, i_sd0, i_sd1, i_sd2, i_sd3, i_rln, i_rtx, i_rpl, i_rtk, i_cnv, i_pts, i_cik, i_und⟩) (j_cV (k := 1) (C := "PageScribe$Truths") hts k_4_201 k_1_11 k_4_198 k_4_200 k_0_34 (by decide +kernel) ⟨Nat.le_of_ble_eq_true rfl, Nat.le_of_ble_eq_true rfl⟩) (j_preV (q0 := 74) (ci := 9) hK hP hD csc csc_all csc_nd cl_9 (ce_74 _ _ _) (fun _ _ _ _ h => h) (fun _ _ _ => trivial)) rfl rfl hl.1 rfl (lv_room (Nat.le_of_ble_eq_true rfl)) d_Truths_act_134 ⟨Nat.le_of_ble_eq_true rfl, Nat.le_of_ble_eq_true rfl⟩) (fun rv16 S13 H locs hw16 hP hD hS => ?_)
      have hP : va_P D classes (cW T ad S13) H := hP
      have hD : va_D A (cW T ad S13) := hD
      obtain ⟨⟨i_vst, i_vc0, i_vc1, i_vc2, i_vc3, i_vv0, i_vv1, i_vv2, i_vv3, i_vg, i_wct, i_wln, i_sd0, i_sd1, i_sd2, i_sd3, i_rln, i_rtx, i_rpl, i_rtk, i_cnv, i_pts, i_cik, i_und⟩, kpcL_S13, kpcP_S13, kpcU_S13, kpcW_S13⟩ := hw16
      have kScL_S13 : kcL S S13 := kcL_t (show kcL S S from (kcL_r S)) kpcL_S13
      have kScP_S13 : kcP S S13 := kcP_t (show kcP S S from (kcP_r S)) kpcP_S13
      have kScU_S13 : kcU S S13 := kcU_t (show kcU S S from (kcU_r S)) kpcU_S13
      have kScW_S13 : kcW S S13 := kcW_t (show kcW S S from (kcW_r S)) kpcW_S13
      have nxr_length_S13 : (f_xr_length S13).toInt = (f_xr_length S).toInt := congrArg Int32.toInt kpcL_S13
      have nxr_length_S13 : (f_xr_length S13).toInt = (f_xr_length S).toInt := congrArg Int32.toInt kpcP_S13.1
      have nxr_place_S13 : (f_xr_place S13).toInt = (f_xr_place S).toInt := congrArg Int32.toInt kpcP_S13.2.1
      have nxe_underWay_S13 : (f_xe_underWay S13).toInt = (f_xe_underWay S).toInt := congrArg Int32.toInt kpcU_S13
      have nxp_columns_S13 : (f_xp_columns S13).toInt = (f_xp_columns S).toInt := congrArg Int32.toInt kpcW_S13.1
      have nxp_rows_S13 : (f_xp_rows S13).toInt = (f_xp_rows S).toInt := congrArg Int32.toInt kpcW_S13.2
      have rrv16 := zt_rng rv16
      exact j_iret F hr hlocks hK hS S13 ⟨⟨i_vst, i_vc0, i_vc1, i_vc2, i_vc3, i_vv0, i_vv1, i_vv2, i_vv3, i_vg, i_wct, i_wln, i_sd0, i_sd1, i_sd2, i_sd3, i_rln, i_rtx, i_rpl, i_rtk, i_cnv, i_pts, i_cik, i_und⟩, kScL_S13, kScP_S13, kScU_S13, kScW_S13⟩ hP hD d_Truths_act_137
    · refine lv_iconst (v := 1) hx hb d_Truths_act_129 (by decide) ?_
      refine lv_goto (tgt := 134) hx hb d_Truths_act_130 (by decide) ?_
      refine jc_ci (w := (fun u => u)) hK hP hD hS hA (va_runV (As := [.int 1]) (rest := []) F (c_Truths_join l D T ad S (1 : Int32)  H.size ⟨i_vst, i_vc0, i_vc1, i_vc2, i_vc3, i_vv0, i_vv1, i_vv2, i_vv3, i_vg, i_wct, i_wln, i_sd0, i_sd1, i_sd2, i_sd3, i_rln, i_rtx, i_rpl, i_rtk, i_cnv, i_pts, i_cik, i_und⟩) (j_cV (k := 1) (C := "PageScribe$Truths") hts k_4_201 k_1_11 k_4_198 k_4_200 k_0_34 (by decide +kernel) ⟨Nat.le_of_ble_eq_true rfl, Nat.le_of_ble_eq_true rfl⟩) (j_preV (q0 := 74) (ci := 9) hK hP hD csc csc_all csc_nd cl_9 (ce_74 _ _ _) (fun _ _ _ _ h => h) (fun _ _ _ => trivial)) rfl rfl hl.1 rfl (lv_room (Nat.le_of_ble_eq_true rfl)) d_Truths_act_134 ⟨Nat.le_of_ble_eq_true rfl, Nat.le_of_ble_eq_true rfl⟩) (fun rv17 S14 H locs hw17 hP hD hS => ?_)
      have hP : va_P D classes (cW T ad S14) H := hP
      have hD : va_D A (cW T ad S14) := hD
      obtain ⟨⟨i_vst, i_vc0, i_vc1, i_vc2, i_vc3, i_vv0, i_vv1, i_vv2, i_vv3, i_vg, i_wct, i_wln, i_sd0, i_sd1, i_sd2, i_sd3, i_rln, i_rtx, i_rpl, i_rtk, i_cnv, i_pts, i_cik, i_und⟩, kpcL_S14, kpcP_S14, kpcU_S14, kpcW_S14⟩ := hw17
      have kScL_S14 : kcL S S14 := kcL_t (show kcL S S from (kcL_r S)) kpcL_S14
      have kScP_S14 : kcP S S14 := kcP_t (show kcP S S from (kcP_r S)) kpcP_S14
      have kScU_S14 : kcU S S14 := kcU_t (show kcU S S from (kcU_r S)) kpcU_S14
      have kScW_S14 : kcW S S14 := kcW_t (show kcW S S from (kcW_r S)) kpcW_S14
      have nxr_length_S14 : (f_xr_length S14).toInt = (f_xr_length S).toInt := congrArg Int32.toInt kpcL_S14
      have nxr_length_S14 : (f_xr_length S14).toInt = (f_xr_length S).toInt := congrArg Int32.toInt kpcP_S14.1
      have nxr_place_S14 : (f_xr_place S14).toInt = (f_xr_place S).toInt := congrArg Int32.toInt kpcP_S14.2.1
      have nxe_underWay_S14 : (f_xe_underWay S14).toInt = (f_xe_underWay S).toInt := congrArg Int32.toInt kpcU_S14
      have nxp_columns_S14 : (f_xp_columns S14).toInt = (f_xp_columns S).toInt := congrArg Int32.toInt kpcW_S14.1
      have nxp_rows_S14 : (f_xp_rows S14).toInt = (f_xp_rows S).toInt := congrArg Int32.toInt kpcW_S14.2
      have rrv17 := zt_rng rv17
      exact j_iret F hr hlocks hK hS S14 ⟨⟨i_vst, i_vc0, i_vc1, i_vc2, i_vc3, i_vv0, i_vv1, i_vv2, i_vv3, i_vg, i_wct, i_wln, i_sd0, i_sd1, i_sd2, i_sd3, i_rln, i_rtx, i_rpl, i_rtk, i_cnv, i_pts, i_cik, i_und⟩, kScL_S14, kScP_S14, kScU_S14, kScW_S14⟩ hP hD d_Truths_act_137
  by_cases h_24_1 : x1.toInt = 24
  · refine lv_tableIn (off := 113) (tgt := 121) hx hb d_Truths_act_8 (by omega) (by omega) (by rw [show x1.toInt = 24 from h_24_1]; decide +kernel) (by decide) ?_
    refine lv_aload_n hx hb d_Truths_act_121 rfl (lv_at hl 0 rfl) ?_
    refine lv_aload_n hx hb d_Truths_act_122 rfl (lv_at hl 1 rfl) ?_
    refine va_gets hx hb (v := .ref (g_en g 32)) (hEV.1 32 (by decide)).1.2 hS hown (hts _ k_4_196) (fun _ h9 => h9) d_Truths_act_123 ?_
    refine lv_acmp_ne (rx := some (g_en g op)) (ry := some (g_en g 32)) (tgt := 133) hx hb d_Truths_act_126 (by decide) (fun c126_2 => ?_) (fun c126_2 => ?_)
    · refine lv_iconst (v := 0) hx hb d_Truths_act_133 (by decide) ?_
      refine jc_ci (w := (fun u => u)) hK hP hD hS hA (va_runV (As := [.int 0]) (rest := []) F (c_Truths_join l D T ad S (0 : Int32)  H.size ⟨i_vst, i_vc0, i_vc1, i_vc2, i_vc3, i_vv0, i_vv1, i_vv2, i_vv3, i_vg, i_wct, i_wln, i_sd0, i_sd1, i_sd2, i_sd3, i_rln, i_rtx, i_rpl, i_rtk, i_cnv, i_pts, i_cik, i_und⟩) (j_cV (k := 1) (C := "PageScribe$Truths") hts k_4_201 k_1_11 k_4_198 k_4_200 k_0_34 (by decide +kernel) ⟨Nat.le_of_ble_eq_true rfl, Nat.le_of_ble_eq_true rfl⟩) (j_preV (q0 := 74) (ci := 9) hK hP hD csc csc_all csc_nd cl_9 (ce_74 _ _ _) (fun _ _ _ _ h => h) (fun _ _ _ => trivial)) rfl rfl hl.1 rfl (lv_room (Nat.le_of_ble_eq_true rfl)) d_Truths_act_134 ⟨Nat.le_of_ble_eq_true rfl, Nat.le_of_ble_eq_true rfl⟩) (fun rv18 S15 H locs hw18 hP hD hS => ?_)
      have hP : va_P D classes (cW T ad S15) H := hP
      have hD : va_D A (cW T ad S15) := hD
      obtain ⟨⟨i_vst, i_vc0, i_vc1, i_vc2, i_vc3, i_vv0, i_vv1, i_vv2, i_vv3, i_vg, i_wct, i_wln, i_sd0, i_sd1, i_sd2, i_sd3, i_rln, i_rtx, i_rpl, i_rtk, i_cnv, i_pts, i_cik, i_und⟩, kpcL_S15, kpcP_S15, kpcU_S15, kpcW_S15⟩ := hw18
      have kScL_S15 : kcL S S15 := kcL_t (show kcL S S from (kcL_r S)) kpcL_S15
      have kScP_S15 : kcP S S15 := kcP_t (show kcP S S from (kcP_r S)) kpcP_S15
      have kScU_S15 : kcU S S15 := kcU_t (show kcU S S from (kcU_r S)) kpcU_S15
      have kScW_S15 : kcW S S15 := kcW_t (show kcW S S from (kcW_r S)) kpcW_S15
      have nxr_length_S15 : (f_xr_length S15).toInt = (f_xr_length S).toInt := congrArg Int32.toInt kpcL_S15
      have nxr_length_S15 : (f_xr_length S15).toInt = (f_xr_length S).toInt := congrArg Int32.toInt kpcP_S15.1
      have nxr_place_S15 : (f_xr_place S15).toInt = (f_xr_place S).toInt := congrArg Int32.toInt kpcP_S15.2.1
      have nxe_underWay_S15 : (f_xe_underWay S15).toInt = (f_xe_underWay S).toInt := congrArg Int32.toInt kpcU_S15
      have nxp_columns_S15 : (f_xp_columns S15).toInt = (f_xp_columns S).toInt := congrArg Int32.toInt kpcW_S15.1
      have nxp_rows_S15 : (f_xp_rows S15).toInt = (f_xp_rows S).toInt := congrArg Int32.toInt kpcW_S15.2
      have rrv18 := zt_rng rv18
      exact j_iret F hr hlocks hK hS S15 ⟨⟨i_vst, i_vc0, i_vc1, i_vc2, i_vc3, i_vv0, i_vv1, i_vv2, i_vv3, i_vg, i_wct, i_wln, i_sd0, i_sd1, i_sd2, i_sd3, i_rln, i_rtx, i_rpl, i_rtk, i_cnv, i_pts, i_cik, i_und⟩, kScL_S15, kScP_S15, kScU_S15, kScW_S15⟩ hP hD d_Truths_act_137
    · refine lv_iconst (v := 1) hx hb d_Truths_act_129 (by decide) ?_
      refine lv_goto (tgt := 134) hx hb d_Truths_act_130 (by decide) ?_
      refine jc_ci (w := (fun u => u)) hK hP hD hS hA (va_runV (As := [.int 1]) (rest := []) F (c_Truths_join l D T ad S (1 : Int32)  H.size ⟨i_vst, i_vc0, i_vc1, i_vc2, i_vc3, i_vv0, i_vv1, i_vv2, i_vv3, i_vg, i_wct, i_wln, i_sd0, i_sd1, i_sd2, i_sd3, i_rln, i_rtx, i_rpl, i_rtk, i_cnv, i_pts, i_cik, i_und⟩) (j_cV (k := 1) (C := "PageScribe$Truths") hts k_4_201 k_1_11 k_4_198 k_4_200 k_0_34 (by decide +kernel) ⟨Nat.le_of_ble_eq_true rfl, Nat.le_of_ble_eq_true rfl⟩) (j_preV (q0 := 74) (ci := 9) hK hP hD csc csc_all csc_nd cl_9 (ce_74 _ _ _) (fun _ _ _ _ h => h) (fun _ _ _ => trivial)) rfl rfl hl.1 rfl (lv_room (Nat.le_of_ble_eq_true rfl)) d_Truths_act_134 ⟨Nat.le_of_ble_eq_true rfl, Nat.le_of_ble_eq_true rfl⟩) (fun rv19 S16 H locs hw19 hP hD hS => ?_)
      have hP : va_P D classes (cW T ad S16) H := hP
      have hD : va_D A (cW T ad S16) := hD
      obtain ⟨⟨i_vst, i_vc0, i_vc1, i_vc2, i_vc3, i_vv0, i_vv1, i_vv2, i_vv3, i_vg, i_wct, i_wln, i_sd0, i_sd1, i_sd2, i_sd3, i_rln, i_rtx, i_rpl, i_rtk, i_cnv, i_pts, i_cik, i_und⟩, kpcL_S16, kpcP_S16, kpcU_S16, kpcW_S16⟩ := hw19
      have kScL_S16 : kcL S S16 := kcL_t (show kcL S S from (kcL_r S)) kpcL_S16
      have kScP_S16 : kcP S S16 := kcP_t (show kcP S S from (kcP_r S)) kpcP_S16
      have kScU_S16 : kcU S S16 := kcU_t (show kcU S S from (kcU_r S)) kpcU_S16
      have kScW_S16 : kcW S S16 := kcW_t (show kcW S S from (kcW_r S)) kpcW_S16
      have nxr_length_S16 : (f_xr_length S16).toInt = (f_xr_length S).toInt := congrArg Int32.toInt kpcL_S16
      have nxr_length_S16 : (f_xr_length S16).toInt = (f_xr_length S).toInt := congrArg Int32.toInt kpcP_S16.1
      have nxr_place_S16 : (f_xr_place S16).toInt = (f_xr_place S).toInt := congrArg Int32.toInt kpcP_S16.2.1
      have nxe_underWay_S16 : (f_xe_underWay S16).toInt = (f_xe_underWay S).toInt := congrArg Int32.toInt kpcU_S16
      have nxp_columns_S16 : (f_xp_columns S16).toInt = (f_xp_columns S).toInt := congrArg Int32.toInt kpcW_S16.1
      have nxp_rows_S16 : (f_xp_rows S16).toInt = (f_xp_rows S).toInt := congrArg Int32.toInt kpcW_S16.2
      have rrv19 := zt_rng rv19
      exact j_iret F hr hlocks hK hS S16 ⟨⟨i_vst, i_vc0, i_vc1, i_vc2, i_vc3, i_vv0, i_vv1, i_vv2, i_vv3, i_vg, i_wct, i_wln, i_sd0, i_sd1, i_sd2, i_sd3, i_rln, i_rtx, i_rpl, i_rtk, i_cnv, i_pts, i_cik, i_und⟩, kScL_S16, kScP_S16, kScU_S16, kScW_S16⟩ hP hD d_Truths_act_137
  by_cases h_25_1 : x1.toInt = 25
  · refine lv_tableIn (off := 130) (tgt := 138) hx hb d_Truths_act_8 (by omega) (by omega) (by rw [show x1.toInt = 25 from h_25_1]; decide +kernel) (by decide) ?_
    refine lv_aload_n hx hb d_Truths_act_138 rfl (lv_at hl 0 rfl) ?_
    refine jc_ci (w := (fun u => u)) hK hP hD hS hA (va_runV (As := []) (rest := []) F (c_Truths_turnRound l D T ad S  H.size ⟨i_vst, i_vc0, i_vc1, i_vc2, i_vc3, i_vv0, i_vv1, i_vv2, i_vv3, i_vg, i_wct, i_wln, i_sd0, i_sd1, i_sd2, i_sd3, i_rln, i_rtx, i_rpl, i_rtk, i_cnv, i_pts, i_cik, i_und⟩) (j_cV (k := 0) (C := "PageScribe$Truths") hts k_4_207 k_1_11 k_4_204 k_4_206 k_0_35 (by decide +kernel) ⟨Nat.le_of_ble_eq_true rfl, Nat.le_of_ble_eq_true rfl⟩) (j_preV (q0 := 74) (ci := 9) hK hP hD csc csc_all csc_nd cl_9 (ce_74 _ _ _) (fun _ _ _ _ h => h) (fun _ _ _ => trivial)) rfl rfl hl.1 rfl (lv_room (Nat.le_of_ble_eq_true rfl)) d_Truths_act_139 ⟨Nat.le_of_ble_eq_true rfl, Nat.le_of_ble_eq_true rfl⟩) (fun rv20 S17 H locs hw20 hP hD hS => ?_)
    have hP : va_P D classes (cW T ad S17) H := hP
    have hD : va_D A (cW T ad S17) := hD
    obtain ⟨⟨i_vst, i_vc0, i_vc1, i_vc2, i_vc3, i_vv0, i_vv1, i_vv2, i_vv3, i_vg, i_wct, i_wln, i_sd0, i_sd1, i_sd2, i_sd3, i_rln, i_rtx, i_rpl, i_rtk, i_cnv, i_pts, i_cik, i_und⟩, kpcL_S17, kpcP_S17, kpcU_S17, kpcW_S17⟩ := hw20
    have kScL_S17 : kcL S S17 := kcL_t (show kcL S S from (kcL_r S)) kpcL_S17
    have kScP_S17 : kcP S S17 := kcP_t (show kcP S S from (kcP_r S)) kpcP_S17
    have kScU_S17 : kcU S S17 := kcU_t (show kcU S S from (kcU_r S)) kpcU_S17
    have kScW_S17 : kcW S S17 := kcW_t (show kcW S S from (kcW_r S)) kpcW_S17
    have nxr_length_S17 : (f_xr_length S17).toInt = (f_xr_length S).toInt := congrArg Int32.toInt kpcL_S17
    have nxr_length_S17 : (f_xr_length S17).toInt = (f_xr_length S).toInt := congrArg Int32.toInt kpcP_S17.1
    have nxr_place_S17 : (f_xr_place S17).toInt = (f_xr_place S).toInt := congrArg Int32.toInt kpcP_S17.2.1
    have nxe_underWay_S17 : (f_xe_underWay S17).toInt = (f_xe_underWay S).toInt := congrArg Int32.toInt kpcU_S17
    have nxp_columns_S17 : (f_xp_columns S17).toInt = (f_xp_columns S).toInt := congrArg Int32.toInt kpcW_S17.1
    have nxp_rows_S17 : (f_xp_rows S17).toInt = (f_xp_rows S).toInt := congrArg Int32.toInt kpcW_S17.2
    have rrv20 := zt_rng rv20
    exact j_iret F hr hlocks hK hS S17 ⟨⟨i_vst, i_vc0, i_vc1, i_vc2, i_vc3, i_vv0, i_vv1, i_vv2, i_vv3, i_vg, i_wct, i_wln, i_sd0, i_sd1, i_sd2, i_sd3, i_rln, i_rtx, i_rpl, i_rtk, i_cnv, i_pts, i_cik, i_und⟩, kScL_S17, kScP_S17, kScU_S17, kScW_S17⟩ hP hD d_Truths_act_142
  by_cases h_26_1 : x1.toInt = 26
  · refine lv_tableIn (off := 135) (tgt := 143) hx hb d_Truths_act_8 (by omega) (by omega) (by rw [show x1.toInt = 26 from h_26_1]; decide +kernel) (by decide) ?_
    refine lv_aload_n hx hb d_Truths_act_143 rfl (lv_at hl 0 rfl) ?_
    refine lv_aload_n hx hb d_Truths_act_144 rfl (lv_at hl 1 rfl) ?_
    refine va_gets hx hb (v := .ref (g_en g 35)) (hEV.1 35 (by decide)).1.2 hS hown (hts _ k_4_209) (fun _ h9 => h9) d_Truths_act_145 ?_
    refine lv_acmp_ne (rx := some (g_en g op)) (ry := some (g_en g 35)) (tgt := 155) hx hb d_Truths_act_148 (by decide) (fun c148_1 => ?_) (fun c148_1 => ?_)
    · refine lv_iconst (v := 0) hx hb d_Truths_act_155 (by decide) ?_
      refine jc_ci (w := (fun u => u)) hK hP hD hS hA (va_runV (As := [.int 0]) (rest := []) F (c_Truths_setLive l D T ad S (0 : Int32)  H.size ⟨i_vst, i_vc0, i_vc1, i_vc2, i_vc3, i_vv0, i_vv1, i_vv2, i_vv3, i_vg, i_wct, i_wln, i_sd0, i_sd1, i_sd2, i_sd3, i_rln, i_rtx, i_rpl, i_rtk, i_cnv, i_pts, i_cik, i_und⟩) (j_cV (k := 1) (C := "PageScribe$Truths") hts k_4_214 k_1_11 k_4_211 k_4_213 k_0_36 (by decide +kernel) ⟨Nat.le_of_ble_eq_true rfl, Nat.le_of_ble_eq_true rfl⟩) (j_preV (q0 := 74) (ci := 9) hK hP hD csc csc_all csc_nd cl_9 (ce_74 _ _ _) (fun _ _ _ _ h => h) (fun _ _ _ => trivial)) rfl rfl hl.1 rfl (lv_room (Nat.le_of_ble_eq_true rfl)) d_Truths_act_156 ⟨Nat.le_of_ble_eq_true rfl, Nat.le_of_ble_eq_true rfl⟩) (fun rv21 S18 H locs hw21 hP hD hS => ?_)
      have hP : va_P D classes (cW T ad S18) H := hP
      have hD : va_D A (cW T ad S18) := hD
      obtain ⟨⟨i_vst, i_vc0, i_vc1, i_vc2, i_vc3, i_vv0, i_vv1, i_vv2, i_vv3, i_vg, i_wct, i_wln, i_sd0, i_sd1, i_sd2, i_sd3, i_rln, i_rtx, i_rpl, i_rtk, i_cnv, i_pts, i_cik, i_und⟩, kpcL_S18, kpcP_S18, kpcU_S18, kpcW_S18⟩ := hw21
      have kScL_S18 : kcL S S18 := kcL_t (show kcL S S from (kcL_r S)) kpcL_S18
      have kScP_S18 : kcP S S18 := kcP_t (show kcP S S from (kcP_r S)) kpcP_S18
      have kScU_S18 : kcU S S18 := kcU_t (show kcU S S from (kcU_r S)) kpcU_S18
      have kScW_S18 : kcW S S18 := kcW_t (show kcW S S from (kcW_r S)) kpcW_S18
      have nxr_length_S18 : (f_xr_length S18).toInt = (f_xr_length S).toInt := congrArg Int32.toInt kpcL_S18
      have nxr_length_S18 : (f_xr_length S18).toInt = (f_xr_length S).toInt := congrArg Int32.toInt kpcP_S18.1
      have nxr_place_S18 : (f_xr_place S18).toInt = (f_xr_place S).toInt := congrArg Int32.toInt kpcP_S18.2.1
      have nxe_underWay_S18 : (f_xe_underWay S18).toInt = (f_xe_underWay S).toInt := congrArg Int32.toInt kpcU_S18
      have nxp_columns_S18 : (f_xp_columns S18).toInt = (f_xp_columns S).toInt := congrArg Int32.toInt kpcW_S18.1
      have nxp_rows_S18 : (f_xp_rows S18).toInt = (f_xp_rows S).toInt := congrArg Int32.toInt kpcW_S18.2
      have rrv21 := zt_rng rv21
      exact j_iret F hr hlocks hK hS S18 ⟨⟨i_vst, i_vc0, i_vc1, i_vc2, i_vc3, i_vv0, i_vv1, i_vv2, i_vv3, i_vg, i_wct, i_wln, i_sd0, i_sd1, i_sd2, i_sd3, i_rln, i_rtx, i_rpl, i_rtk, i_cnv, i_pts, i_cik, i_und⟩, kScL_S18, kScP_S18, kScU_S18, kScW_S18⟩ hP hD d_Truths_act_159
    · refine lv_iconst (v := 1) hx hb d_Truths_act_151 (by decide) ?_
      refine lv_goto (tgt := 156) hx hb d_Truths_act_152 (by decide) ?_
      refine jc_ci (w := (fun u => u)) hK hP hD hS hA (va_runV (As := [.int 1]) (rest := []) F (c_Truths_setLive l D T ad S (1 : Int32)  H.size ⟨i_vst, i_vc0, i_vc1, i_vc2, i_vc3, i_vv0, i_vv1, i_vv2, i_vv3, i_vg, i_wct, i_wln, i_sd0, i_sd1, i_sd2, i_sd3, i_rln, i_rtx, i_rpl, i_rtk, i_cnv, i_pts, i_cik, i_und⟩) (j_cV (k := 1) (C := "PageScribe$Truths") hts k_4_214 k_1_11 k_4_211 k_4_213 k_0_36 (by decide +kernel) ⟨Nat.le_of_ble_eq_true rfl, Nat.le_of_ble_eq_true rfl⟩) (j_preV (q0 := 74) (ci := 9) hK hP hD csc csc_all csc_nd cl_9 (ce_74 _ _ _) (fun _ _ _ _ h => h) (fun _ _ _ => trivial)) rfl rfl hl.1 rfl (lv_room (Nat.le_of_ble_eq_true rfl)) d_Truths_act_156 ⟨Nat.le_of_ble_eq_true rfl, Nat.le_of_ble_eq_true rfl⟩) (fun rv22 S19 H locs hw22 hP hD hS => ?_)
      have hP : va_P D classes (cW T ad S19) H := hP
      have hD : va_D A (cW T ad S19) := hD
      obtain ⟨⟨i_vst, i_vc0, i_vc1, i_vc2, i_vc3, i_vv0, i_vv1, i_vv2, i_vv3, i_vg, i_wct, i_wln, i_sd0, i_sd1, i_sd2, i_sd3, i_rln, i_rtx, i_rpl, i_rtk, i_cnv, i_pts, i_cik, i_und⟩, kpcL_S19, kpcP_S19, kpcU_S19, kpcW_S19⟩ := hw22
      have kScL_S19 : kcL S S19 := kcL_t (show kcL S S from (kcL_r S)) kpcL_S19
      have kScP_S19 : kcP S S19 := kcP_t (show kcP S S from (kcP_r S)) kpcP_S19
      have kScU_S19 : kcU S S19 := kcU_t (show kcU S S from (kcU_r S)) kpcU_S19
      have kScW_S19 : kcW S S19 := kcW_t (show kcW S S from (kcW_r S)) kpcW_S19
      have nxr_length_S19 : (f_xr_length S19).toInt = (f_xr_length S).toInt := congrArg Int32.toInt kpcL_S19
      have nxr_length_S19 : (f_xr_length S19).toInt = (f_xr_length S).toInt := congrArg Int32.toInt kpcP_S19.1
      have nxr_place_S19 : (f_xr_place S19).toInt = (f_xr_place S).toInt := congrArg Int32.toInt kpcP_S19.2.1
      have nxe_underWay_S19 : (f_xe_underWay S19).toInt = (f_xe_underWay S).toInt := congrArg Int32.toInt kpcU_S19
      have nxp_columns_S19 : (f_xp_columns S19).toInt = (f_xp_columns S).toInt := congrArg Int32.toInt kpcW_S19.1
      have nxp_rows_S19 : (f_xp_rows S19).toInt = (f_xp_rows S).toInt := congrArg Int32.toInt kpcW_S19.2
      have rrv22 := zt_rng rv22
      exact j_iret F hr hlocks hK hS S19 ⟨⟨i_vst, i_vc0, i_vc1, i_vc2, i_vc3, i_vv0, i_vv1, i_vv2, i_vv3, i_vg, i_wct, i_wln, i_sd0, i_sd1, i_sd2, i_sd3, i_rln, i_rtx, i_rpl, i_rtk, i_cnv, i_pts, i_cik, i_und⟩, kScL_S19, kScP_S19, kScU_S19, kScW_S19⟩ hP hD d_Truths_act_159
  by_cases h_27_1 : x1.toInt = 27
  · refine lv_tableIn (off := 135) (tgt := 143) hx hb d_Truths_act_8 (by omega) (by omega) (by rw [show x1.toInt = 27 from h_27_1]; decide +kernel) (by decide) ?_
    refine lv_aload_n hx hb d_Truths_act_143 rfl (lv_at hl 0 rfl) ?_
    refine lv_aload_n hx hb d_Truths_act_144 rfl (lv_at hl 1 rfl) ?_
    refine va_gets hx hb (v := .ref (g_en g 35)) (hEV.1 35 (by decide)).1.2 hS hown (hts _ k_4_209) (fun _ h9 => h9) d_Truths_act_145 ?_
    refine lv_acmp_ne (rx := some (g_en g op)) (ry := some (g_en g 35)) (tgt := 155) hx hb d_Truths_act_148 (by decide) (fun c148_2 => ?_) (fun c148_2 => ?_)
    · refine lv_iconst (v := 0) hx hb d_Truths_act_155 (by decide) ?_
      refine jc_ci (w := (fun u => u)) hK hP hD hS hA (va_runV (As := [.int 0]) (rest := []) F (c_Truths_setLive l D T ad S (0 : Int32)  H.size ⟨i_vst, i_vc0, i_vc1, i_vc2, i_vc3, i_vv0, i_vv1, i_vv2, i_vv3, i_vg, i_wct, i_wln, i_sd0, i_sd1, i_sd2, i_sd3, i_rln, i_rtx, i_rpl, i_rtk, i_cnv, i_pts, i_cik, i_und⟩) (j_cV (k := 1) (C := "PageScribe$Truths") hts k_4_214 k_1_11 k_4_211 k_4_213 k_0_36 (by decide +kernel) ⟨Nat.le_of_ble_eq_true rfl, Nat.le_of_ble_eq_true rfl⟩) (j_preV (q0 := 74) (ci := 9) hK hP hD csc csc_all csc_nd cl_9 (ce_74 _ _ _) (fun _ _ _ _ h => h) (fun _ _ _ => trivial)) rfl rfl hl.1 rfl (lv_room (Nat.le_of_ble_eq_true rfl)) d_Truths_act_156 ⟨Nat.le_of_ble_eq_true rfl, Nat.le_of_ble_eq_true rfl⟩) (fun rv23 S20 H locs hw23 hP hD hS => ?_)
      have hP : va_P D classes (cW T ad S20) H := hP
      have hD : va_D A (cW T ad S20) := hD
      obtain ⟨⟨i_vst, i_vc0, i_vc1, i_vc2, i_vc3, i_vv0, i_vv1, i_vv2, i_vv3, i_vg, i_wct, i_wln, i_sd0, i_sd1, i_sd2, i_sd3, i_rln, i_rtx, i_rpl, i_rtk, i_cnv, i_pts, i_cik, i_und⟩, kpcL_S20, kpcP_S20, kpcU_S20, kpcW_S20⟩ := hw23
      have kScL_S20 : kcL S S20 := kcL_t (show kcL S S from (kcL_r S)) kpcL_S20
      have kScP_S20 : kcP S S20 := kcP_t (show kcP S S from (kcP_r S)) kpcP_S20
      have kScU_S20 : kcU S S20 := kcU_t (show kcU S S from (kcU_r S)) kpcU_S20
      have kScW_S20 : kcW S S20 := kcW_t (show kcW S S from (kcW_r S)) kpcW_S20
      have nxr_length_S20 : (f_xr_length S20).toInt = (f_xr_length S).toInt := congrArg Int32.toInt kpcL_S20
      have nxr_length_S20 : (f_xr_length S20).toInt = (f_xr_length S).toInt := congrArg Int32.toInt kpcP_S20.1
      have nxr_place_S20 : (f_xr_place S20).toInt = (f_xr_place S).toInt := congrArg Int32.toInt kpcP_S20.2.1
      have nxe_underWay_S20 : (f_xe_underWay S20).toInt = (f_xe_underWay S).toInt := congrArg Int32.toInt kpcU_S20
      have nxp_columns_S20 : (f_xp_columns S20).toInt = (f_xp_columns S).toInt := congrArg Int32.toInt kpcW_S20.1
      have nxp_rows_S20 : (f_xp_rows S20).toInt = (f_xp_rows S).toInt := congrArg Int32.toInt kpcW_S20.2
      have rrv23 := zt_rng rv23
      exact j_iret F hr hlocks hK hS S20 ⟨⟨i_vst, i_vc0, i_vc1, i_vc2, i_vc3, i_vv0, i_vv1, i_vv2, i_vv3, i_vg, i_wct, i_wln, i_sd0, i_sd1, i_sd2, i_sd3, i_rln, i_rtx, i_rpl, i_rtk, i_cnv, i_pts, i_cik, i_und⟩, kScL_S20, kScP_S20, kScU_S20, kScW_S20⟩ hP hD d_Truths_act_159
    · refine lv_iconst (v := 1) hx hb d_Truths_act_151 (by decide) ?_
      refine lv_goto (tgt := 156) hx hb d_Truths_act_152 (by decide) ?_
      refine jc_ci (w := (fun u => u)) hK hP hD hS hA (va_runV (As := [.int 1]) (rest := []) F (c_Truths_setLive l D T ad S (1 : Int32)  H.size ⟨i_vst, i_vc0, i_vc1, i_vc2, i_vc3, i_vv0, i_vv1, i_vv2, i_vv3, i_vg, i_wct, i_wln, i_sd0, i_sd1, i_sd2, i_sd3, i_rln, i_rtx, i_rpl, i_rtk, i_cnv, i_pts, i_cik, i_und⟩) (j_cV (k := 1) (C := "PageScribe$Truths") hts k_4_214 k_1_11 k_4_211 k_4_213 k_0_36 (by decide +kernel) ⟨Nat.le_of_ble_eq_true rfl, Nat.le_of_ble_eq_true rfl⟩) (j_preV (q0 := 74) (ci := 9) hK hP hD csc csc_all csc_nd cl_9 (ce_74 _ _ _) (fun _ _ _ _ h => h) (fun _ _ _ => trivial)) rfl rfl hl.1 rfl (lv_room (Nat.le_of_ble_eq_true rfl)) d_Truths_act_156 ⟨Nat.le_of_ble_eq_true rfl, Nat.le_of_ble_eq_true rfl⟩) (fun rv24 S21 H locs hw24 hP hD hS => ?_)
      have hP : va_P D classes (cW T ad S21) H := hP
      have hD : va_D A (cW T ad S21) := hD
      obtain ⟨⟨i_vst, i_vc0, i_vc1, i_vc2, i_vc3, i_vv0, i_vv1, i_vv2, i_vv3, i_vg, i_wct, i_wln, i_sd0, i_sd1, i_sd2, i_sd3, i_rln, i_rtx, i_rpl, i_rtk, i_cnv, i_pts, i_cik, i_und⟩, kpcL_S21, kpcP_S21, kpcU_S21, kpcW_S21⟩ := hw24
      have kScL_S21 : kcL S S21 := kcL_t (show kcL S S from (kcL_r S)) kpcL_S21
      have kScP_S21 : kcP S S21 := kcP_t (show kcP S S from (kcP_r S)) kpcP_S21
      have kScU_S21 : kcU S S21 := kcU_t (show kcU S S from (kcU_r S)) kpcU_S21
      have kScW_S21 : kcW S S21 := kcW_t (show kcW S S from (kcW_r S)) kpcW_S21
      have nxr_length_S21 : (f_xr_length S21).toInt = (f_xr_length S).toInt := congrArg Int32.toInt kpcL_S21
      have nxr_length_S21 : (f_xr_length S21).toInt = (f_xr_length S).toInt := congrArg Int32.toInt kpcP_S21.1
      have nxr_place_S21 : (f_xr_place S21).toInt = (f_xr_place S).toInt := congrArg Int32.toInt kpcP_S21.2.1
      have nxe_underWay_S21 : (f_xe_underWay S21).toInt = (f_xe_underWay S).toInt := congrArg Int32.toInt kpcU_S21
      have nxp_columns_S21 : (f_xp_columns S21).toInt = (f_xp_columns S).toInt := congrArg Int32.toInt kpcW_S21.1
      have nxp_rows_S21 : (f_xp_rows S21).toInt = (f_xp_rows S).toInt := congrArg Int32.toInt kpcW_S21.2
      have rrv24 := zt_rng rv24
      exact j_iret F hr hlocks hK hS S21 ⟨⟨i_vst, i_vc0, i_vc1, i_vc2, i_vc3, i_vv0, i_vv1, i_vv2, i_vv3, i_vg, i_wct, i_wln, i_sd0, i_sd1, i_sd2, i_sd3, i_rln, i_rtx, i_rpl, i_rtk, i_cnv, i_pts, i_cik, i_und⟩, kScL_S21, kScP_S21, kScU_S21, kScW_S21⟩ hP hD d_Truths_act_159
  by_cases h_28_1 : x1.toInt = 28
  · refine lv_tableIn (off := 152) (tgt := 160) hx hb d_Truths_act_8 (by omega) (by omega) (by rw [show x1.toInt = 28 from h_28_1]; decide +kernel) (by decide) ?_
    refine lv_aload_n hx hb d_Truths_act_160 rfl (lv_at hl 0 rfl) ?_
    refine va_get (D := D) (ci := 9) (v := .ref (ad 1)) (C := "PageScribe$Truths") (T := F_Truths) (N := 1) hx hb hts i_Truths hown hK hP 74 (ce_74 _ _ _) cl_9 0 (by decide) (hts _ k_2_18) (fun _ h9 => h9) rfl d_Truths_act_161 ?_
    refine lv_iconst (v := 1) hx hb d_Truths_act_164 (by decide) ?_
    refine lv_aload_n hx hb d_Truths_act_165 rfl (lv_at hl 0 rfl) ?_
    refine va_get (D := D) (ci := 9) (v := .ref (ad 1)) (C := "PageScribe$Truths") (T := F_Truths) (N := 1) hx hb hts i_Truths hown hK hP 74 (ce_74 _ _ _) cl_9 0 (by decide) (hts _ k_2_18) (fun _ h9 => h9) rfl d_Truths_act_166 ?_
    refine lv_iconst (v := 0) hx hb d_Truths_act_169 (by decide) ?_
    refine jc_ci (w := (fun _ => S)) hK hP hD hS hA (va_runV (As := [.int 0]) (rest := [.int 1, .ref (ad 1)]) F (c_Stack_kindDown l D T ad S (0 : Int32)  H.size) (j_cV (k := 1) (C := "PageScribe$Stack") hts k_2_120 k_1_3 k_4_184 k_2_118 k_2_119 (by decide +kernel) ⟨Nat.le_of_ble_eq_true rfl, Nat.le_of_ble_eq_true rfl⟩) (j_preV (q0 := 1) (ci := 0) hK hP hD csc csc_all csc_nd cl_0 (ce_1 _ _ _) (fun _ _ _ _ h => h) (fun _ _ _ => trivial)) rfl rfl hl.1 rfl (lv_room (Nat.le_of_ble_eq_true rfl)) d_Truths_act_170 ⟨Nat.le_of_ble_eq_true rfl, Nat.le_of_ble_eq_true rfl⟩) (fun rv25 u4 H locs hw25 hP hD hS => ?_)
    have hP : va_P D classes (cW T ad S) H := hP
    have hD : va_D A (cW T ad S) := hD
    have rrv25 := zt_rng rv25
    refine lv_bipush (v := 8) hx hb d_Truths_act_173 (by decide) ?_
    refine lv_icmp_lt (tgt := 182) hx hb d_Truths_act_175 (by decide) (fun c175_1 => ?_) (fun c175_1 => ?_)
    · have fc175_1 : rv25.toInt < 8 := zt_lt (show rv25.toInt = _ from rfl) tI_8 c175_1
      refine lv_iconst (v := 0) hx hb d_Truths_act_182 (by decide) ?_
      refine jc_ci (w := (fun u => u)) hK hP hD hS hA (va_runV (As := [.int 1, .int 0]) (rest := []) F (c_Stack_giveFlag l D T ad S (1 : Int32) (0 : Int32)  H.size ⟨i_vst, i_vc0, i_vc1, i_vc2, i_vc3, i_vv0, i_vv1, i_vv2, i_vv3, i_vg, i_wct, i_wln, i_sd0, i_sd1, i_sd2, i_sd3, i_rln, i_rtx, i_rpl, i_rtk, i_cnv, i_pts, i_cik, i_und⟩) (j_cV (k := 2) (C := "PageScribe$Stack") hts k_4_195 k_1_3 k_4_192 k_4_193 k_4_194 (by decide +kernel) ⟨Nat.le_of_ble_eq_true rfl, Nat.le_of_ble_eq_true rfl⟩) (j_preV (q0 := 1) (ci := 0) hK hP hD csc csc_all csc_nd cl_0 (ce_1 _ _ _) (fun _ _ _ _ h => h) (fun _ _ _ => trivial)) rfl rfl hl.1 rfl (lv_room (Nat.le_of_ble_eq_true rfl)) d_Truths_act_183 ⟨Nat.le_of_ble_eq_true rfl, Nat.le_of_ble_eq_true rfl⟩) (fun rv26 S22 H locs hw26 hP hD hS => ?_)
      have hP : va_P D classes (cW T ad S22) H := hP
      have hD : va_D A (cW T ad S22) := hD
      obtain ⟨⟨i_vst, i_vc0, i_vc1, i_vc2, i_vc3, i_vv0, i_vv1, i_vv2, i_vv3, i_vg, i_wct, i_wln, i_sd0, i_sd1, i_sd2, i_sd3, i_rln, i_rtx, i_rpl, i_rtk, i_cnv, i_pts, i_cik, i_und⟩, kpcL_S22, kpcP_S22, kpcU_S22, kpcW_S22⟩ := hw26
      have kScL_S22 : kcL S S22 := kcL_t (show kcL S S from (kcL_r S)) kpcL_S22
      have kScP_S22 : kcP S S22 := kcP_t (show kcP S S from (kcP_r S)) kpcP_S22
      have kScU_S22 : kcU S S22 := kcU_t (show kcU S S from (kcU_r S)) kpcU_S22
      have kScW_S22 : kcW S S22 := kcW_t (show kcW S S from (kcW_r S)) kpcW_S22
      have nxr_length_S22 : (f_xr_length S22).toInt = (f_xr_length S).toInt := congrArg Int32.toInt kpcL_S22
      have nxr_length_S22 : (f_xr_length S22).toInt = (f_xr_length S).toInt := congrArg Int32.toInt kpcP_S22.1
      have nxr_place_S22 : (f_xr_place S22).toInt = (f_xr_place S).toInt := congrArg Int32.toInt kpcP_S22.2.1
      have nxe_underWay_S22 : (f_xe_underWay S22).toInt = (f_xe_underWay S).toInt := congrArg Int32.toInt kpcU_S22
      have nxp_columns_S22 : (f_xp_columns S22).toInt = (f_xp_columns S).toInt := congrArg Int32.toInt kpcW_S22.1
      have nxp_rows_S22 : (f_xp_rows S22).toInt = (f_xp_rows S).toInt := congrArg Int32.toInt kpcW_S22.2
      have rrv26 := zt_rng rv26
      exact j_iret F hr hlocks hK hS S22 ⟨⟨i_vst, i_vc0, i_vc1, i_vc2, i_vc3, i_vv0, i_vv1, i_vv2, i_vv3, i_vg, i_wct, i_wln, i_sd0, i_sd1, i_sd2, i_sd3, i_rln, i_rtx, i_rpl, i_rtk, i_cnv, i_pts, i_cik, i_und⟩, kScL_S22, kScP_S22, kScU_S22, kScW_S22⟩ hP hD d_Truths_act_186
    · have fc175_1 : 8 ≤ rv25.toInt := Int.not_lt.mp (zt_nlt (show rv25.toInt = _ from rfl) tI_8 c175_1)
      refine lv_iconst (v := 1) hx hb d_Truths_act_178 (by decide) ?_
      refine lv_goto (tgt := 183) hx hb d_Truths_act_179 (by decide) ?_
      refine jc_ci (w := (fun u => u)) hK hP hD hS hA (va_runV (As := [.int 1, .int 1]) (rest := []) F (c_Stack_giveFlag l D T ad S (1 : Int32) (1 : Int32)  H.size ⟨i_vst, i_vc0, i_vc1, i_vc2, i_vc3, i_vv0, i_vv1, i_vv2, i_vv3, i_vg, i_wct, i_wln, i_sd0, i_sd1, i_sd2, i_sd3, i_rln, i_rtx, i_rpl, i_rtk, i_cnv, i_pts, i_cik, i_und⟩) (j_cV (k := 2) (C := "PageScribe$Stack") hts k_4_195 k_1_3 k_4_192 k_4_193 k_4_194 (by decide +kernel) ⟨Nat.le_of_ble_eq_true rfl, Nat.le_of_ble_eq_true rfl⟩) (j_preV (q0 := 1) (ci := 0) hK hP hD csc csc_all csc_nd cl_0 (ce_1 _ _ _) (fun _ _ _ _ h => h) (fun _ _ _ => trivial)) rfl rfl hl.1 rfl (lv_room (Nat.le_of_ble_eq_true rfl)) d_Truths_act_183 ⟨Nat.le_of_ble_eq_true rfl, Nat.le_of_ble_eq_true rfl⟩) (fun rv27 S23 H locs hw27 hP hD hS => ?_)
      have hP : va_P D classes (cW T ad S23) H := hP
      have hD : va_D A (cW T ad S23) := hD
      obtain ⟨⟨i_vst, i_vc0, i_vc1, i_vc2, i_vc3, i_vv0, i_vv1, i_vv2, i_vv3, i_vg, i_wct, i_wln, i_sd0, i_sd1, i_sd2, i_sd3, i_rln, i_rtx, i_rpl, i_rtk, i_cnv, i_pts, i_cik, i_und⟩, kpcL_S23, kpcP_S23, kpcU_S23, kpcW_S23⟩ := hw27
      have kScL_S23 : kcL S S23 := kcL_t (show kcL S S from (kcL_r S)) kpcL_S23
      have kScP_S23 : kcP S S23 := kcP_t (show kcP S S from (kcP_r S)) kpcP_S23
      have kScU_S23 : kcU S S23 := kcU_t (show kcU S S from (kcU_r S)) kpcU_S23
      have kScW_S23 : kcW S S23 := kcW_t (show kcW S S from (kcW_r S)) kpcW_S23
      have nxr_length_S23 : (f_xr_length S23).toInt = (f_xr_length S).toInt := congrArg Int32.toInt kpcL_S23
      have nxr_length_S23 : (f_xr_length S23).toInt = (f_xr_length S).toInt := congrArg Int32.toInt kpcP_S23.1
      have nxr_place_S23 : (f_xr_place S23).toInt = (f_xr_place S).toInt := congrArg Int32.toInt kpcP_S23.2.1
      have nxe_underWay_S23 : (f_xe_underWay S23).toInt = (f_xe_underWay S).toInt := congrArg Int32.toInt kpcU_S23
      have nxp_columns_S23 : (f_xp_columns S23).toInt = (f_xp_columns S).toInt := congrArg Int32.toInt kpcW_S23.1
      have nxp_rows_S23 : (f_xp_rows S23).toInt = (f_xp_rows S).toInt := congrArg Int32.toInt kpcW_S23.2
      have rrv27 := zt_rng rv27
      exact j_iret F hr hlocks hK hS S23 ⟨⟨i_vst, i_vc0, i_vc1, i_vc2, i_vc3, i_vv0, i_vv1, i_vv2, i_vv3, i_vg, i_wct, i_wln, i_sd0, i_sd1, i_sd2, i_sd3, i_rln, i_rtx, i_rpl, i_rtk, i_cnv, i_pts, i_cik, i_und⟩, kScL_S23, kScP_S23, kScU_S23, kScW_S23⟩ hP hD d_Truths_act_186
  by_cases h_29_1 : x1.toInt = 29
  · refine lv_tableIn (off := 179) (tgt := 187) hx hb d_Truths_act_8 (by omega) (by omega) (by rw [show x1.toInt = 29 from h_29_1]; decide +kernel) (by decide) ?_
    refine lv_aload_n hx hb d_Truths_act_187 rfl (lv_at hl 0 rfl) ?_
    refine va_get (D := D) (ci := 9) (v := .ref (ad 1)) (C := "PageScribe$Truths") (T := F_Truths) (N := 1) hx hb hts i_Truths hown hK hP 74 (ce_74 _ _ _) cl_9 0 (by decide) (hts _ k_2_18) (fun _ h9 => h9) rfl d_Truths_act_188 ?_
    refine lv_iconst (v := 1) hx hb d_Truths_act_191 (by decide) ?_
    refine lv_aload_n hx hb d_Truths_act_192 rfl (lv_at hl 0 rfl) ?_
    refine va_get (D := D) (ci := 9) (v := .ref (ad 1)) (C := "PageScribe$Truths") (T := F_Truths) (N := 1) hx hb hts i_Truths hown hK hP 74 (ce_74 _ _ _) cl_9 0 (by decide) (hts _ k_2_18) (fun _ h9 => h9) rfl d_Truths_act_193 ?_
    refine lv_iconst (v := 0) hx hb d_Truths_act_196 (by decide) ?_
    refine jc_ci (w := (fun _ => S)) hK hP hD hS hA (va_runV (As := [.int 0]) (rest := [.int 1, .ref (ad 1)]) F (c_Stack_kindDown l D T ad S (0 : Int32)  H.size) (j_cV (k := 1) (C := "PageScribe$Stack") hts k_2_120 k_1_3 k_4_184 k_2_118 k_2_119 (by decide +kernel) ⟨Nat.le_of_ble_eq_true rfl, Nat.le_of_ble_eq_true rfl⟩) (j_preV (q0 := 1) (ci := 0) hK hP hD csc csc_all csc_nd cl_0 (ce_1 _ _ _) (fun _ _ _ _ h => h) (fun _ _ _ => trivial)) rfl rfl hl.1 rfl (lv_room (Nat.le_of_ble_eq_true rfl)) d_Truths_act_197 ⟨Nat.le_of_ble_eq_true rfl, Nat.le_of_ble_eq_true rfl⟩) (fun rv28 u5 H locs hw28 hP hD hS => ?_)
    have hP : va_P D classes (cW T ad S) H := hP
    have hD : va_D A (cW T ad S) := hD
    have rrv28 := zt_rng rv28
    refine lv_bipush (v := 7) hx hb d_Truths_act_200 (by decide) ?_
    refine lv_iand hx hb d_Truths_act_202 ?_
    refine lv_topi (fun x2 ex2 => ?_)
    have rx2 := zt_rng x2
    refine jc_ci (w := (fun u => u)) hK hP hD hS hA (va_runV (As := [.int 1, .int x2]) (rest := []) F (c_Stack_giveInt l D T ad S (1 : Int32) x2  H.size ⟨i_vst, i_vc0, i_vc1, i_vc2, i_vc3, i_vv0, i_vv1, i_vv2, i_vv3, i_vg, i_wct, i_wln, i_sd0, i_sd1, i_sd2, i_sd3, i_rln, i_rtx, i_rpl, i_rtk, i_cnv, i_pts, i_cik, i_und⟩) (j_cV (k := 2) (C := "PageScribe$Stack") hts k_4_140 k_1_3 k_4_208 k_4_138 k_4_139 (by decide +kernel) ⟨Nat.le_of_ble_eq_true rfl, Nat.le_of_ble_eq_true rfl⟩) (j_preV (q0 := 1) (ci := 0) hK hP hD csc csc_all csc_nd cl_0 (ce_1 _ _ _) (fun _ _ _ _ h => h) (fun _ _ _ => trivial)) rfl rfl hl.1 rfl (lv_room (Nat.le_of_ble_eq_true rfl)) d_Truths_act_203 ⟨Nat.le_of_ble_eq_true rfl, Nat.le_of_ble_eq_true rfl⟩) (fun rv29 S24 H locs hw29 hP hD hS => ?_)
    have hP : va_P D classes (cW T ad S24) H := hP
    have hD : va_D A (cW T ad S24) := hD
    obtain ⟨⟨i_vst, i_vc0, i_vc1, i_vc2, i_vc3, i_vv0, i_vv1, i_vv2, i_vv3, i_vg, i_wct, i_wln, i_sd0, i_sd1, i_sd2, i_sd3, i_rln, i_rtx, i_rpl, i_rtk, i_cnv, i_pts, i_cik, i_und⟩, kpcL_S24, kpcP_S24, kpcU_S24, kpcW_S24⟩ := hw29
    have kScL_S24 : kcL S S24 := kcL_t (show kcL S S from (kcL_r S)) kpcL_S24
    have kScP_S24 : kcP S S24 := kcP_t (show kcP S S from (kcP_r S)) kpcP_S24
    have kScU_S24 : kcU S S24 := kcU_t (show kcU S S from (kcU_r S)) kpcU_S24
    have kScW_S24 : kcW S S24 := kcW_t (show kcW S S from (kcW_r S)) kpcW_S24
    have nxr_length_S24 : (f_xr_length S24).toInt = (f_xr_length S).toInt := congrArg Int32.toInt kpcL_S24
    have nxr_length_S24 : (f_xr_length S24).toInt = (f_xr_length S).toInt := congrArg Int32.toInt kpcP_S24.1
    have nxr_place_S24 : (f_xr_place S24).toInt = (f_xr_place S).toInt := congrArg Int32.toInt kpcP_S24.2.1
    have nxe_underWay_S24 : (f_xe_underWay S24).toInt = (f_xe_underWay S).toInt := congrArg Int32.toInt kpcU_S24
    have nxp_columns_S24 : (f_xp_columns S24).toInt = (f_xp_columns S).toInt := congrArg Int32.toInt kpcW_S24.1
    have nxp_rows_S24 : (f_xp_rows S24).toInt = (f_xp_rows S).toInt := congrArg Int32.toInt kpcW_S24.2
    have rrv29 := zt_rng rv29
    exact j_iret F hr hlocks hK hS S24 ⟨⟨i_vst, i_vc0, i_vc1, i_vc2, i_vc3, i_vv0, i_vv1, i_vv2, i_vv3, i_vg, i_wct, i_wln, i_sd0, i_sd1, i_sd2, i_sd3, i_rln, i_rtx, i_rpl, i_rtk, i_cnv, i_pts, i_cik, i_und⟩, kScL_S24, kScP_S24, kScU_S24, kScW_S24⟩ hP hD d_Truths_act_206
  refine lv_tableOut (tgt := 207) hx hb d_Truths_act_8 (by omega) (by decide) ?_
  refine lv_aload_n hx hb d_Truths_act_207 rfl (lv_at hl 0 rfl) ?_
  refine va_get (D := D) (ci := 9) (v := .ref (ad 1)) (C := "PageScribe$Truths") (T := F_Truths) (N := 1) hx hb hts i_Truths hown hK hP 74 (ce_74 _ _ _) cl_9 0 (by decide) (hts _ k_2_18) (fun _ h9 => h9) rfl d_Truths_act_208 ?_
  refine lv_iconst (v := 2) hx hb d_Truths_act_211 (by decide) ?_
  refine lv_aload_n hx hb d_Truths_act_212 rfl (lv_at hl 0 rfl) ?_
  refine lv_aload_n hx hb d_Truths_act_213 rfl (lv_at hl 1 rfl) ?_
  refine lv_aload_n hx hb d_Truths_act_214 rfl (lv_at hl 0 rfl) ?_
  refine va_get (D := D) (ci := 9) (v := .ref (ad 1)) (C := "PageScribe$Truths") (T := F_Truths) (N := 1) hx hb hts i_Truths hown hK hP 74 (ce_74 _ _ _) cl_9 0 (by decide) (hts _ k_2_18) (fun _ h9 => h9) rfl d_Truths_act_215 ?_
  refine lv_iconst (v := 1) hx hb d_Truths_act_218 (by decide) ?_
  refine jc_cd (w := (fun _ => S)) hK hP hD hS hA (va_runV (As := [.int 1]) (rest := [.ref (g_en g op), .ref (ad 74), .int 2, .ref (ad 1)]) F (c_Stack_doubleDown l D T ad S (1 : Int32)  H.size ⟨i_vst, i_vc0, i_vc1, i_vc2, i_vc3, i_vv0, i_vv1, i_vv2, i_vv3, i_vg, i_wct, i_wln, i_sd0, i_sd1, i_sd2, i_sd3, i_rln, i_rtx, i_rpl, i_rtk, i_cnv, i_pts, i_cik, i_und⟩) (j_cV (k := 1) (C := "PageScribe$Stack") hts k_4_113 k_1_3 k_4_185 k_4_111 k_4_112 (by decide +kernel) ⟨Nat.le_of_ble_eq_true rfl, Nat.le_of_ble_eq_true rfl⟩) (j_preV (q0 := 1) (ci := 0) hK hP hD csc csc_all csc_nd cl_0 (ce_1 _ _ _) (fun _ _ _ _ h => h) (fun _ _ _ => trivial)) rfl rfl hl.1 rfl (lv_room (Nat.le_of_ble_eq_true rfl)) d_Truths_act_219 ⟨Nat.le_of_ble_eq_true rfl, Nat.le_of_ble_eq_true rfl⟩) (fun rv30 u6 H locs hw30 hP hD hS => ?_)
  have hP : va_P D classes (cW T ad S) H := hP
  have hD : va_D A (cW T ad S) := hD
  have qhw30 : dB rv30 := by simpa only [tI_1] using hw30
  refine lv_aload_n hx hb d_Truths_act_222 rfl (lv_at hl 0 rfl) ?_
  refine va_get (D := D) (ci := 9) (v := .ref (ad 1)) (C := "PageScribe$Truths") (T := F_Truths) (N := 1) hx hb hts i_Truths hown hK hP 74 (ce_74 _ _ _) cl_9 0 (by decide) (hts _ k_2_18) (fun _ h9 => h9) rfl d_Truths_act_223 ?_
  refine lv_iconst (v := 0) hx hb d_Truths_act_226 (by decide) ?_
  refine jc_cd (w := (fun _ => S)) hK hP hD hS hA (va_runV (As := [.int 0]) (rest := [.double rv30, .ref (g_en g op), .ref (ad 74), .int 2, .ref (ad 1)]) F (c_Stack_doubleDown l D T ad S (0 : Int32)  H.size ⟨i_vst, i_vc0, i_vc1, i_vc2, i_vc3, i_vv0, i_vv1, i_vv2, i_vv3, i_vg, i_wct, i_wln, i_sd0, i_sd1, i_sd2, i_sd3, i_rln, i_rtx, i_rpl, i_rtk, i_cnv, i_pts, i_cik, i_und⟩) (j_cV (k := 1) (C := "PageScribe$Stack") hts k_4_113 k_1_3 k_4_185 k_4_111 k_4_112 (by decide +kernel) ⟨Nat.le_of_ble_eq_true rfl, Nat.le_of_ble_eq_true rfl⟩) (j_preV (q0 := 1) (ci := 0) hK hP hD csc csc_all csc_nd cl_0 (ce_1 _ _ _) (fun _ _ _ _ h => h) (fun _ _ _ => trivial)) rfl rfl hl.1 rfl (lv_room (Nat.le_of_ble_eq_true rfl)) d_Truths_act_227 ⟨Nat.le_of_ble_eq_true rfl, Nat.le_of_ble_eq_true rfl⟩) (fun rv31 u7 H locs hw31 hP hD hS => ?_)
  have hP : va_P D classes (cW T ad S) H := hP
  have hD : va_D A (cW T ad S) := hD
  have qhw31 : dB rv31 := by simpa only [tI_0] using hw31
  refine jc_ci (w := (fun _ => S)) hK hP hD hS hA (va_runV (As := [.ref (g_en g op), .double rv30, .double rv31]) (rest := [.int 2, .ref (ad 1)]) F (c_Truths_compare l D T ad g Bq S op rv30 rv31  H.size hi_op (show dN rv30 by omega) (show dN rv31 by omega)) (j_cV (k := 3) (C := "PageScribe$Truths") hts k_4_218 k_1_11 k_4_215 k_4_217 k_0_37 (by decide +kernel) ⟨Nat.le_of_ble_eq_true rfl, Nat.le_of_ble_eq_true rfl⟩) (j_preV (q0 := 74) (ci := 9) hK hP hD csc csc_all csc_nd cl_9 (ce_74 _ _ _) (fun _ _ _ _ h => EC.calling h) (fun U hU hW => EC.at hS hAB hU hW hE)) rfl rfl hl.1 rfl (lv_room (Nat.le_of_ble_eq_true rfl)) d_Truths_act_230 ⟨Nat.le_of_ble_eq_true rfl, Nat.le_of_ble_eq_true rfl⟩) (fun rv32 u8 H locs hw32 hP hD hS => ?_)
  have hP : va_P D classes (cW T ad S) H := hP
  have hD : va_D A (cW T ad S) := hD
  have qhw32 : rv32.toInt = 0 ∨ rv32.toInt = 1 := hw32
  have rrv32 := zt_rng rv32
  refine jc_ci (w := (fun u => u)) hK hP hD hS hA (va_runV (As := [.int 2, .int rv32]) (rest := []) F (c_Stack_giveFlag l D T ad S (2 : Int32) rv32  H.size ⟨i_vst, i_vc0, i_vc1, i_vc2, i_vc3, i_vv0, i_vv1, i_vv2, i_vv3, i_vg, i_wct, i_wln, i_sd0, i_sd1, i_sd2, i_sd3, i_rln, i_rtx, i_rpl, i_rtk, i_cnv, i_pts, i_cik, i_und⟩) (j_cV (k := 2) (C := "PageScribe$Stack") hts k_4_195 k_1_3 k_4_192 k_4_193 k_4_194 (by decide +kernel) ⟨Nat.le_of_ble_eq_true rfl, Nat.le_of_ble_eq_true rfl⟩) (j_preV (q0 := 1) (ci := 0) hK hP hD csc csc_all csc_nd cl_0 (ce_1 _ _ _) (fun _ _ _ _ h => h) (fun _ _ _ => trivial)) rfl rfl hl.1 rfl (lv_room (Nat.le_of_ble_eq_true rfl)) d_Truths_act_233 ⟨Nat.le_of_ble_eq_true rfl, Nat.le_of_ble_eq_true rfl⟩) (fun rv33 S25 H locs hw33 hP hD hS => ?_)
  have hP : va_P D classes (cW T ad S25) H := hP
  have hD : va_D A (cW T ad S25) := hD
  obtain ⟨⟨i_vst, i_vc0, i_vc1, i_vc2, i_vc3, i_vv0, i_vv1, i_vv2, i_vv3, i_vg, i_wct, i_wln, i_sd0, i_sd1, i_sd2, i_sd3, i_rln, i_rtx, i_rpl, i_rtk, i_cnv, i_pts, i_cik, i_und⟩, kpcL_S25, kpcP_S25, kpcU_S25, kpcW_S25⟩ := hw33
  have kScL_S25 : kcL S S25 := kcL_t (show kcL S S from (kcL_r S)) kpcL_S25
  have kScP_S25 : kcP S S25 := kcP_t (show kcP S S from (kcP_r S)) kpcP_S25
  have kScU_S25 : kcU S S25 := kcU_t (show kcU S S from (kcU_r S)) kpcU_S25
  have kScW_S25 : kcW S S25 := kcW_t (show kcW S S from (kcW_r S)) kpcW_S25
  have nxr_length_S25 : (f_xr_length S25).toInt = (f_xr_length S).toInt := congrArg Int32.toInt kpcL_S25
  have nxr_length_S25 : (f_xr_length S25).toInt = (f_xr_length S).toInt := congrArg Int32.toInt kpcP_S25.1
  have nxr_place_S25 : (f_xr_place S25).toInt = (f_xr_place S).toInt := congrArg Int32.toInt kpcP_S25.2.1
  have nxe_underWay_S25 : (f_xe_underWay S25).toInt = (f_xe_underWay S).toInt := congrArg Int32.toInt kpcU_S25
  have nxp_columns_S25 : (f_xp_columns S25).toInt = (f_xp_columns S).toInt := congrArg Int32.toInt kpcW_S25.1
  have nxp_rows_S25 : (f_xp_rows S25).toInt = (f_xp_rows S).toInt := congrArg Int32.toInt kpcW_S25.2
  have rrv33 := zt_rng rv33
  exact j_iret F hr hlocks hK hS S25 ⟨⟨i_vst, i_vc0, i_vc1, i_vc2, i_vc3, i_vv0, i_vv1, i_vv2, i_vv3, i_vg, i_wct, i_wln, i_sd0, i_sd1, i_sd2, i_sd3, i_rln, i_rtx, i_rpl, i_rtk, i_cnv, i_pts, i_cik, i_und⟩, kScL_S25, kScP_S25, kScU_S25, kScW_S25⟩ hP hD d_Truths_act_236
