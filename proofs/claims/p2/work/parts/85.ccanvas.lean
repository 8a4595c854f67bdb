theorem zt_mulC {x y : Int32} {a b : Int} (hx : x.toInt = a) (hy : y.toInt = b) (ha : 0 ≤ a ∧ a ≤ 16) (hb : 0 ≤ b ∧ b ≤ 24) : (x * y).toInt = a * b ∧ 0 ≤ a * b ∧ a * b ≤ 384 := by
  have h1 : a * b ≤ 16 * 24 := Int.mul_le_mul ha.2 hb.2 hb.1 (by omega)
  have h2 : 0 ≤ a * b := Int.mul_nonneg ha.1 hb.1
  exact ⟨zt_mul hx hy rfl (by omega) (by omega), h2, by omega⟩
theorem lv_in {S : CS} {r c : Int} (h : 1 ≤ (f_xp_columns S).toInt ∧ (f_xp_columns S).toInt ≤ 24 ∧ 1 ≤ (f_xp_rows S).toInt ∧ (f_xp_rows S).toInt ≤ 16) (hr : 0 ≤ r ∧ r < (f_xp_rows S).toInt) (hc : 0 ≤ c ∧ c < (f_xp_columns S).toInt) : r * (f_xp_columns S).toInt + c < ((lvN S : Nat) : Int) := by
  unfold lvN
  have h1 : (r + 1) * (f_xp_columns S).toInt ≤ (f_xp_rows S).toInt * (f_xp_columns S).toInt := Int.mul_le_mul_of_nonneg_right (by omega) (by omega)
  rw [Int.add_mul, Int.mul_comm (f_xp_rows S).toInt] at h1
  have h2 : 0 ≤ (f_xp_columns S).toInt * (f_xp_rows S).toInt := Int.mul_nonneg (by omega) (by omega)
  omega
theorem d_Canvas_levelAt_0 : decode prog_3_method_2_code 0 = .ok (.iload_n 1, 1) := by decide +kernel
theorem d_Canvas_levelAt_1 : decode prog_3_method_2_code 1 = .ok (.ifCond .lt 23, 3) := by decide +kernel
theorem d_Canvas_levelAt_24 : decode prog_3_method_2_code 24 = .ok (.iconst (-1), 1) := by decide +kernel
theorem d_Canvas_levelAt_25 : decode prog_3_method_2_code 25 = .ok (.ireturn, 1) := by decide +kernel
theorem d_Canvas_levelAt_4 : decode prog_3_method_2_code 4 = .ok (.iload_n 1, 1) := by decide +kernel
theorem d_Canvas_levelAt_5 : decode prog_3_method_2_code 5 = .ok (.aload_n 0, 1) := by decide +kernel
theorem d_Canvas_levelAt_6 : decode prog_3_method_2_code 6 = .ok (.getfield 34, 3) := by decide +kernel
theorem k_1_208 : Cond.fieldLink "PageScribe$Canvas" 34 "PageScribe$Canvas" "columns" "I" ∈ gw := gw_of (tb_1 (List.mem_of_getElem? (i := 208) (by decide +kernel))) (by decide +kernel)
theorem d_Canvas_levelAt_9 : decode prog_3_method_2_code 9 = .ok (.if_icmp .ge 15, 3) := by decide +kernel
theorem d_Canvas_levelAt_12 : decode prog_3_method_2_code 12 = .ok (.iload_n 2, 1) := by decide +kernel
theorem d_Canvas_levelAt_13 : decode prog_3_method_2_code 13 = .ok (.ifCond .lt 11, 3) := by decide +kernel
theorem d_Canvas_levelAt_16 : decode prog_3_method_2_code 16 = .ok (.iload_n 2, 1) := by decide +kernel
theorem d_Canvas_levelAt_17 : decode prog_3_method_2_code 17 = .ok (.aload_n 0, 1) := by decide +kernel
theorem d_Canvas_levelAt_18 : decode prog_3_method_2_code 18 = .ok (.getfield 37, 3) := by decide +kernel
theorem k_1_209 : Cond.fieldLink "PageScribe$Canvas" 37 "PageScribe$Canvas" "rows" "I" ∈ gw := gw_of (tb_1 (List.mem_of_getElem? (i := 209) (by decide +kernel))) (by decide +kernel)
theorem d_Canvas_levelAt_21 : decode prog_3_method_2_code 21 = .ok (.if_icmp .lt 5, 3) := by decide +kernel
theorem d_Canvas_levelAt_26 : decode prog_3_method_2_code 26 = .ok (.aload_n 0, 1) := by decide +kernel
theorem d_Canvas_levelAt_27 : decode prog_3_method_2_code 27 = .ok (.getfield 40, 3) := by decide +kernel
theorem k_1_210 : Cond.fieldLink "PageScribe$Canvas" 40 "PageScribe$Canvas" "levels" "[I" ∈ gw := gw_of (tb_1 (List.mem_of_getElem? (i := 210) (by decide +kernel))) (by decide +kernel)
theorem d_Canvas_levelAt_30 : decode prog_3_method_2_code 30 = .ok (.iload_n 2, 1) := by decide +kernel
theorem d_Canvas_levelAt_31 : decode prog_3_method_2_code 31 = .ok (.aload_n 0, 1) := by decide +kernel
theorem d_Canvas_levelAt_32 : decode prog_3_method_2_code 32 = .ok (.getfield 34, 3) := by decide +kernel
theorem d_Canvas_levelAt_35 : decode prog_3_method_2_code 35 = .ok (.imul, 1) := by decide +kernel
theorem d_Canvas_levelAt_36 : decode prog_3_method_2_code 36 = .ok (.iload_n 1, 1) := by decide +kernel
theorem d_Canvas_levelAt_37 : decode prog_3_method_2_code 37 = .ok (.iadd, 1) := by decide +kernel
theorem d_Canvas_levelAt_38 : decode prog_3_method_2_code 38 = .ok (.iaload, 1) := by decide +kernel
theorem d_Canvas_levelAt_39 : decode prog_3_method_2_code 39 = .ok (.ireturn, 1) := by decide +kernel
set_option maxHeartbeats 4000000 in
set_option maxRecDepth 100000 in
theorem c_Canvas_levelAt (l : Launch) (D : va_G) (T : Nat → ClassId) (ad : Nat → Nat) (S : CS) (p0 : Int32) (p1 : Int32) (sz : Nat)  (hI : CIv S) : Met l ⟨"PageScribe$Canvas", "levelAt", "(II)I"⟩ (wy ⟨"PageScribe$Canvas", "levelAt", "(II)I"⟩ prog_3_method_2_code 3 (some .int)) ({ frames := 0, cells := 0, slots := 0, locals := 0 }) (va_Pc [.ref (ad 67), .int p0, .int p1] (Pw D T (cW T ad S) sz E0)) (va_Qi (fun (r : Int32) (u : Unit) => True) (fun u t => Bw D T (va_A (cW T ad S) sz) (cW T ad S) t) (va_A (cW T ad S) sz)) 0 0 (va_A (cW T ad S) sz) := by
  refine j_met (y := ⟨"PageScribe$Canvas", "levelAt", "(II)I"⟩) (b := prog_3_method_2_code) (n := 3) (ret := (some .int)) (av := [.ref (ad 67), .int p0, .int p1]) (Qc := fun A => va_Qi (fun (r : Int32) (u : Unit) => True) (fun u t => Bw D T A (cW T ad S) t) A) (by decide +kernel) (Nat.le_of_ble_eq_true rfl) (fun p e s m args below meth c A ls F hr hlocks hnm hK hP hD hS hA hN hE hl => ?_)
  obtain ⟨hx, hb, hml, hown, hts⟩ := id F
  have hl : lv_has ls 3 [(0, .ref (ad 67)), (1, .int p0), (2, .int p1)] := hl
  obtain ⟨i_vst, i_vc0, i_vc1, i_vc2, i_vc3, i_vv0, i_vv1, i_vv2, i_vv3, i_vg, i_wct, i_wln, i_sd0, i_sd1, i_sd2, i_sd3, i_rln, i_rtx, i_rpl, i_rtk, i_cnv, i_pts, i_cik, i_und⟩ := id hI
  have rp0 := zt_rng p0
  have rp1 := zt_rng p1
  refine lv_iload_n hx hb d_Canvas_levelAt_0 rfl (lv_at hl 1 rfl) ?_
  refine lv_if_lt (tgt := 24) hx hb d_Canvas_levelAt_1 (by decide) (fun c1_1 => ?_) (fun c1_1 => ?_)
  · have fc1_1 : p0.toInt < 0 := zt_lt (show p0.toInt = _ from rfl) tI_0 c1_1
    refine lv_iconst (v := (-1)) hx hb d_Canvas_levelAt_24 (by decide) ?_
    exact j_iret F hr hlocks hK hS () trivial hP hD d_Canvas_levelAt_25
  · have fc1_1 : 0 ≤ p0.toInt := Int.not_lt.mp (zt_nlt (show p0.toInt = _ from rfl) tI_0 c1_1)
    refine lv_iload_n hx hb d_Canvas_levelAt_4 rfl (lv_at hl 1 rfl) ?_
    refine lv_aload_n hx hb d_Canvas_levelAt_5 rfl (lv_at hl 0 rfl) ?_
    refine va_get (D := D) (ci := 6) (v := .int (f_xp_columns S)) (C := "PageScribe$Canvas") (T := F_Canvas) (N := 9) hx hb hts i_Canvas hown hK hP 67 (ce_67 _ _ _) cl_6 1 (by decide) (hts _ k_1_208) (fun _ h9 => h9) rfl d_Canvas_levelAt_6 ?_
    refine lv_icmp_ge (tgt := 24) hx hb d_Canvas_levelAt_9 (by decide) (fun c9_1 => ?_) (fun c9_1 => ?_)
    · have fc9_1 : (f_xp_columns S).toInt ≤ p0.toInt := zt_le (show (f_xp_columns S).toInt = _ from rfl) (show p0.toInt = _ from rfl) c9_1
      refine lv_iconst (v := (-1)) hx hb d_Canvas_levelAt_24 (by decide) ?_
      exact j_iret F hr hlocks hK hS () trivial hP hD d_Canvas_levelAt_25
    · have fc9_1 : p0.toInt < (f_xp_columns S).toInt := Int.not_le.mp (zt_nle (show (f_xp_columns S).toInt = _ from rfl) (show p0.toInt = _ from rfl) c9_1)
      refine lv_iload_n hx hb d_Canvas_levelAt_12 rfl (lv_at hl 2 rfl) ?_
      refine lv_if_lt (tgt := 24) hx hb d_Canvas_levelAt_13 (by decide) (fun c13_1 => ?_) (fun c13_1 => ?_)
      · have fc13_1 : p1.toInt < 0 := zt_lt (show p1.toInt = _ from rfl) tI_0 c13_1
        refine lv_iconst (v := (-1)) hx hb d_Canvas_levelAt_24 (by decide) ?_
        exact j_iret F hr hlocks hK hS () trivial hP hD d_Canvas_levelAt_25
      · have fc13_1 : 0 ≤ p1.toInt := Int.not_lt.mp (zt_nlt (show p1.toInt = _ from rfl) tI_0 c13_1)
        refine lv_iload_n hx hb d_Canvas_levelAt_16 rfl (lv_at hl 2 rfl) ?_
        refine lv_aload_n hx hb d_Canvas_levelAt_17 rfl (lv_at hl 0 rfl) ?_
        refine va_get (D := D) (ci := 6) (v := .int (f_xp_rows S)) (C := "PageScribe$Canvas") (T := F_Canvas) (N := 9) hx hb hts i_Canvas hown hK hP 67 (ce_67 _ _ _) cl_6 2 (by decide) (hts _ k_1_209) (fun _ h9 => h9) rfl d_Canvas_levelAt_18 ?_
        refine lv_icmp_lt (tgt := 26) hx hb d_Canvas_levelAt_21 (by decide) (fun c21_1 => ?_) (fun c21_1 => ?_)
        · have fc21_1 : p1.toInt < (f_xp_rows S).toInt := zt_lt (show p1.toInt = _ from rfl) (show (f_xp_rows S).toInt = _ from rfl) c21_1
          refine lv_aload_n hx hb d_Canvas_levelAt_26 rfl (lv_at hl 0 rfl) ?_
          refine va_get (D := D) (ci := 6) (v := .ref (ad 68)) (C := "PageScribe$Canvas") (T := F_Canvas) (N := 9) hx hb hts i_Canvas hown hK hP 67 (ce_67 _ _ _) cl_6 3 (by decide) (hts _ k_1_210) (fun _ h9 => h9) rfl d_Canvas_levelAt_27 ?_
          refine lv_iload_n hx hb d_Canvas_levelAt_30 rfl (lv_at hl 2 rfl) ?_
          refine lv_aload_n hx hb d_Canvas_levelAt_31 rfl (lv_at hl 0 rfl) ?_
          refine va_get (D := D) (ci := 6) (v := .int (f_xp_columns S)) (C := "PageScribe$Canvas") (T := F_Canvas) (N := 9) hx hb hts i_Canvas hown hK hP 67 (ce_67 _ _ _) cl_6 1 (by decide) (hts _ k_1_208) (fun _ h9 => h9) rfl d_Canvas_levelAt_32 ?_
          refine lv_imul hx hb d_Canvas_levelAt_35 ?_
          refine lv_topi (fun x1 ex1 => ?_)
          have fx1 : x1.toInt = p1.toInt * (f_xp_columns S).toInt ∧ 0 ≤ p1.toInt * (f_xp_columns S).toInt ∧ p1.toInt * (f_xp_columns S).toInt ≤ 384 := by rw [ex1]; exact zt_mulC (show p1.toInt = _ from rfl) (show (f_xp_columns S).toInt = _ from rfl) (by omega) (by omega)
          have hx1 := lv_in (S := S) (r := p1.toInt) (c := p0.toInt) i_cnv (by omega) (by omega)
          refine lv_iload_n hx hb d_Canvas_levelAt_36 rfl (lv_at hl 1 rfl) ?_
          refine lv_iadd hx hb d_Canvas_levelAt_37 ?_
          refine lv_topi (fun x2 ex2 => ?_)
          have fx2 : x2.toInt = (p0.toInt + x1.toInt) := by rw [ex2]; exact (zt_add (show x1.toInt = _ from rfl) (show p0.toInt = _ from rfl) (by omega) (by omega)).trans (by omega)
          refine va_iald hx hb hK hP 68 0 (ce_68 _ _ _) rfl (zt_in fx2 (by omega) (by omega)) d_Canvas_levelAt_38 ?_
          refine lv_topi (fun x3 ex3 => ?_)
          have gx3 : x3 = (a_xp_levels S) (p0.toInt + x1.toInt).toNat := ex3.trans (congrArg _ (zt_ix fx2))
          have fx3 : x3.toInt = ((a_xp_levels S) (p0.toInt + x1.toInt).toNat).toInt := by rw [gx3]
          have rx3 := zt_rng x3
          exact j_iret F hr hlocks hK hS () trivial hP hD d_Canvas_levelAt_39
        · have fc21_1 : (f_xp_rows S).toInt ≤ p1.toInt := Int.not_lt.mp (zt_nlt (show p1.toInt = _ from rfl) (show (f_xp_rows S).toInt = _ from rfl) c21_1)
          refine lv_iconst (v := (-1)) hx hb d_Canvas_levelAt_24 (by decide) ?_
          exact j_iret F hr hlocks hK hS () trivial hP hD d_Canvas_levelAt_25
theorem d_Canvas_wipe_0 : decode prog_3_method_3_code 0 = .ok (.iconst 0, 1) := by decide +kernel
theorem d_Canvas_wipe_1 : decode prog_3_method_3_code 1 = .ok (.istore_n 1, 1) := by decide +kernel
theorem d_Canvas_wipe_2 : decode prog_3_method_3_code 2 = .ok (.iconst 0, 1) := by decide +kernel
theorem d_Canvas_wipe_3 : decode prog_3_method_3_code 3 = .ok (.istore_n 2, 1) := by decide +kernel
theorem d_Canvas_wipe_4 : decode prog_3_method_3_code 4 = .ok (.iload_n 2, 1) := by decide +kernel
theorem d_Canvas_wipe_5 : decode prog_3_method_3_code 5 = .ok (.aload_n 0, 1) := by decide +kernel
theorem d_Canvas_wipe_6 : decode prog_3_method_3_code 6 = .ok (.getfield 40, 3) := by decide +kernel
theorem d_Canvas_wipe_9 : decode prog_3_method_3_code 9 = .ok (.arraylength, 1) := by decide +kernel
theorem d_Canvas_wipe_10 : decode prog_3_method_3_code 10 = .ok (.if_icmp .ge 33, 3) := by decide +kernel
theorem d_Canvas_wipe_43 : decode prog_3_method_3_code 43 = .ok (.iload_n 1, 1) := by decide +kernel
theorem d_Canvas_wipe_44 : decode prog_3_method_3_code 44 = .ok (.ireturn, 1) := by decide +kernel
theorem d_Canvas_wipe_13 : decode prog_3_method_3_code 13 = .ok (.iload_n 1, 1) := by decide +kernel
theorem d_Canvas_wipe_28 : decode prog_3_method_3_code 28 = .ok (.iadd, 1) := by decide +kernel
theorem d_Canvas_wipe_29 : decode prog_3_method_3_code 29 = .ok (.istore_n 1, 1) := by decide +kernel
theorem d_Canvas_wipe_30 : decode prog_3_method_3_code 30 = .ok (.aload_n 0, 1) := by decide +kernel
theorem d_Canvas_wipe_31 : decode prog_3_method_3_code 31 = .ok (.getfield 40, 3) := by decide +kernel
theorem d_Canvas_wipe_34 : decode prog_3_method_3_code 34 = .ok (.iload_n 2, 1) := by decide +kernel
theorem d_Canvas_wipe_35 : decode prog_3_method_3_code 35 = .ok (.iconst 0, 1) := by decide +kernel
theorem d_Canvas_wipe_36 : decode prog_3_method_3_code 36 = .ok (.iastore, 1) := by decide +kernel
theorem d_Canvas_wipe_37 : decode prog_3_method_3_code 37 = .ok (.iinc 2 1, 3) := by decide +kernel
theorem d_Canvas_wipe_40 : decode prog_3_method_3_code 40 = .ok (.goto (-36), 3) := by decide +kernel
theorem d_Canvas_wipe_14 : decode prog_3_method_3_code 14 = .ok (.aload_n 0, 1) := by decide +kernel
theorem d_Canvas_wipe_15 : decode prog_3_method_3_code 15 = .ok (.getfield 40, 3) := by decide +kernel
theorem d_Canvas_wipe_18 : decode prog_3_method_3_code 18 = .ok (.iload_n 2, 1) := by decide +kernel
theorem d_Canvas_wipe_19 : decode prog_3_method_3_code 19 = .ok (.iaload, 1) := by decide +kernel
theorem d_Canvas_wipe_20 : decode prog_3_method_3_code 20 = .ok (.ifCond .le 7, 3) := by decide +kernel
theorem d_Canvas_wipe_27 : decode prog_3_method_3_code 27 = .ok (.iconst 0, 1) := by decide +kernel
theorem d_Canvas_wipe_23 : decode prog_3_method_3_code 23 = .ok (.iconst 1, 1) := by decide +kernel
theorem d_Canvas_wipe_24 : decode prog_3_method_3_code 24 = .ok (.goto 4, 3) := by decide +kernel
set_option maxHeartbeats 4000000 in
set_option maxRecDepth 100000 in
theorem c_Canvas_wipe (l : Launch) (D : va_G) (T : Nat → ClassId) (ad : Nat → Nat) (S : CS)  (sz : Nat)  (hI : CIv S) : Met l ⟨"PageScribe$Canvas", "wipe", "()I"⟩ (wy ⟨"PageScribe$Canvas", "wipe", "()I"⟩ prog_3_method_3_code 3 (some .int)) ({ frames := 0, cells := 0, slots := 0, locals := 0 }) (va_Pc [.ref (ad 67)] (Pw D T (cW T ad S) sz E0)) (va_Qi (fun (r : Int32) (u : CS) => CIv u ∧ kcL S u ∧ kcP S u ∧ kcU S u ∧ kcW S u) (fun u t => Bw D T (va_A (cW T ad S) sz) (cW T ad u) t) (va_A (cW T ad S) sz)) 0 0 (va_A (cW T ad S) sz) := by
  refine j_met (y := ⟨"PageScribe$Canvas", "wipe", "()I"⟩) (b := prog_3_method_3_code) (n := 3) (ret := (some .int)) (av := [.ref (ad 67)]) (Qc := fun A => va_Qi (fun (r : Int32) (u : CS) => CIv u ∧ kcL S u ∧ kcP S u ∧ kcU S u ∧ kcW S u) (fun u t => Bw D T A (cW T ad u) t) A) (by decide +kernel) (Nat.le_of_ble_eq_true rfl) (fun p e s m args below meth c A ls F hr hlocks hnm hK hP hD hS hA hN hE hl => ?_)
  obtain ⟨hx, hb, hml, hown, hts⟩ := id F
  have hl : lv_has ls 3 [(0, .ref (ad 67))] := hl
  obtain ⟨i_vst, i_vc0, i_vc1, i_vc2, i_vc3, i_vv0, i_vv1, i_vv2, i_vv3, i_vg, i_wct, i_wln, i_sd0, i_sd1, i_sd2, i_sd3, i_rln, i_rtx, i_rpl, i_rtk, i_cnv, i_pts, i_cik, i_und⟩ := id hI
  refine lv_iconst (v := 0) hx hb d_Canvas_wipe_0 (by decide) ?_
  refine lv_istore_n (lv' := [(1, .int 0), (0, .ref (ad 67))]) hx hb d_Canvas_wipe_1 rfl hl (by decide) rfl (fun ls hl => ?_)
  refine lv_iconst (v := 0) hx hb d_Canvas_wipe_2 (by decide) ?_
  refine lv_istore_n (lv' := [(2, .int 0), (1, .int 0), (0, .ref (ad 67))]) hx hb d_Canvas_wipe_3 rfl hl (by decide) rfl (fun ls hl => ?_)
  refine j_loop (α := CS × Int32 × Int32) (fun k x H locs ls => (0 ≤ x.2.2.toInt ∧ x.2.2.toInt ≤ 384 ∧ 384 ≤ x.2.2.toInt + ((k : Nat) : Int)) ∧ CIv x.1 ∧ kcL S x.1 ∧ kcP S x.1 ∧ kcU S x.1 ∧ kcW S x.1 ∧ va_P D classes (cW T ad x.1) H ∧ va_D A (cW T ad x.1) ∧ va_S A s.heap H locs ∧ lv_has ls 3 [(2, .int x.2.2), (1, .int x.2.1), (0, .ref (ad 67))]) (fun _ _ ls => F0 m 4 ls []) (fun k x H locs ls hI9 ih => ?_) 384 (S, (0 : Int32), (0 : Int32)) _ _ _ ⟨(show 0 ≤ (0 : Int32).toInt ∧ (0 : Int32).toInt ≤ 384 ∧ 384 ≤ (0 : Int32).toInt + ((384 : Nat) : Int) by have := tI_0; have := tI_0; omega), ⟨i_vst, i_vc0, i_vc1, i_vc2, i_vc3, i_vv0, i_vv1, i_vv2, i_vv3, i_vg, i_wct, i_wln, i_sd0, i_sd1, i_sd2, i_sd3, i_rln, i_rtx, i_rpl, i_rtk, i_cnv, i_pts, i_cik, i_und⟩, (show kcL S S from (kcL_r S)), (show kcP S S from (kcP_r S)), (show kcU S S from (kcU_r S)), (show kcW S S from (kcW_r S)), hP, hD, hS, lv_sub hl [0, 1, 2] rfl⟩
  obtain ⟨S1, n, i⟩ := x
  obtain ⟨hf1, hIx, klcL_S1, klcP_S1, klcU_S1, klcW_S1, hP, hD, hS, hl⟩ := hI9
  obtain ⟨i_vst, i_vc0, i_vc1, i_vc2, i_vc3, i_vv0, i_vv1, i_vv2, i_vv3, i_vg, i_wct, i_wln, i_sd0, i_sd1, i_sd2, i_sd3, i_rln, i_rtx, i_rpl, i_rtk, i_cnv, i_pts, i_cik, i_und⟩ := (show CIv S1 from hIx)
  have klcL_S1 : kcL S S1 := klcL_S1
  have klcP_S1 : kcP S S1 := klcP_S1
  have klcU_S1 : kcU S S1 := klcU_S1
  have klcW_S1 : kcW S S1 := klcW_S1
  have hf1 : 0 ≤ i.toInt ∧ i.toInt ≤ 384 ∧ 384 ≤ i.toInt + ((k : Nat) : Int) := hf1
  have hP : va_P D classes (cW T ad S1) H := hP
  have hD : va_D A (cW T ad S1) := hD
  have hl : lv_has ls 3 [(2, .int i), (1, .int n), (0, .ref (ad 67))] := hl
  refine lv_iload_n hx hb d_Canvas_wipe_4 rfl (lv_at hl 0 rfl) ?_
  refine lv_aload_n hx hb d_Canvas_wipe_5 rfl (lv_at hl 2 rfl) ?_
  refine va_get (D := D) (ci := 6) (v := .ref (ad 68)) (C := "PageScribe$Canvas") (T := F_Canvas) (N := 9) hx hb hts i_Canvas hown hK hP 67 (ce_67 _ _ _) cl_6 3 (by decide) (hts _ k_1_210) (fun _ h9 => h9) rfl d_Canvas_wipe_6 ?_
  refine va_alen (v := (nI (lvN S1))) hx hb hK hP 68 0 (ce_68 _ _ _) rfl rfl d_Canvas_wipe_9 ?_
  refine lv_topi (fun x1 ex1 => ?_)
  have fx1 : x1.toInt = ((lvN S1 : Nat) : Int) := by rw [ex1]; exact nI_toInt (Nat.lt_of_le_of_lt (lv_le i_cnv) (by decide))
  have kx1 := lv_le (S := S1) i_cnv
  refine lv_icmp_ge (tgt := 43) hx hb d_Canvas_wipe_10 (by decide) (fun c10_1 => ?_) (fun c10_1 => ?_)
  · have fc10_1 : x1.toInt ≤ i.toInt := zt_le (show x1.toInt = _ from rfl) (show i.toInt = _ from rfl) c10_1
    refine lv_iload_n hx hb d_Canvas_wipe_43 rfl (lv_at hl 1 rfl) ?_
    exact j_iret F hr hlocks hK hS S1 ⟨⟨i_vst, i_vc0, i_vc1, i_vc2, i_vc3, i_vv0, i_vv1, i_vv2, i_vv3, i_vg, i_wct, i_wln, i_sd0, i_sd1, i_sd2, i_sd3, i_rln, i_rtx, i_rpl, i_rtk, i_cnv, i_pts, i_cik, i_und⟩, klcL_S1, klcP_S1, klcU_S1, klcW_S1⟩ hP hD d_Canvas_wipe_44
  · have fc10_1 : i.toInt < x1.toInt := Int.not_le.mp (zt_nle (show x1.toInt = _ from rfl) (show i.toInt = _ from rfl) c10_1)
    refine lv_iload_n hx hb d_Canvas_wipe_13 rfl (lv_at hl 1 rfl) ?_
    refine j_joinH (α := Int32) (fun x H locs ls => (True) ∧ va_P D classes (cW T ad S1) H ∧ va_D A (cW T ad S1) ∧ va_S A s.heap H locs ∧ lv_has ls 3 [(2, .int i), (1, .int n), (0, .ref (ad 67))]) (fun x ls => F0 m 28 ls (.int x :: [.int n])) (fun x H locs ls hI9 => ?_) (fun key1 => ?_)
    · obtain ⟨j1, rfl⟩ : ∃ z, z = x := ⟨_, rfl⟩
      obtain ⟨hj1, hP, hD, hS, hl⟩ := hI9
      have hP : va_P D classes (cW T ad S1) H := hP
      have hD : va_D A (cW T ad S1) := hD
      have hl : lv_has ls 3 [(2, .int i), (1, .int n), (0, .ref (ad 67))] := hl
      refine lv_iadd hx hb d_Canvas_wipe_28 ?_
      refine lv_topi (fun x2 ex2 => ?_)
      have rx2 := zt_rng x2
      refine lv_istore_n (lv' := [(1, .int x2), (2, .int i), (0, .ref (ad 67))]) hx hb d_Canvas_wipe_29 rfl hl (by decide) rfl (fun ls hl => ?_)
      refine lv_aload_n hx hb d_Canvas_wipe_30 rfl (lv_at hl 2 rfl) ?_
      refine va_get (D := D) (ci := 6) (v := .ref (ad 68)) (C := "PageScribe$Canvas") (T := F_Canvas) (N := 9) hx hb hts i_Canvas hown hK hP 67 (ce_67 _ _ _) cl_6 3 (by decide) (hts _ k_1_210) (fun _ h9 => h9) rfl d_Canvas_wipe_31 ?_
      refine lv_iload_n hx hb d_Canvas_wipe_34 rfl (lv_at hl 1 rfl) ?_
      refine lv_iconst (v := 0) hx hb d_Canvas_wipe_35 (by decide) ?_
      refine va_iast hx hb hK hP hD hS 68 0 (ce_68 _ _ _) rfl (zt_in (show i.toInt = _ from rfl) (by omega) (by omega)) d_Canvas_wipe_36 (fun H locs hP hD hS => ?_)
      rw [cs_xp_levels] at hP hD
      rw [zt_ix (show i.toInt = _ from rfl)] at hP hD
      have hP : va_P D classes (cW T ad ((S1.1, S1.2.1, S1.2.2.1, S1.2.2.2.1, S1.2.2.2.2.1, S1.2.2.2.2.2.1, S1.2.2.2.2.2.2.1, ((f_xp_columns S1), (f_xp_rows S1), (upd (a_xp_levels S1) (i.toInt.toNat) (0 : Int32)), (f_xp_gray S1), (a_xp_across S1), (a_xp_along S1), (a_xp_begins S1), (f_xp_points S1)), S1.2.2.2.2.2.2.2.2) : CS)) H := hP
      have hD : va_D A (cW T ad ((S1.1, S1.2.1, S1.2.2.1, S1.2.2.2.1, S1.2.2.2.2.1, S1.2.2.2.2.2.1, S1.2.2.2.2.2.2.1, ((f_xp_columns S1), (f_xp_rows S1), (upd (a_xp_levels S1) (i.toInt.toNat) (0 : Int32)), (f_xp_gray S1), (a_xp_across S1), (a_xp_along S1), (a_xp_begins S1), (f_xp_points S1)), S1.2.2.2.2.2.2.2.2) : CS)) := hD
      refine lv_iinc (v := (i + 1)) (lv' := [(2, .int (i + 1)), (1, .int x2), (0, .ref (ad 67))]) hx hb d_Canvas_wipe_37 hl (k := 1) rfl (by first | rfl | decide) (by decide) rfl (fun ls hl => ?_)
      obtain ⟨x3, ex3⟩ : ∃ z, z = (i + 1) := ⟨_, rfl⟩
      rw [← ex3] at hl
      have fx3 : x3.toInt = (i.toInt + 1) := by rw [ex3]; exact (zt_add (show i.toInt = _ from rfl) tI_1 (by omega) (by omega)).trans (by omega)
      have hl : lv_has ls 3 [(2, .int x3), (1, .int x2), (0, .ref (ad 67))] := hl
      refine lv_goto (tgt := 4) hx hb d_Canvas_wipe_40 (by decide) ?_
      exact ih (k - 1) (((S1.1, S1.2.1, S1.2.2.1, S1.2.2.2.1, S1.2.2.2.2.1, S1.2.2.2.2.2.1, S1.2.2.2.2.2.2.1, ((f_xp_columns S1), (f_xp_rows S1), (upd (a_xp_levels S1) (i.toInt.toNat) (0 : Int32)), (f_xp_gray S1), (a_xp_across S1), (a_xp_along S1), (a_xp_begins S1), (f_xp_points S1)), S1.2.2.2.2.2.2.2.2) : CS), x2, x3) _ _ _ (by omega) ⟨(show 0 ≤ x3.toInt ∧ x3.toInt ≤ 384 ∧ 384 ≤ x3.toInt + (((k - 1) : Nat) : Int) by omega), ⟨i_vst, i_vc0, i_vc1, i_vc2, i_vc3, i_vv0, i_vv1, i_vv2, i_vv3, i_vg, i_wct, i_wln, i_sd0, i_sd1, i_sd2, i_sd3, i_rln, i_rtx, i_rpl, i_rtk, i_cnv, i_pts, i_cik, i_und⟩, (show kcL S ((S1.1, S1.2.1, S1.2.2.1, S1.2.2.2.1, S1.2.2.2.2.1, S1.2.2.2.2.2.1, S1.2.2.2.2.2.2.1, ((f_xp_columns S1), (f_xp_rows S1), (upd (a_xp_levels S1) (i.toInt.toNat) (0 : Int32)), (f_xp_gray S1), (a_xp_across S1), (a_xp_along S1), (a_xp_begins S1), (f_xp_points S1)), S1.2.2.2.2.2.2.2.2) : CS) from klcL_S1), (show kcP S ((S1.1, S1.2.1, S1.2.2.1, S1.2.2.2.1, S1.2.2.2.2.1, S1.2.2.2.2.2.1, S1.2.2.2.2.2.2.1, ((f_xp_columns S1), (f_xp_rows S1), (upd (a_xp_levels S1) (i.toInt.toNat) (0 : Int32)), (f_xp_gray S1), (a_xp_across S1), (a_xp_along S1), (a_xp_begins S1), (f_xp_points S1)), S1.2.2.2.2.2.2.2.2) : CS) from klcP_S1), (show kcU S ((S1.1, S1.2.1, S1.2.2.1, S1.2.2.2.1, S1.2.2.2.2.1, S1.2.2.2.2.2.1, S1.2.2.2.2.2.2.1, ((f_xp_columns S1), (f_xp_rows S1), (upd (a_xp_levels S1) (i.toInt.toNat) (0 : Int32)), (f_xp_gray S1), (a_xp_across S1), (a_xp_along S1), (a_xp_begins S1), (f_xp_points S1)), S1.2.2.2.2.2.2.2.2) : CS) from klcU_S1), (show kcW S ((S1.1, S1.2.1, S1.2.2.1, S1.2.2.2.1, S1.2.2.2.2.1, S1.2.2.2.2.2.1, S1.2.2.2.2.2.2.1, ((f_xp_columns S1), (f_xp_rows S1), (upd (a_xp_levels S1) (i.toInt.toNat) (0 : Int32)), (f_xp_gray S1), (a_xp_across S1), (a_xp_along S1), (a_xp_begins S1), (f_xp_points S1)), S1.2.2.2.2.2.2.2.2) : CS) from klcW_S1), hP, hD, hS, lv_sub hl [0, 1, 2] rfl⟩
    · refine lv_aload_n hx hb d_Canvas_wipe_14 rfl (lv_at hl 2 rfl) ?_
      refine va_get (D := D) (ci := 6) (v := .ref (ad 68)) (C := "PageScribe$Canvas") (T := F_Canvas) (N := 9) hx hb hts i_Canvas hown hK hP 67 (ce_67 _ _ _) cl_6 3 (by decide) (hts _ k_1_210) (fun _ h9 => h9) rfl d_Canvas_wipe_15 ?_
      refine lv_iload_n hx hb d_Canvas_wipe_18 rfl (lv_at hl 0 rfl) ?_
      refine va_iald hx hb hK hP 68 0 (ce_68 _ _ _) rfl (zt_in (show i.toInt = _ from rfl) (by omega) (by omega)) d_Canvas_wipe_19 ?_
      refine lv_topi (fun x4 ex4 => ?_)
      have gx4 : x4 = (a_xp_levels S1) i.toInt.toNat := ex4.trans (congrArg _ (zt_ix (show i.toInt = _ from rfl)))
      have fx4 : x4.toInt = ((a_xp_levels S1) i.toInt.toNat).toInt := by rw [gx4]
      have rx4 := zt_rng x4
      refine lv_if_le (tgt := 27) hx hb d_Canvas_wipe_20 (by decide) (fun c20_1 => ?_) (fun c20_1 => ?_)
      · have fc20_1 : x4.toInt ≤ 0 := zt_le (show x4.toInt = _ from rfl) tI_0 c20_1
        refine lv_iconst (v := 0) hx hb d_Canvas_wipe_27 (by decide) ?_
        exact key1 (0 : Int32) _ _ _ ⟨trivial, hP, hD, hS, lv_sub hl [0, 1, 2] rfl⟩
      · have fc20_1 : 0 < x4.toInt := Int.not_le.mp (zt_nle (show x4.toInt = _ from rfl) tI_0 c20_1)
        refine lv_iconst (v := 1) hx hb d_Canvas_wipe_23 (by decide) ?_
        refine lv_goto (tgt := 28) hx hb d_Canvas_wipe_24 (by decide) ?_
        exact key1 (1 : Int32) _ _ _ ⟨trivial, hP, hD, hS, lv_sub hl [0, 1, 2] rfl⟩
theorem d_Canvas_setGray_0 : decode prog_3_method_5_code 0 = .ok (.aload_n 0, 1) := by decide +kernel
theorem d_Canvas_setGray_1 : decode prog_3_method_5_code 1 = .ok (.getfield 30, 3) := by decide +kernel
theorem k_1_207 : Cond.fieldLink "PageScribe$Canvas" 30 "PageScribe$Canvas" "stack" "LPageScribe$Stack;" ∈ gw := gw_of (tb_1 (List.mem_of_getElem? (i := 207) (by decide +kernel))) (by decide +kernel)
theorem d_Canvas_setGray_4 : decode prog_3_method_5_code 4 = .ok (.iconst 0, 1) := by decide +kernel
theorem d_Canvas_setGray_5 : decode prog_3_method_5_code 5 = .ok (.invokevirtual 74, 3) := by decide +kernel
theorem k_5_136 : Cond.methodLink "PageScribe$Canvas" 74 ⟨"PageScribe$Stack", "doubleDown", "(I)D"⟩ ∈ gw := gw_of (tb_5 (List.mem_of_getElem? (i := 136) (by decide +kernel))) (by decide +kernel)
theorem d_Canvas_setGray_8 : decode prog_3_method_5_code 8 = .ok (.dstore_n 1, 1) := by decide +kernel
theorem d_Canvas_setGray_9 : decode prog_3_method_5_code 9 = .ok (.dload_n 1, 1) := by decide +kernel
theorem d_Canvas_setGray_10 : decode prog_3_method_5_code 10 = .ok (.dconst 0, 1) := by decide +kernel
theorem d_Canvas_setGray_11 : decode prog_3_method_5_code 11 = .ok (.dcmp .g, 1) := by decide +kernel
theorem d_Canvas_setGray_12 : decode prog_3_method_5_code 12 = .ok (.ifCond .lt 9, 3) := by decide +kernel
theorem d_Canvas_setGray_21 : decode prog_3_method_5_code 21 = .ok (.iconst 4, 1) := by decide +kernel
theorem d_Canvas_setGray_22 : decode prog_3_method_5_code 22 = .ok (.ireturn, 1) := by decide +kernel
theorem d_Canvas_setGray_15 : decode prog_3_method_5_code 15 = .ok (.dload_n 1, 1) := by decide +kernel
theorem d_Canvas_setGray_16 : decode prog_3_method_5_code 16 = .ok (.dconst 1, 1) := by decide +kernel
theorem d_Canvas_setGray_17 : decode prog_3_method_5_code 17 = .ok (.dcmp .l, 1) := by decide +kernel
theorem d_Canvas_setGray_18 : decode prog_3_method_5_code 18 = .ok (.ifCond .le 5, 3) := by decide +kernel
theorem d_Canvas_setGray_23 : decode prog_3_method_5_code 23 = .ok (.aload_n 0, 1) := by decide +kernel
theorem d_Canvas_setGray_24 : decode prog_3_method_5_code 24 = .ok (.dload_n 1, 1) := by decide +kernel
theorem d_Canvas_setGray_25 : decode prog_3_method_5_code 25 = .ok (.d2f, 1) := by decide +kernel
theorem d_Canvas_setGray_26 : decode prog_3_method_5_code 26 = .ok (.putfield 9, 3) := by decide +kernel
theorem k_1_211 : Cond.fieldLink "PageScribe$Canvas" 9 "PageScribe$Canvas" "gray" "F" ∈ gw := gw_of (tb_1 (List.mem_of_getElem? (i := 211) (by decide +kernel))) (by decide +kernel)
theorem d_Canvas_setGray_29 : decode prog_3_method_5_code 29 = .ok (.aload_n 0, 1) := by decide +kernel
theorem d_Canvas_setGray_30 : decode prog_3_method_5_code 30 = .ok (.getfield 30, 3) := by decide +kernel
theorem d_Canvas_setGray_33 : decode prog_3_method_5_code 33 = .ok (.iconst 1, 1) := by decide +kernel
theorem d_Canvas_setGray_34 : decode prog_3_method_5_code 34 = .ok (.invokevirtual 80, 3) := by decide +kernel
theorem k_5_137 : Cond.methodLink "PageScribe$Canvas" 80 ⟨"PageScribe$Stack", "drop", "(I)V"⟩ ∈ gw := gw_of (tb_5 (List.mem_of_getElem? (i := 137) (by decide +kernel))) (by decide +kernel)
theorem d_Canvas_setGray_37 : decode prog_3_method_5_code 37 = .ok (.iconst 0, 1) := by decide +kernel
theorem d_Canvas_setGray_38 : decode prog_3_method_5_code 38 = .ok (.ireturn, 1) := by decide +kernel
set_option maxHeartbeats 4000000 in
set_option maxRecDepth 100000 in
theorem c_Canvas_setGray (l : Launch) (D : va_G) (T : Nat → ClassId) (ad : Nat → Nat) (S : CS)  (sz : Nat)  (hI : CIv S) : Met l ⟨"PageScribe$Canvas", "setGray", "()I"⟩ (wy ⟨"PageScribe$Canvas", "setGray", "()I"⟩ prog_3_method_5_code 3 (some .int)) ({ frames := 3, cells := 0, slots := 0, locals := 210 }) (va_Pc [.ref (ad 67)] (Pw D T (cW T ad S) sz E0)) (va_Qi (fun (r : Int32) (u : CS) => CIv u ∧ kcL S u ∧ kcP S u ∧ kcU S u ∧ kcW S u) (fun u t => Bw D T (va_A (cW T ad S) sz) (cW T ad u) t) (va_A (cW T ad S) sz)) 0 0 (va_A (cW T ad S) sz) := by
  refine j_met (y := ⟨"PageScribe$Canvas", "setGray", "()I"⟩) (b := prog_3_method_5_code) (n := 3) (ret := (some .int)) (av := [.ref (ad 67)]) (Qc := fun A => va_Qi (fun (r : Int32) (u : CS) => CIv u ∧ kcL S u ∧ kcP S u ∧ kcU S u ∧ kcW S u) (fun u t => Bw D T A (cW T ad u) t) A) (by decide +kernel) (Nat.le_of_ble_eq_true rfl) (fun p e s m args below meth c A ls F hr hlocks hnm hK hP hD hS hA hN hE hl => ?_)
  obtain ⟨hx, hb, hml, hown, hts⟩ := id F
  have hl : lv_has ls 3 [(0, .ref (ad 67))] := hl
  obtain ⟨i_vst, i_vc0, i_vc1, i_vc2, i_vc3, i_vv0, i_vv1, i_vv2, i_vv3, i_vg, i_wct, i_wln, i_sd0, i_sd1, i_sd2, i_sd3, i_rln, i_rtx, i_rpl, i_rtk, i_cnv, i_pts, i_cik, i_und⟩ := id hI
  refine lv_aload_n hx hb d_Canvas_setGray_0 rfl (lv_at hl 0 rfl) ?_
  refine va_get (D := D) (ci := 6) (v := .ref (ad 1)) (C := "PageScribe$Canvas") (T := F_Canvas) (N := 9) hx hb hts i_Canvas hown hK hP 67 (ce_67 _ _ _) cl_6 0 (by decide) (hts _ k_1_207) (fun _ h9 => h9) rfl d_Canvas_setGray_1 ?_
  refine lv_iconst (v := 0) hx hb d_Canvas_setGray_4 (by decide) ?_
  refine jc_cd (w := (fun _ => S)) hK hP hD hS hA (va_runV (As := [.int 0]) (rest := []) F (c_Stack_doubleDown l D T ad S (0 : Int32)  s.heap.size ⟨i_vst, i_vc0, i_vc1, i_vc2, i_vc3, i_vv0, i_vv1, i_vv2, i_vv3, i_vg, i_wct, i_wln, i_sd0, i_sd1, i_sd2, i_sd3, i_rln, i_rtx, i_rpl, i_rtk, i_cnv, i_pts, i_cik, i_und⟩) (j_cV (k := 1) (C := "PageScribe$Stack") hts k_4_113 k_1_3 k_5_136 k_4_111 k_4_112 (by decide +kernel) ⟨Nat.le_of_ble_eq_true rfl, Nat.le_of_ble_eq_true rfl⟩) (j_preV (q0 := 1) (ci := 0) hK hP hD csc csc_all csc_nd cl_0 (ce_1 _ _ _) (fun _ _ _ _ h => h) (fun _ _ _ => trivial)) rfl rfl hl.1 rfl (lv_room (Nat.le_of_ble_eq_true rfl)) d_Canvas_setGray_5 ⟨Nat.le_of_ble_eq_true rfl, Nat.le_of_ble_eq_true rfl⟩) (fun rv1 u1 H locs hw1 hP hD hS => ?_)
  have hP : va_P D classes (cW T ad S) H := hP
  have hD : va_D A (cW T ad S) := hD
  have qhw1 : dB rv1 := by simpa only [tI_0] using hw1
  refine lv_dstore_n (lv' := [(1, .double rv1), (0, .ref (ad 67))]) hx hb d_Canvas_setGray_8 rfl hl (by decide) rfl (fun ls hl => ?_)
  refine lv_dload_n hx hb d_Canvas_setGray_9 rfl (lv_at hl 0 rfl) ?_
  refine lv_dconst0 hx hb d_Canvas_setGray_10 ?_
  have := tD_0
  refine lv_dcmp hx hb d_Canvas_setGray_11 ?_
  refine lv_topi (fun x1 ex1 => ?_)
  refine lv_if_lt (tgt := 21) hx hb d_Canvas_setGray_12 (by decide) (fun c12_1 => ?_) (fun c12_1 => ?_)
  · have fc12_1 : x1.toInt < 0 := zt_lt (show x1.toInt = _ from rfl) tI_0 c12_1
    have vc12_1 : dk rv1 < dk 0 := by have := zr_dcmp (a := rv1) (b := 0) ex1 (show dN rv1 by omega) (show dN 0 by omega); have := zt_lt (show x1.toInt = _ from rfl) tI_0 c12_1; omega
    refine lv_iconst (v := 4) hx hb d_Canvas_setGray_21 (by decide) ?_
    exact j_iret F hr hlocks hK hS S ⟨⟨i_vst, i_vc0, i_vc1, i_vc2, i_vc3, i_vv0, i_vv1, i_vv2, i_vv3, i_vg, i_wct, i_wln, i_sd0, i_sd1, i_sd2, i_sd3, i_rln, i_rtx, i_rpl, i_rtk, i_cnv, i_pts, i_cik, i_und⟩, (kcL_r S), (kcP_r S), (kcU_r S), (kcW_r S)⟩ hP hD d_Canvas_setGray_22
  · have fc12_1 : 0 ≤ x1.toInt := Int.not_lt.mp (zt_nlt (show x1.toInt = _ from rfl) tI_0 c12_1)
    have vc12_1 : dk rv1 ≥ dk 0 := by have := zr_dcmp (a := rv1) (b := 0) ex1 (show dN rv1 by omega) (show dN 0 by omega); have := Int.not_lt.mp (zt_nlt (show x1.toInt = _ from rfl) tI_0 c12_1); omega
    refine lv_dload_n hx hb d_Canvas_setGray_15 rfl (lv_at hl 0 rfl) ?_
    refine lv_dconst1 hx hb d_Canvas_setGray_16 ?_
    have := tD_4607182418800017408
    refine lv_dcmp hx hb d_Canvas_setGray_17 ?_
    refine lv_topi (fun x2 ex2 => ?_)
    refine lv_if_le (tgt := 23) hx hb d_Canvas_setGray_18 (by decide) (fun c18_1 => ?_) (fun c18_1 => ?_)
    · have fc18_1 : x2.toInt ≤ 0 := zt_le (show x2.toInt = _ from rfl) tI_0 c18_1
      have vc18_1 : dk rv1 ≤ dk 4607182418800017408 := by have := zr_dcmp (a := rv1) (b := 4607182418800017408) ex2 (show dN rv1 by omega) (show dN 4607182418800017408 by omega); have := zt_le (show x2.toInt = _ from rfl) tI_0 c18_1; omega
      refine lv_aload_n hx hb d_Canvas_setGray_23 rfl (lv_at hl 1 rfl) ?_
      refine lv_dload_n hx hb d_Canvas_setGray_24 rfl (lv_at hl 0 rfl) ?_
      have nf1 := zf_d2f (show dN rv1 by omega)
      refine lv_d2f hx hb d_Canvas_setGray_25 (zf_N nf1) ?_
      refine va_put (D := D) (ci := 6) (v := .float (FP.d2f rv1)) (ty := .float) (C := "PageScribe$Canvas") (T := F_Canvas) (N := 9) hx hb hts i_Canvas t_Canvas t_Canvas_ok n_Canvas hown hK hP hD hS 67 (ce_67 _ _ _) cl_6 4 (by decide) (hts _ k_1_211) (fun _ h9 => h9) rfl (by decide +kernel) rfl rfl (Nat.le_of_ble_eq_true rfl) d_Canvas_setGray_26 (fun H locs hP hD hS => ?_)
      rw [cp_xp_gray] at hP hD
      have hP : va_P D classes (cW T ad ((S.1, S.2.1, S.2.2.1, S.2.2.2.1, S.2.2.2.2.1, S.2.2.2.2.2.1, S.2.2.2.2.2.2.1, ((f_xp_columns S), (f_xp_rows S), (a_xp_levels S), (FP.d2f rv1), (a_xp_across S), (a_xp_along S), (a_xp_begins S), (f_xp_points S)), S.2.2.2.2.2.2.2.2) : CS)) H := hP
      have hD : va_D A (cW T ad ((S.1, S.2.1, S.2.2.1, S.2.2.2.1, S.2.2.2.2.1, S.2.2.2.2.2.1, S.2.2.2.2.2.2.1, ((f_xp_columns S), (f_xp_rows S), (a_xp_levels S), (FP.d2f rv1), (a_xp_across S), (a_xp_along S), (a_xp_begins S), (f_xp_points S)), S.2.2.2.2.2.2.2.2) : CS)) := hD
      refine lv_aload_n hx hb d_Canvas_setGray_29 rfl (lv_at hl 1 rfl) ?_
      refine va_get (D := D) (ci := 6) (v := .ref (ad 1)) (C := "PageScribe$Canvas") (T := F_Canvas) (N := 9) hx hb hts i_Canvas hown hK hP 67 (ce_67 _ _ _) cl_6 0 (by decide) (hts _ k_1_207) (fun _ h9 => h9) rfl d_Canvas_setGray_30 ?_
      refine lv_iconst (v := 1) hx hb d_Canvas_setGray_33 (by decide) ?_
      refine jc_cv (w := (fun u => u)) hK hP hD hS hA (va_runU (As := [.int 1]) (rest := []) F (c_Row_drop l D T ad ((S.1, S.2.1, S.2.2.1, S.2.2.2.1, S.2.2.2.2.1, S.2.2.2.2.2.1, S.2.2.2.2.2.2.1, ((f_xp_columns S), (f_xp_rows S), (a_xp_levels S), (FP.d2f rv1), (a_xp_across S), (a_xp_along S), (a_xp_begins S), (f_xp_points S)), S.2.2.2.2.2.2.2.2) : CS) (1 : Int32)  H.size ⟨i_vst, i_vc0, i_vc1, i_vc2, i_vc3, i_vv0, i_vv1, i_vv2, i_vv3, i_vg, i_wct, i_wln, i_sd0, i_sd1, i_sd2, i_sd3, i_rln, i_rtx, i_rpl, i_rtk, i_cnv, i_pts, ⟨nf1, i_cik.2⟩, i_und⟩) (j_cU (k := 1) (C := "PageScribe$Stack") (owner := "PageScribe$Row") (x := ⟨"PageScribe$Stack", "drop", "(I)V"⟩) hts k_4_47 k_5_137 k_4_43 k_4_45 k_4_46 k_1_2 rfl (by decide +kernel) ⟨Nat.le_of_ble_eq_true rfl, Nat.le_of_ble_eq_true rfl⟩) (j_preV (q0 := 1) (ci := 0) hK hP hD csc csc_all csc_nd cl_0 (ce_1 _ _ _) (fun _ _ _ _ h => h) (fun _ _ _ => trivial)) rfl rfl hl.1 rfl (lv_room (Nat.le_of_ble_eq_true rfl)) d_Canvas_setGray_34 ⟨Nat.le_of_ble_eq_true rfl, Nat.le_of_ble_eq_true rfl⟩) (fun S1 H locs hw2 hP hD hS => ?_)
      have hP : va_P D classes (cW T ad S1) H := hP
      have hD : va_D A (cW T ad S1) := hD
      obtain ⟨⟨i_vst, i_vc0, i_vc1, i_vc2, i_vc3, i_vv0, i_vv1, i_vv2, i_vv3, i_vg, i_wct, i_wln, i_sd0, i_sd1, i_sd2, i_sd3, i_rln, i_rtx, i_rpl, i_rtk, i_cnv, i_pts, i_cik, i_und⟩, kpcL_S1, kpcP_S1, kpcU_S1, kpcW_S1⟩ := hw2
      have kScL_S1 : kcL S S1 := kcL_t (show kcL S ((S.1, S.2.1, S.2.2.1, S.2.2.2.1, S.2.2.2.2.1, S.2.2.2.2.2.1, S.2.2.2.2.2.2.1, ((f_xp_columns S), (f_xp_rows S), (a_xp_levels S), (FP.d2f rv1), (a_xp_across S), (a_xp_along S), (a_xp_begins S), (f_xp_points S)), S.2.2.2.2.2.2.2.2) : CS) from (kcL_r S)) kpcL_S1
      have kScP_S1 : kcP S S1 := kcP_t (show kcP S ((S.1, S.2.1, S.2.2.1, S.2.2.2.1, S.2.2.2.2.1, S.2.2.2.2.2.1, S.2.2.2.2.2.2.1, ((f_xp_columns S), (f_xp_rows S), (a_xp_levels S), (FP.d2f rv1), (a_xp_across S), (a_xp_along S), (a_xp_begins S), (f_xp_points S)), S.2.2.2.2.2.2.2.2) : CS) from (kcP_r S)) kpcP_S1
      have kScU_S1 : kcU S S1 := kcU_t (show kcU S ((S.1, S.2.1, S.2.2.1, S.2.2.2.1, S.2.2.2.2.1, S.2.2.2.2.2.1, S.2.2.2.2.2.2.1, ((f_xp_columns S), (f_xp_rows S), (a_xp_levels S), (FP.d2f rv1), (a_xp_across S), (a_xp_along S), (a_xp_begins S), (f_xp_points S)), S.2.2.2.2.2.2.2.2) : CS) from (kcU_r S)) kpcU_S1
      have kScW_S1 : kcW S S1 := kcW_t (show kcW S ((S.1, S.2.1, S.2.2.1, S.2.2.2.1, S.2.2.2.2.1, S.2.2.2.2.2.1, S.2.2.2.2.2.2.1, ((f_xp_columns S), (f_xp_rows S), (a_xp_levels S), (FP.d2f rv1), (a_xp_across S), (a_xp_along S), (a_xp_begins S), (f_xp_points S)), S.2.2.2.2.2.2.2.2) : CS) from (kcW_r S)) kpcW_S1
      have nxr_length_S1 : (f_xr_length S1).toInt = (f_xr_length S).toInt := congrArg Int32.toInt kpcL_S1
      have nxr_length_S1 : (f_xr_length S1).toInt = (f_xr_length S).toInt := congrArg Int32.toInt kpcP_S1.1
      have nxr_place_S1 : (f_xr_place S1).toInt = (f_xr_place S).toInt := congrArg Int32.toInt kpcP_S1.2.1
      have nxe_underWay_S1 : (f_xe_underWay S1).toInt = (f_xe_underWay S).toInt := congrArg Int32.toInt kpcU_S1
      have nxp_columns_S1 : (f_xp_columns S1).toInt = (f_xp_columns S).toInt := congrArg Int32.toInt kpcW_S1.1
      have nxp_rows_S1 : (f_xp_rows S1).toInt = (f_xp_rows S).toInt := congrArg Int32.toInt kpcW_S1.2
      refine lv_iconst (v := 0) hx hb d_Canvas_setGray_37 (by decide) ?_
      exact j_iret F hr hlocks hK hS S1 ⟨⟨i_vst, i_vc0, i_vc1, i_vc2, i_vc3, i_vv0, i_vv1, i_vv2, i_vv3, i_vg, i_wct, i_wln, i_sd0, i_sd1, i_sd2, i_sd3, i_rln, i_rtx, i_rpl, i_rtk, i_cnv, i_pts, i_cik, i_und⟩, kScL_S1, kScP_S1, kScU_S1, kScW_S1⟩ hP hD d_Canvas_setGray_38
    · have fc18_1 : 0 < x2.toInt := Int.not_le.mp (zt_nle (show x2.toInt = _ from rfl) tI_0 c18_1)
      have vc18_1 : dk rv1 > dk 4607182418800017408 := by have := zr_dcmp (a := rv1) (b := 4607182418800017408) ex2 (show dN rv1 by omega) (show dN 4607182418800017408 by omega); have := Int.not_le.mp (zt_nle (show x2.toInt = _ from rfl) tI_0 c18_1); omega
      refine lv_iconst (v := 4) hx hb d_Canvas_setGray_21 (by decide) ?_
      exact j_iret F hr hlocks hK hS S ⟨⟨i_vst, i_vc0, i_vc1, i_vc2, i_vc3, i_vv0, i_vv1, i_vv2, i_vv3, i_vg, i_wct, i_wln, i_sd0, i_sd1, i_sd2, i_sd3, i_rln, i_rtx, i_rpl, i_rtk, i_cnv, i_pts, i_cik, i_und⟩, (kcL_r S), (kcP_r S), (kcU_r S), (kcW_r S)⟩ hP hD d_Canvas_setGray_22
theorem d_Canvas_isOff_0 : decode prog_3_method_6_code 0 = .ok (.dload_n 0, 1) := by decide +kernel
theorem d_Canvas_isOff_1 : decode prog_3_method_6_code 1 = .ok (.ldc2_w 84, 3) := by decide +kernel
theorem k_5_147 : Cond.constantDouble "PageScribe$Canvas" 84 (4696837146684686336 : UInt64) ∈ gw := gw_of (tb_5 (List.mem_of_getElem? (i := 147) (by decide +kernel))) (by decide +kernel)
theorem d_Canvas_isOff_4 : decode prog_3_method_6_code 4 = .ok (.dcmp .l, 1) := by decide +kernel
theorem d_Canvas_isOff_5 : decode prog_3_method_6_code 5 = .ok (.ifCond .gt 11, 3) := by decide +kernel
theorem d_Canvas_isOff_16 : decode prog_3_method_6_code 16 = .ok (.iconst 1, 1) := by decide +kernel
theorem d_Canvas_isOff_17 : decode prog_3_method_6_code 17 = .ok (.goto 4, 3) := by decide +kernel
theorem d_Canvas_isOff_21 : decode prog_3_method_6_code 21 = .ok (.ireturn, 1) := by decide +kernel
theorem d_Canvas_isOff_8 : decode prog_3_method_6_code 8 = .ok (.dload_n 0, 1) := by decide +kernel
theorem d_Canvas_isOff_9 : decode prog_3_method_6_code 9 = .ok (.ldc2_w 86, 3) := by decide +kernel
theorem k_5_148 : Cond.constantDouble "PageScribe$Canvas" 86 (13920209183539462144 : UInt64) ∈ gw := gw_of (tb_5 (List.mem_of_getElem? (i := 148) (by decide +kernel))) (by decide +kernel)
theorem d_Canvas_isOff_12 : decode prog_3_method_6_code 12 = .ok (.dcmp .g, 1) := by decide +kernel
theorem d_Canvas_isOff_13 : decode prog_3_method_6_code 13 = .ok (.ifCond .ge 7, 3) := by decide +kernel
theorem d_Canvas_isOff_20 : decode prog_3_method_6_code 20 = .ok (.iconst 0, 1) := by decide +kernel
set_option maxHeartbeats 4000000 in
set_option maxRecDepth 100000 in
theorem c_Canvas_isOff (l : Launch) (D : va_G) (T : Nat → ClassId) (d0 : UInt64) (sz : Nat)  (h1 : dN d0) : Met l ⟨"PageScribe$Canvas", "isOff", "(D)Z"⟩ (wy ⟨"PageScribe$Canvas", "isOff", "(D)Z"⟩ prog_3_method_6_code 2 (some .boolean)) ({ frames := 0, cells := 0, slots := 0, locals := 0 }) (va_Pc [.double d0] (Pw D T [] sz E0)) (va_Qi (fun (r : Int32) (u : Unit) => r.toInt = 1 ∨ (r.toInt = 0 ∧ dI d0)) (fun u t => Bw D T (va_A [] sz) [] t) (va_A [] sz)) 0 0 (va_A [] sz) := by
  refine j_met (y := ⟨"PageScribe$Canvas", "isOff", "(D)Z"⟩) (b := prog_3_method_6_code) (n := 2) (ret := (some .boolean)) (av := [.double d0]) (Qc := fun A => va_Qi (fun (r : Int32) (u : Unit) => r.toInt = 1 ∨ (r.toInt = 0 ∧ dI d0)) (fun u t => Bw D T A [] t) A) (by decide +kernel) (Nat.le_of_ble_eq_true rfl) (fun p e s m args below meth c A ls F hr hlocks hnm hK hP hD hS hA hN hE hl => ?_)
  obtain ⟨hx, hb, hml, hown, hts⟩ := id F
  have hl : lv_has ls 2 [(0, .double d0)] := hl
  refine lv_dload_n hx hb d_Canvas_isOff_0 rfl (lv_at hl 0 rfl) ?_
  refine lv_ldc2d (v := 4696837146684686336) hx hb hown (hts _ k_5_147) d_Canvas_isOff_1 ?_
  have := tD_4696837146684686336
  refine lv_dcmp hx hb d_Canvas_isOff_4 ?_
  refine lv_topi (fun x1 ex1 => ?_)
  refine lv_if_gt (tgt := 16) hx hb d_Canvas_isOff_5 (by decide) (fun c5_1 => ?_) (fun c5_1 => ?_)
  · have fc5_1 : 0 < x1.toInt := zt_lt tI_0 (show x1.toInt = _ from rfl) c5_1
    have vc5_1 : dk d0 > dk 4696837146684686336 := by have := zr_dcmp (a := d0) (b := 4696837146684686336) ex1 (show dN d0 by omega) (show dN 4696837146684686336 by omega); have := zt_lt tI_0 (show x1.toInt = _ from rfl) c5_1; omega
    refine lv_iconst (v := 1) hx hb d_Canvas_isOff_16 (by decide) ?_
    refine lv_goto (tgt := 21) hx hb d_Canvas_isOff_17 (by decide) ?_
    exact j_zret F hr (by decide +kernel) hlocks hK hS () (show (1 : Int32).toInt = 1 ∨ ((1 : Int32).toInt = 0 ∧ dI d0) by have := tI_1; omega) hP hD d_Canvas_isOff_21
  · have fc5_1 : x1.toInt ≤ 0 := Int.not_lt.mp (zt_nlt tI_0 (show x1.toInt = _ from rfl) c5_1)
    have vc5_1 : dk d0 ≤ dk 4696837146684686336 := by have := zr_dcmp (a := d0) (b := 4696837146684686336) ex1 (show dN d0 by omega) (show dN 4696837146684686336 by omega); have := Int.not_lt.mp (zt_nlt tI_0 (show x1.toInt = _ from rfl) c5_1); omega
    refine lv_dload_n hx hb d_Canvas_isOff_8 rfl (lv_at hl 0 rfl) ?_
    refine lv_ldc2d (v := 13920209183539462144) hx hb hown (hts _ k_5_148) d_Canvas_isOff_9 ?_
    have := tD_13920209183539462144
    refine lv_dcmp hx hb d_Canvas_isOff_12 ?_
    refine lv_topi (fun x2 ex2 => ?_)
    refine lv_if_ge (tgt := 20) hx hb d_Canvas_isOff_13 (by decide) (fun c13_1 => ?_) (fun c13_1 => ?_)
    · have fc13_1 : 0 ≤ x2.toInt := zt_le tI_0 (show x2.toInt = _ from rfl) c13_1
      have vc13_1 : dk d0 ≥ dk 13920209183539462144 := by have := zr_dcmp (a := d0) (b := 13920209183539462144) ex2 (show dN d0 by omega) (show dN 13920209183539462144 by omega); have := zt_le tI_0 (show x2.toInt = _ from rfl) c13_1; omega
      refine lv_iconst (v := 0) hx hb d_Canvas_isOff_20 (by decide) ?_
      exact j_zret F hr (by decide +kernel) hlocks hK hS () (show (0 : Int32).toInt = 1 ∨ ((0 : Int32).toInt = 0 ∧ dI d0) by have := tI_0; omega) hP hD d_Canvas_isOff_21
    · have fc13_1 : x2.toInt < 0 := Int.not_le.mp (zt_nle tI_0 (show x2.toInt = _ from rfl) c13_1)
      have vc13_1 : dk d0 < dk 13920209183539462144 := by have := zr_dcmp (a := d0) (b := 13920209183539462144) ex2 (show dN d0 by omega) (show dN 13920209183539462144 by omega); have := Int.not_le.mp (zt_nle tI_0 (show x2.toInt = _ from rfl) c13_1); omega
      refine lv_iconst (v := 1) hx hb d_Canvas_isOff_16 (by decide) ?_
      refine lv_goto (tgt := 21) hx hb d_Canvas_isOff_17 (by decide) ?_
      exact j_zret F hr (by decide +kernel) hlocks hK hS () (show (1 : Int32).toInt = 1 ∨ ((1 : Int32).toInt = 0 ∧ dI d0) by have := tI_1; omega) hP hD d_Canvas_isOff_21
theorem d_Canvas_latestBegin_0 : decode prog_3_method_8_code 0 = .ok (.aload_n 0, 1) := by decide +kernel
theorem d_Canvas_latestBegin_1 : decode prog_3_method_8_code 1 = .ok (.getfield 26, 3) := by decide +kernel
theorem k_1_215 : Cond.fieldLink "PageScribe$Canvas" 26 "PageScribe$Canvas" "points" "I" ∈ gw := gw_of (tb_1 (List.mem_of_getElem? (i := 215) (by decide +kernel))) (by decide +kernel)
theorem d_Canvas_latestBegin_4 : decode prog_3_method_8_code 4 = .ok (.ifCond .le 26, 3) := by decide +kernel
theorem d_Canvas_latestBegin_30 : decode prog_3_method_8_code 30 = .ok (.iconst (-1), 1) := by decide +kernel
theorem d_Canvas_latestBegin_31 : decode prog_3_method_8_code 31 = .ok (.ireturn, 1) := by decide +kernel
theorem d_Canvas_latestBegin_7 : decode prog_3_method_8_code 7 = .ok (.aload_n 0, 1) := by decide +kernel
theorem d_Canvas_latestBegin_8 : decode prog_3_method_8_code 8 = .ok (.getfield 26, 3) := by decide +kernel
theorem d_Canvas_latestBegin_11 : decode prog_3_method_8_code 11 = .ok (.bipush 30, 2) := by decide +kernel
theorem d_Canvas_latestBegin_13 : decode prog_3_method_8_code 13 = .ok (.if_icmp .gt 17, 3) := by decide +kernel
theorem d_Canvas_latestBegin_16 : decode prog_3_method_8_code 16 = .ok (.aload_n 0, 1) := by decide +kernel
theorem d_Canvas_latestBegin_17 : decode prog_3_method_8_code 17 = .ok (.getfield 22, 3) := by decide +kernel
theorem k_1_214 : Cond.fieldLink "PageScribe$Canvas" 22 "PageScribe$Canvas" "begins" "[I" ∈ gw := gw_of (tb_1 (List.mem_of_getElem? (i := 214) (by decide +kernel))) (by decide +kernel)
theorem d_Canvas_latestBegin_20 : decode prog_3_method_8_code 20 = .ok (.aload_n 0, 1) := by decide +kernel
theorem d_Canvas_latestBegin_21 : decode prog_3_method_8_code 21 = .ok (.getfield 26, 3) := by decide +kernel
theorem d_Canvas_latestBegin_24 : decode prog_3_method_8_code 24 = .ok (.iconst 1, 1) := by decide +kernel
theorem d_Canvas_latestBegin_25 : decode prog_3_method_8_code 25 = .ok (.isub, 1) := by decide +kernel
theorem d_Canvas_latestBegin_26 : decode prog_3_method_8_code 26 = .ok (.iaload, 1) := by decide +kernel
theorem d_Canvas_latestBegin_27 : decode prog_3_method_8_code 27 = .ok (.goto 4, 3) := by decide +kernel
set_option maxHeartbeats 4000000 in
set_option maxRecDepth 100000 in
theorem c_Canvas_latestBegin (l : Launch) (D : va_G) (T : Nat → ClassId) (ad : Nat → Nat) (S : CS)  (sz : Nat)  : Met l ⟨"PageScribe$Canvas", "latestBegin", "()I"⟩ (wy ⟨"PageScribe$Canvas", "latestBegin", "()I"⟩ prog_3_method_8_code 1 (some .int)) ({ frames := 0, cells := 0, slots := 0, locals := 0 }) (va_Pc [.ref (ad 67)] (Pw D T (cW T ad S) sz E0)) (va_Qi (fun (r : Int32) (u : Unit) => True) (fun u t => Bw D T (va_A (cW T ad S) sz) (cW T ad S) t) (va_A (cW T ad S) sz)) 0 0 (va_A (cW T ad S) sz) := by
  refine j_met (y := ⟨"PageScribe$Canvas", "latestBegin", "()I"⟩) (b := prog_3_method_8_code) (n := 1) (ret := (some .int)) (av := [.ref (ad 67)]) (Qc := fun A => va_Qi (fun (r : Int32) (u : Unit) => True) (fun u t => Bw D T A (cW T ad S) t) A) (by decide +kernel) (Nat.le_of_ble_eq_true rfl) (fun p e s m args below meth c A ls F hr hlocks hnm hK hP hD hS hA hN hE hl => ?_)
  obtain ⟨hx, hb, hml, hown, hts⟩ := id F
  have hl : lv_has ls 1 [(0, .ref (ad 67))] := hl
  refine lv_aload_n hx hb d_Canvas_latestBegin_0 rfl (lv_at hl 0 rfl) ?_
  refine va_get (D := D) (ci := 6) (v := .int (f_xp_points S)) (C := "PageScribe$Canvas") (T := F_Canvas) (N := 9) hx hb hts i_Canvas hown hK hP 67 (ce_67 _ _ _) cl_6 8 (by decide) (hts _ k_1_215) (fun _ h9 => h9) rfl d_Canvas_latestBegin_1 ?_
  refine lv_if_le (tgt := 30) hx hb d_Canvas_latestBegin_4 (by decide) (fun c4_1 => ?_) (fun c4_1 => ?_)
  · have fc4_1 : (f_xp_points S).toInt ≤ 0 := zt_le (show (f_xp_points S).toInt = _ from rfl) tI_0 c4_1
    refine lv_iconst (v := (-1)) hx hb d_Canvas_latestBegin_30 (by decide) ?_
    exact j_iret F hr hlocks hK hS () trivial hP hD d_Canvas_latestBegin_31
  · have fc4_1 : 0 < (f_xp_points S).toInt := Int.not_le.mp (zt_nle (show (f_xp_points S).toInt = _ from rfl) tI_0 c4_1)
    refine lv_aload_n hx hb d_Canvas_latestBegin_7 rfl (lv_at hl 0 rfl) ?_
    refine va_get (D := D) (ci := 6) (v := .int (f_xp_points S)) (C := "PageScribe$Canvas") (T := F_Canvas) (N := 9) hx hb hts i_Canvas hown hK hP 67 (ce_67 _ _ _) cl_6 8 (by decide) (hts _ k_1_215) (fun _ h9 => h9) rfl d_Canvas_latestBegin_8 ?_
    refine lv_bipush (v := 30) hx hb d_Canvas_latestBegin_11 (by decide) ?_
    refine lv_icmp_gt (tgt := 30) hx hb d_Canvas_latestBegin_13 (by decide) (fun c13_1 => ?_) (fun c13_1 => ?_)
    · have fc13_1 : 30 < (f_xp_points S).toInt := zt_lt tI_30 (show (f_xp_points S).toInt = _ from rfl) c13_1
      refine lv_iconst (v := (-1)) hx hb d_Canvas_latestBegin_30 (by decide) ?_
      exact j_iret F hr hlocks hK hS () trivial hP hD d_Canvas_latestBegin_31
    · have fc13_1 : (f_xp_points S).toInt ≤ 30 := Int.not_lt.mp (zt_nlt tI_30 (show (f_xp_points S).toInt = _ from rfl) c13_1)
      refine lv_aload_n hx hb d_Canvas_latestBegin_16 rfl (lv_at hl 0 rfl) ?_
      refine va_get (D := D) (ci := 6) (v := .ref (ad 71)) (C := "PageScribe$Canvas") (T := F_Canvas) (N := 9) hx hb hts i_Canvas hown hK hP 67 (ce_67 _ _ _) cl_6 7 (by decide) (hts _ k_1_214) (fun _ h9 => h9) rfl d_Canvas_latestBegin_17 ?_
      refine lv_aload_n hx hb d_Canvas_latestBegin_20 rfl (lv_at hl 0 rfl) ?_
      refine va_get (D := D) (ci := 6) (v := .int (f_xp_points S)) (C := "PageScribe$Canvas") (T := F_Canvas) (N := 9) hx hb hts i_Canvas hown hK hP 67 (ce_67 _ _ _) cl_6 8 (by decide) (hts _ k_1_215) (fun _ h9 => h9) rfl d_Canvas_latestBegin_21 ?_
      refine lv_iconst (v := 1) hx hb d_Canvas_latestBegin_24 (by decide) ?_
      refine lv_isub hx hb d_Canvas_latestBegin_25 ?_
      refine lv_topi (fun x1 ex1 => ?_)
      have fx1 : x1.toInt = ((f_xp_points S).toInt - 1) := by rw [ex1]; exact (zt_sub (show (f_xp_points S).toInt = _ from rfl) tI_1 (by omega) (by omega)).trans (by omega)
      refine va_iald hx hb hK hP 71 0 (ce_71 _ _ _) rfl (zt_in fx1 (by omega) (by omega)) d_Canvas_latestBegin_26 ?_
      refine lv_topi (fun x2 ex2 => ?_)
      have gx2 : x2 = (a_xp_begins S) ((f_xp_points S).toInt - 1).toNat := ex2.trans (congrArg _ (zt_ix fx1))
      have fx2 : x2.toInt = ((a_xp_begins S) ((f_xp_points S).toInt - 1).toNat).toInt := by rw [gx2]
      have rx2 := zt_rng x2
      refine lv_goto (tgt := 31) hx hb d_Canvas_latestBegin_27 (by decide) ?_
      exact j_iret F hr hlocks hK hS () trivial hP hD d_Canvas_latestBegin_31
theorem d_Canvas_addPoint_0 : decode prog_3_method_11_code 0 = .ok (.aload_n 0, 1) := by decide +kernel
theorem d_Canvas_addPoint_1 : decode prog_3_method_11_code 1 = .ok (.getfield 26, 3) := by decide +kernel
theorem d_Canvas_addPoint_4 : decode prog_3_method_11_code 4 = .ok (.ifCond .lt 12, 3) := by decide +kernel
theorem d_Canvas_addPoint_16 : decode prog_3_method_11_code 16 = .ok (.bipush 7, 2) := by decide +kernel
theorem d_Canvas_addPoint_18 : decode prog_3_method_11_code 18 = .ok (.ireturn, 1) := by decide +kernel
theorem d_Canvas_addPoint_7 : decode prog_3_method_11_code 7 = .ok (.aload_n 0, 1) := by decide +kernel
theorem d_Canvas_addPoint_8 : decode prog_3_method_11_code 8 = .ok (.getfield 26, 3) := by decide +kernel
theorem d_Canvas_addPoint_11 : decode prog_3_method_11_code 11 = .ok (.bipush 30, 2) := by decide +kernel
theorem d_Canvas_addPoint_13 : decode prog_3_method_11_code 13 = .ok (.if_icmp .lt 6, 3) := by decide +kernel
theorem d_Canvas_addPoint_19 : decode prog_3_method_11_code 19 = .ok (.aload_n 0, 1) := by decide +kernel
theorem d_Canvas_addPoint_20 : decode prog_3_method_11_code 20 = .ok (.getfield 15, 3) := by decide +kernel
theorem k_1_212 : Cond.fieldLink "PageScribe$Canvas" 15 "PageScribe$Canvas" "across" "[D" ∈ gw := gw_of (tb_1 (List.mem_of_getElem? (i := 212) (by decide +kernel))) (by decide +kernel)
theorem d_Canvas_addPoint_23 : decode prog_3_method_11_code 23 = .ok (.aload_n 0, 1) := by decide +kernel
theorem d_Canvas_addPoint_24 : decode prog_3_method_11_code 24 = .ok (.getfield 26, 3) := by decide +kernel
theorem d_Canvas_addPoint_27 : decode prog_3_method_11_code 27 = .ok (.dload_n 1, 1) := by decide +kernel
theorem d_Canvas_addPoint_28 : decode prog_3_method_11_code 28 = .ok (.dastore, 1) := by decide +kernel
theorem d_Canvas_addPoint_29 : decode prog_3_method_11_code 29 = .ok (.aload_n 0, 1) := by decide +kernel
theorem d_Canvas_addPoint_30 : decode prog_3_method_11_code 30 = .ok (.getfield 19, 3) := by decide +kernel
theorem k_1_213 : Cond.fieldLink "PageScribe$Canvas" 19 "PageScribe$Canvas" "along" "[D" ∈ gw := gw_of (tb_1 (List.mem_of_getElem? (i := 213) (by decide +kernel))) (by decide +kernel)
theorem d_Canvas_addPoint_33 : decode prog_3_method_11_code 33 = .ok (.aload_n 0, 1) := by decide +kernel
theorem d_Canvas_addPoint_34 : decode prog_3_method_11_code 34 = .ok (.getfield 26, 3) := by decide +kernel
theorem d_Canvas_addPoint_37 : decode prog_3_method_11_code 37 = .ok (.dload_n 3, 1) := by decide +kernel
theorem d_Canvas_addPoint_38 : decode prog_3_method_11_code 38 = .ok (.dastore, 1) := by decide +kernel
theorem d_Canvas_addPoint_39 : decode prog_3_method_11_code 39 = .ok (.aload_n 0, 1) := by decide +kernel
theorem d_Canvas_addPoint_40 : decode prog_3_method_11_code 40 = .ok (.getfield 22, 3) := by decide +kernel
theorem d_Canvas_addPoint_43 : decode prog_3_method_11_code 43 = .ok (.aload_n 0, 1) := by decide +kernel
theorem d_Canvas_addPoint_44 : decode prog_3_method_11_code 44 = .ok (.getfield 26, 3) := by decide +kernel
theorem d_Canvas_addPoint_47 : decode prog_3_method_11_code 47 = .ok (.iload 5, 2) := by decide +kernel
theorem d_Canvas_addPoint_49 : decode prog_3_method_11_code 49 = .ok (.iastore, 1) := by decide +kernel
theorem d_Canvas_addPoint_50 : decode prog_3_method_11_code 50 = .ok (.aload_n 0, 1) := by decide +kernel
theorem d_Canvas_addPoint_51 : decode prog_3_method_11_code 51 = .ok (.dup, 1) := by decide +kernel
theorem d_Canvas_addPoint_52 : decode prog_3_method_11_code 52 = .ok (.getfield 26, 3) := by decide +kernel
theorem d_Canvas_addPoint_55 : decode prog_3_method_11_code 55 = .ok (.iconst 1, 1) := by decide +kernel
theorem d_Canvas_addPoint_56 : decode prog_3_method_11_code 56 = .ok (.iadd, 1) := by decide +kernel
theorem d_Canvas_addPoint_57 : decode prog_3_method_11_code 57 = .ok (.putfield 26, 3) := by decide +kernel
theorem d_Canvas_addPoint_60 : decode prog_3_method_11_code 60 = .ok (.iconst 0, 1) := by decide +kernel
theorem d_Canvas_addPoint_61 : decode prog_3_method_11_code 61 = .ok (.ireturn, 1) := by decide +kernel
set_option maxHeartbeats 4000000 in
set_option maxRecDepth 100000 in
theorem c_Canvas_addPoint (l : Launch) (D : va_G) (T : Nat → ClassId) (ad : Nat → Nat) (S : CS) (d0 : UInt64) (d1 : UInt64) (p0 : Int32) (sz : Nat)  (hI : CIv S) (h1 : dI d0) (h2 : dI d1) : Met l ⟨"PageScribe$Canvas", "addPoint", "(DDI)I"⟩ (wy ⟨"PageScribe$Canvas", "addPoint", "(DDI)I"⟩ prog_3_method_11_code 6 (some .int)) ({ frames := 0, cells := 0, slots := 0, locals := 0 }) (va_Pc [.ref (ad 67), .double d0, .double d1, .int p0] (Pw D T (cW T ad S) sz E0)) (va_Qi (fun (r : Int32) (u : CS) => CIv u ∧ kcL S u ∧ kcP S u ∧ kcU S u ∧ kcW S u) (fun u t => Bw D T (va_A (cW T ad S) sz) (cW T ad u) t) (va_A (cW T ad S) sz)) 0 0 (va_A (cW T ad S) sz) := by
  refine j_met (y := ⟨"PageScribe$Canvas", "addPoint", "(DDI)I"⟩) (b := prog_3_method_11_code) (n := 6) (ret := (some .int)) (av := [.ref (ad 67), .double d0, .double d1, .int p0]) (Qc := fun A => va_Qi (fun (r : Int32) (u : CS) => CIv u ∧ kcL S u ∧ kcP S u ∧ kcU S u ∧ kcW S u) (fun u t => Bw D T A (cW T ad u) t) A) (by decide +kernel) (Nat.le_of_ble_eq_true rfl) (fun p e s m args below meth c A ls F hr hlocks hnm hK hP hD hS hA hN hE hl => ?_)
  obtain ⟨hx, hb, hml, hown, hts⟩ := id F
  have hl : lv_has ls 6 [(0, .ref (ad 67)), (1, .double d0), (3, .double d1), (5, .int p0)] := hl
  obtain ⟨i_vst, i_vc0, i_vc1, i_vc2, i_vc3, i_vv0, i_vv1, i_vv2, i_vv3, i_vg, i_wct, i_wln, i_sd0, i_sd1, i_sd2, i_sd3, i_rln, i_rtx, i_rpl, i_rtk, i_cnv, i_pts, i_cik, i_und⟩ := id hI
  have rp0 := zt_rng p0
  refine lv_aload_n hx hb d_Canvas_addPoint_0 rfl (lv_at hl 0 rfl) ?_
  refine va_get (D := D) (ci := 6) (v := .int (f_xp_points S)) (C := "PageScribe$Canvas") (T := F_Canvas) (N := 9) hx hb hts i_Canvas hown hK hP 67 (ce_67 _ _ _) cl_6 8 (by decide) (hts _ k_1_215) (fun _ h9 => h9) rfl d_Canvas_addPoint_1 ?_
  refine lv_if_lt (tgt := 16) hx hb d_Canvas_addPoint_4 (by decide) (fun c4_1 => ?_) (fun c4_1 => ?_)
  · have fc4_1 : (f_xp_points S).toInt < 0 := zt_lt (show (f_xp_points S).toInt = _ from rfl) tI_0 c4_1
    refine lv_bipush (v := 7) hx hb d_Canvas_addPoint_16 (by decide) ?_
    exact j_iret F hr hlocks hK hS S ⟨⟨i_vst, i_vc0, i_vc1, i_vc2, i_vc3, i_vv0, i_vv1, i_vv2, i_vv3, i_vg, i_wct, i_wln, i_sd0, i_sd1, i_sd2, i_sd3, i_rln, i_rtx, i_rpl, i_rtk, i_cnv, i_pts, i_cik, i_und⟩, (kcL_r S), (kcP_r S), (kcU_r S), (kcW_r S)⟩ hP hD d_Canvas_addPoint_18
  · have fc4_1 : 0 ≤ (f_xp_points S).toInt := Int.not_lt.mp (zt_nlt (show (f_xp_points S).toInt = _ from rfl) tI_0 c4_1)
    refine lv_aload_n hx hb d_Canvas_addPoint_7 rfl (lv_at hl 0 rfl) ?_
    refine va_get (D := D) (ci := 6) (v := .int (f_xp_points S)) (C := "PageScribe$Canvas") (T := F_Canvas) (N := 9) hx hb hts i_Canvas hown hK hP 67 (ce_67 _ _ _) cl_6 8 (by decide) (hts _ k_1_215) (fun _ h9 => h9) rfl d_Canvas_addPoint_8 ?_
    refine lv_bipush (v := 30) hx hb d_Canvas_addPoint_11 (by decide) ?_
    refine lv_icmp_lt (tgt := 19) hx hb d_Canvas_addPoint_13 (by decide) (fun c13_1 => ?_) (fun c13_1 => ?_)
    · have fc13_1 : (f_xp_points S).toInt < 30 := zt_lt (show (f_xp_points S).toInt = _ from rfl) tI_30 c13_1
      refine lv_aload_n hx hb d_Canvas_addPoint_19 rfl (lv_at hl 0 rfl) ?_
      refine va_get (D := D) (ci := 6) (v := .ref (ad 69)) (C := "PageScribe$Canvas") (T := F_Canvas) (N := 9) hx hb hts i_Canvas hown hK hP 67 (ce_67 _ _ _) cl_6 5 (by decide) (hts _ k_1_212) (fun _ h9 => h9) rfl d_Canvas_addPoint_20 ?_
      refine lv_aload_n hx hb d_Canvas_addPoint_23 rfl (lv_at hl 0 rfl) ?_
      refine va_get (D := D) (ci := 6) (v := .int (f_xp_points S)) (C := "PageScribe$Canvas") (T := F_Canvas) (N := 9) hx hb hts i_Canvas hown hK hP 67 (ce_67 _ _ _) cl_6 8 (by decide) (hts _ k_1_215) (fun _ h9 => h9) rfl d_Canvas_addPoint_24 ?_
      refine lv_dload_n hx hb d_Canvas_addPoint_27 rfl (lv_at hl 1 rfl) ?_
      refine va_dast hx hb hK hP hD hS 69 3 (ce_69 _ _ _) rfl (zt_in (show (f_xp_points S).toInt = _ from rfl) (by omega) (by omega)) d_Canvas_addPoint_28 (fun H locs hP hD hS => ?_)
      rw [cs_xp_across] at hP hD
      rw [zt_ix (show (f_xp_points S).toInt = _ from rfl)] at hP hD
      have hP : va_P D classes (cW T ad ((S.1, S.2.1, S.2.2.1, S.2.2.2.1, S.2.2.2.2.1, S.2.2.2.2.2.1, S.2.2.2.2.2.2.1, ((f_xp_columns S), (f_xp_rows S), (a_xp_levels S), (f_xp_gray S), (vf_upd (a_xp_across S) ((f_xp_points S).toInt.toNat) d0), (a_xp_along S), (a_xp_begins S), (f_xp_points S)), S.2.2.2.2.2.2.2.2) : CS)) H := hP
      have hD : va_D A (cW T ad ((S.1, S.2.1, S.2.2.1, S.2.2.2.1, S.2.2.2.2.1, S.2.2.2.2.2.1, S.2.2.2.2.2.2.1, ((f_xp_columns S), (f_xp_rows S), (a_xp_levels S), (f_xp_gray S), (vf_upd (a_xp_across S) ((f_xp_points S).toInt.toNat) d0), (a_xp_along S), (a_xp_begins S), (f_xp_points S)), S.2.2.2.2.2.2.2.2) : CS)) := hD
      refine lv_aload_n hx hb d_Canvas_addPoint_29 rfl (lv_at hl 0 rfl) ?_
      refine va_get (D := D) (ci := 6) (v := .ref (ad 70)) (C := "PageScribe$Canvas") (T := F_Canvas) (N := 9) hx hb hts i_Canvas hown hK hP 67 (ce_67 _ _ _) cl_6 6 (by decide) (hts _ k_1_213) (fun _ h9 => h9) rfl d_Canvas_addPoint_30 ?_
      refine lv_aload_n hx hb d_Canvas_addPoint_33 rfl (lv_at hl 0 rfl) ?_
      refine va_get (D := D) (ci := 6) (v := .int (f_xp_points S)) (C := "PageScribe$Canvas") (T := F_Canvas) (N := 9) hx hb hts i_Canvas hown hK hP 67 (ce_67 _ _ _) cl_6 8 (by decide) (hts _ k_1_215) (fun _ h9 => h9) rfl d_Canvas_addPoint_34 ?_
      refine lv_dload_n hx hb d_Canvas_addPoint_37 rfl (lv_at hl 2 rfl) ?_
      refine va_dast hx hb hK hP hD hS 70 3 (ce_70 _ _ _) rfl (zt_in (show (f_xp_points S).toInt = _ from rfl) (by omega) (by omega)) d_Canvas_addPoint_38 (fun H locs hP hD hS => ?_)
      rw [cs_xp_along] at hP hD
      rw [zt_ix (show (f_xp_points S).toInt = _ from rfl)] at hP hD
      have hP : va_P D classes (cW T ad ((S.1, S.2.1, S.2.2.1, S.2.2.2.1, S.2.2.2.2.1, S.2.2.2.2.2.1, S.2.2.2.2.2.2.1, ((f_xp_columns S), (f_xp_rows S), (a_xp_levels S), (f_xp_gray S), (vf_upd (a_xp_across S) ((f_xp_points S).toInt.toNat) d0), (vf_upd (a_xp_along S) ((f_xp_points S).toInt.toNat) d1), (a_xp_begins S), (f_xp_points S)), S.2.2.2.2.2.2.2.2) : CS)) H := hP
      have hD : va_D A (cW T ad ((S.1, S.2.1, S.2.2.1, S.2.2.2.1, S.2.2.2.2.1, S.2.2.2.2.2.1, S.2.2.2.2.2.2.1, ((f_xp_columns S), (f_xp_rows S), (a_xp_levels S), (f_xp_gray S), (vf_upd (a_xp_across S) ((f_xp_points S).toInt.toNat) d0), (vf_upd (a_xp_along S) ((f_xp_points S).toInt.toNat) d1), (a_xp_begins S), (f_xp_points S)), S.2.2.2.2.2.2.2.2) : CS)) := hD
      refine lv_aload_n hx hb d_Canvas_addPoint_39 rfl (lv_at hl 0 rfl) ?_
      refine va_get (D := D) (ci := 6) (v := .ref (ad 71)) (C := "PageScribe$Canvas") (T := F_Canvas) (N := 9) hx hb hts i_Canvas hown hK hP 67 (ce_67 _ _ _) cl_6 7 (by decide) (hts _ k_1_214) (fun _ h9 => h9) rfl d_Canvas_addPoint_40 ?_
      refine lv_aload_n hx hb d_Canvas_addPoint_43 rfl (lv_at hl 0 rfl) ?_
      refine va_get (D := D) (ci := 6) (v := .int (f_xp_points S)) (C := "PageScribe$Canvas") (T := F_Canvas) (N := 9) hx hb hts i_Canvas hown hK hP 67 (ce_67 _ _ _) cl_6 8 (by decide) (hts _ k_1_215) (fun _ h9 => h9) rfl d_Canvas_addPoint_44 ?_
      refine lv_iload hx hb d_Canvas_addPoint_47 (lv_at hl 3 rfl) ?_
      refine va_iast hx hb hK hP hD hS 71 0 (ce_71 _ _ _) rfl (zt_in (show (f_xp_points S).toInt = _ from rfl) (by omega) (by omega)) d_Canvas_addPoint_49 (fun H locs hP hD hS => ?_)
      rw [cs_xp_begins] at hP hD
      rw [zt_ix (show (f_xp_points S).toInt = _ from rfl)] at hP hD
      have hP : va_P D classes (cW T ad ((S.1, S.2.1, S.2.2.1, S.2.2.2.1, S.2.2.2.2.1, S.2.2.2.2.2.1, S.2.2.2.2.2.2.1, ((f_xp_columns S), (f_xp_rows S), (a_xp_levels S), (f_xp_gray S), (vf_upd (a_xp_across S) ((f_xp_points S).toInt.toNat) d0), (vf_upd (a_xp_along S) ((f_xp_points S).toInt.toNat) d1), (upd (a_xp_begins S) ((f_xp_points S).toInt.toNat) p0), (f_xp_points S)), S.2.2.2.2.2.2.2.2) : CS)) H := hP
      have hD : va_D A (cW T ad ((S.1, S.2.1, S.2.2.1, S.2.2.2.1, S.2.2.2.2.1, S.2.2.2.2.2.1, S.2.2.2.2.2.2.1, ((f_xp_columns S), (f_xp_rows S), (a_xp_levels S), (f_xp_gray S), (vf_upd (a_xp_across S) ((f_xp_points S).toInt.toNat) d0), (vf_upd (a_xp_along S) ((f_xp_points S).toInt.toNat) d1), (upd (a_xp_begins S) ((f_xp_points S).toInt.toNat) p0), (f_xp_points S)), S.2.2.2.2.2.2.2.2) : CS)) := hD
      refine lv_aload_n hx hb d_Canvas_addPoint_50 rfl (lv_at hl 0 rfl) ?_
      refine lv_dup hx hb d_Canvas_addPoint_51 rfl ?_
      refine va_get (D := D) (ci := 6) (v := .int (f_xp_points S)) (C := "PageScribe$Canvas") (T := F_Canvas) (N := 9) hx hb hts i_Canvas hown hK hP 67 (ce_67 _ _ _) cl_6 8 (by decide) (hts _ k_1_215) (fun _ h9 => h9) rfl d_Canvas_addPoint_52 ?_
      refine lv_iconst (v := 1) hx hb d_Canvas_addPoint_55 (by decide) ?_
      refine lv_iadd hx hb d_Canvas_addPoint_56 ?_
      refine lv_topi (fun x1 ex1 => ?_)
      have fx1 : x1.toInt = ((f_xp_points S).toInt + 1) := by rw [ex1]; exact (zt_add (show (f_xp_points S).toInt = _ from rfl) tI_1 (by omega) (by omega)).trans (by omega)
      refine va_put (D := D) (ci := 6) (v := .int x1) (ty := .int) (C := "PageScribe$Canvas") (T := F_Canvas) (N := 9) hx hb hts i_Canvas t_Canvas t_Canvas_ok n_Canvas hown hK hP hD hS 67 (ce_67 _ _ _) cl_6 8 (by decide) (hts _ k_1_215) (fun _ h9 => h9) rfl (by decide +kernel) rfl rfl (Nat.le_of_ble_eq_true rfl) d_Canvas_addPoint_57 (fun H locs hP hD hS => ?_)
      rw [cp_xp_points] at hP hD
      have hP : va_P D classes (cW T ad ((S.1, S.2.1, S.2.2.1, S.2.2.2.1, S.2.2.2.2.1, S.2.2.2.2.2.1, S.2.2.2.2.2.2.1, ((f_xp_columns S), (f_xp_rows S), (a_xp_levels S), (f_xp_gray S), (vf_upd (a_xp_across S) ((f_xp_points S).toInt.toNat) d0), (vf_upd (a_xp_along S) ((f_xp_points S).toInt.toNat) d1), (upd (a_xp_begins S) ((f_xp_points S).toInt.toNat) p0), x1), S.2.2.2.2.2.2.2.2) : CS)) H := hP
      have hD : va_D A (cW T ad ((S.1, S.2.1, S.2.2.1, S.2.2.2.1, S.2.2.2.2.1, S.2.2.2.2.2.1, S.2.2.2.2.2.2.1, ((f_xp_columns S), (f_xp_rows S), (a_xp_levels S), (f_xp_gray S), (vf_upd (a_xp_across S) ((f_xp_points S).toInt.toNat) d0), (vf_upd (a_xp_along S) ((f_xp_points S).toInt.toNat) d1), (upd (a_xp_begins S) ((f_xp_points S).toInt.toNat) p0), x1), S.2.2.2.2.2.2.2.2) : CS)) := hD
      refine lv_iconst (v := 0) hx hb d_Canvas_addPoint_60 (by decide) ?_
      exact j_iret F hr hlocks hK hS ((S.1, S.2.1, S.2.2.1, S.2.2.2.1, S.2.2.2.2.1, S.2.2.2.2.2.1, S.2.2.2.2.2.2.1, ((f_xp_columns S), (f_xp_rows S), (a_xp_levels S), (f_xp_gray S), (vf_upd (a_xp_across S) ((f_xp_points S).toInt.toNat) d0), (vf_upd (a_xp_along S) ((f_xp_points S).toInt.toNat) d1), (upd (a_xp_begins S) ((f_xp_points S).toInt.toNat) p0), x1), S.2.2.2.2.2.2.2.2) : CS) ⟨⟨i_vst, i_vc0, i_vc1, i_vc2, i_vc3, i_vv0, i_vv1, i_vv2, i_vv3, i_vg, i_wct, i_wln, i_sd0, i_sd1, i_sd2, i_sd3, i_rln, i_rtx, i_rpl, i_rtk, i_cnv, (show 0 ≤ x1.toInt ∧ x1.toInt ≤ 30 by omega), (ink_up i_cik h1 h2), i_und⟩, (kcL_r S), (kcP_r S), (kcU_r S), (kcW_r S)⟩ hP hD d_Canvas_addPoint_61
    · have fc13_1 : 30 ≤ (f_xp_points S).toInt := Int.not_lt.mp (zt_nlt (show (f_xp_points S).toInt = _ from rfl) tI_30 c13_1)
      refine lv_bipush (v := 7) hx hb d_Canvas_addPoint_16 (by decide) ?_
      exact j_iret F hr hlocks hK hS S ⟨⟨i_vst, i_vc0, i_vc1, i_vc2, i_vc3, i_vv0, i_vv1, i_vv2, i_vv3, i_vg, i_wct, i_wln, i_sd0, i_sd1, i_sd2, i_sd3, i_rln, i_rtx, i_rpl, i_rtk, i_cnv, i_pts, i_cik, i_und⟩, (kcL_r S), (kcP_r S), (kcU_r S), (kcW_r S)⟩ hP hD d_Canvas_addPoint_18
theorem d_Canvas_addToLatest_0 : decode prog_3_method_9_code 0 = .ok (.aload_n 0, 1) := by decide +kernel
theorem d_Canvas_addToLatest_1 : decode prog_3_method_9_code 1 = .ok (.invokevirtual 100, 3) := by decide +kernel
theorem k_5_160 : Cond.code ⟨"PageScribe$Canvas", "latestBegin", "()I"⟩ prog_3_method_8_code 1 (some .int) ∈ gw := gw_of (tb_5 (List.mem_of_getElem? (i := 160) (by decide +kernel))) (by decide +kernel)
theorem k_1_8 : Cond.initialized "PageScribe$Canvas" ∈ gw := gw_of (tb_1 (List.mem_of_getElem? (i := 8) (by decide +kernel))) (by decide +kernel)
theorem k_5_157 : Cond.methodLink "PageScribe$Canvas" 100 ⟨"PageScribe$Canvas", "latestBegin", "()I"⟩ ∈ gw := gw_of (tb_5 (List.mem_of_getElem? (i := 157) (by decide +kernel))) (by decide +kernel)
theorem k_5_159 : Cond.instanceMethod ⟨"PageScribe$Canvas", "latestBegin", "()I"⟩ ∈ gw := gw_of (tb_5 (List.mem_of_getElem? (i := 159) (by decide +kernel))) (by decide +kernel)
theorem k_0_60 : Cond.selects "PageScribe$Canvas" ⟨"PageScribe$Canvas", "latestBegin", "()I"⟩ ⟨"PageScribe$Canvas", "latestBegin", "()I"⟩ ∈ gw := gw_of (tb_0 (List.mem_of_getElem? (i := 60) (by decide +kernel))) (by decide +kernel)
theorem d_Canvas_addToLatest_4 : decode prog_3_method_9_code 4 = .ok (.istore 5, 2) := by decide +kernel
theorem d_Canvas_addToLatest_6 : decode prog_3_method_9_code 6 = .ok (.iload 5, 2) := by decide +kernel
theorem d_Canvas_addToLatest_8 : decode prog_3_method_9_code 8 = .ok (.ifCond .ge 8, 3) := by decide +kernel
theorem d_Canvas_addToLatest_16 : decode prog_3_method_9_code 16 = .ok (.aload_n 0, 1) := by decide +kernel
theorem d_Canvas_addToLatest_17 : decode prog_3_method_9_code 17 = .ok (.dload_n 1, 1) := by decide +kernel
theorem d_Canvas_addToLatest_18 : decode prog_3_method_9_code 18 = .ok (.dload_n 3, 1) := by decide +kernel
theorem d_Canvas_addToLatest_19 : decode prog_3_method_9_code 19 = .ok (.iload 5, 2) := by decide +kernel
theorem d_Canvas_addToLatest_21 : decode prog_3_method_9_code 21 = .ok (.invokevirtual 92, 3) := by decide +kernel
theorem k_5_152 : Cond.code ⟨"PageScribe$Canvas", "addPoint", "(DDI)I"⟩ prog_3_method_11_code 6 (some .int) ∈ gw := gw_of (tb_5 (List.mem_of_getElem? (i := 152) (by decide +kernel))) (by decide +kernel)
theorem k_5_149 : Cond.methodLink "PageScribe$Canvas" 92 ⟨"PageScribe$Canvas", "addPoint", "(DDI)I"⟩ ∈ gw := gw_of (tb_5 (List.mem_of_getElem? (i := 149) (by decide +kernel))) (by decide +kernel)
theorem k_5_151 : Cond.instanceMethod ⟨"PageScribe$Canvas", "addPoint", "(DDI)I"⟩ ∈ gw := gw_of (tb_5 (List.mem_of_getElem? (i := 151) (by decide +kernel))) (by decide +kernel)
theorem k_0_58 : Cond.selects "PageScribe$Canvas" ⟨"PageScribe$Canvas", "addPoint", "(DDI)I"⟩ ⟨"PageScribe$Canvas", "addPoint", "(DDI)I"⟩ ∈ gw := gw_of (tb_0 (List.mem_of_getElem? (i := 58) (by decide +kernel))) (by decide +kernel)
theorem d_Canvas_addToLatest_24 : decode prog_3_method_9_code 24 = .ok (.ireturn, 1) := by decide +kernel
theorem d_Canvas_addToLatest_11 : decode prog_3_method_9_code 11 = .ok (.bipush 13, 2) := by decide +kernel
theorem d_Canvas_addToLatest_13 : decode prog_3_method_9_code 13 = .ok (.goto 11, 3) := by decide +kernel
set_option maxHeartbeats 4000000 in
set_option maxRecDepth 100000 in
theorem c_Canvas_addToLatest (l : Launch) (D : va_G) (T : Nat → ClassId) (ad : Nat → Nat) (S : CS) (d0 : UInt64) (d1 : UInt64) (sz : Nat)  (hI : CIv S) (h1 : dI d0) (h2 : dI d1) : Met l ⟨"PageScribe$Canvas", "addToLatest", "(DD)I"⟩ (wy ⟨"PageScribe$Canvas", "addToLatest", "(DD)I"⟩ prog_3_method_9_code 6 (some .int)) ({ frames := 1, cells := 0, slots := 0, locals := 70 }) (va_Pc [.ref (ad 67), .double d0, .double d1] (Pw D T (cW T ad S) sz E0)) (va_Qi (fun (r : Int32) (u : CS) => CIv u ∧ kcL S u ∧ kcP S u ∧ kcU S u ∧ kcW S u) (fun u t => Bw D T (va_A (cW T ad S) sz) (cW T ad u) t) (va_A (cW T ad S) sz)) 0 0 (va_A (cW T ad S) sz) := by
  refine j_met (y := ⟨"PageScribe$Canvas", "addToLatest", "(DD)I"⟩) (b := prog_3_method_9_code) (n := 6) (ret := (some .int)) (av := [.ref (ad 67), .double d0, .double d1]) (Qc := fun A => va_Qi (fun (r : Int32) (u : CS) => CIv u ∧ kcL S u ∧ kcP S u ∧ kcU S u ∧ kcW S u) (fun u t => Bw D T A (cW T ad u) t) A) (by decide +kernel) (Nat.le_of_ble_eq_true rfl) (fun p e s m args below meth c A ls F hr hlocks hnm hK hP hD hS hA hN hE hl => ?_)
  obtain ⟨hx, hb, hml, hown, hts⟩ := id F
  have hl : lv_has ls 6 [(0, .ref (ad 67)), (1, .double d0), (3, .double d1)] := hl
  obtain ⟨i_vst, i_vc0, i_vc1, i_vc2, i_vc3, i_vv0, i_vv1, i_vv2, i_vv3, i_vg, i_wct, i_wln, i_sd0, i_sd1, i_sd2, i_sd3, i_rln, i_rtx, i_rpl, i_rtk, i_cnv, i_pts, i_cik, i_und⟩ := id hI
  refine lv_aload_n hx hb d_Canvas_addToLatest_0 rfl (lv_at hl 0 rfl) ?_
  refine jc_ci (w := (fun _ => S)) hK hP hD hS hA (va_runV (As := []) (rest := []) F (c_Canvas_latestBegin l D T ad S  s.heap.size) (j_cV (k := 0) (C := "PageScribe$Canvas") hts k_5_160 k_1_8 k_5_157 k_5_159 k_0_60 (by decide +kernel) ⟨Nat.le_of_ble_eq_true rfl, Nat.le_of_ble_eq_true rfl⟩) (j_preV (q0 := 67) (ci := 6) hK hP hD csc csc_all csc_nd cl_6 (ce_67 _ _ _) (fun _ _ _ _ h => h) (fun _ _ _ => trivial)) rfl rfl hl.1 rfl (lv_room (Nat.le_of_ble_eq_true rfl)) d_Canvas_addToLatest_1 ⟨Nat.le_of_ble_eq_true rfl, Nat.le_of_ble_eq_true rfl⟩) (fun rv1 u1 H locs hw1 hP hD hS => ?_)
  have hP : va_P D classes (cW T ad S) H := hP
  have hD : va_D A (cW T ad S) := hD
  have rrv1 := zt_rng rv1
  refine lv_istore (lv' := [(5, .int rv1), (0, .ref (ad 67)), (1, .double d0), (3, .double d1)]) hx hb d_Canvas_addToLatest_4 hl (by decide) rfl (fun ls hl => ?_)
  refine lv_iload hx hb d_Canvas_addToLatest_6 (lv_at hl 0 rfl) ?_
  refine lv_if_ge (tgt := 16) hx hb d_Canvas_addToLatest_8 (by decide) (fun c8_1 => ?_) (fun c8_1 => ?_)
  · have fc8_1 : 0 ≤ rv1.toInt := zt_le tI_0 (show rv1.toInt = _ from rfl) c8_1
    refine lv_aload_n hx hb d_Canvas_addToLatest_16 rfl (lv_at hl 1 rfl) ?_
    refine lv_dload_n hx hb d_Canvas_addToLatest_17 rfl (lv_at hl 2 rfl) ?_
    refine lv_dload_n hx hb d_Canvas_addToLatest_18 rfl (lv_at hl 3 rfl) ?_
    refine lv_iload hx hb d_Canvas_addToLatest_19 (lv_at hl 0 rfl) ?_
    refine jc_ci (w := (fun u => u)) hK hP hD hS hA (va_runV (As := [.double d0, .double d1, .int rv1]) (rest := []) F (c_Canvas_addPoint l D T ad S d0 d1 rv1  H.size ⟨i_vst, i_vc0, i_vc1, i_vc2, i_vc3, i_vv0, i_vv1, i_vv2, i_vv3, i_vg, i_wct, i_wln, i_sd0, i_sd1, i_sd2, i_sd3, i_rln, i_rtx, i_rpl, i_rtk, i_cnv, i_pts, i_cik, i_und⟩ (show dI d0 by omega) (show dI d1 by omega)) (j_cV (k := 3) (C := "PageScribe$Canvas") hts k_5_152 k_1_8 k_5_149 k_5_151 k_0_58 (by decide +kernel) ⟨Nat.le_of_ble_eq_true rfl, Nat.le_of_ble_eq_true rfl⟩) (j_preV (q0 := 67) (ci := 6) hK hP hD csc csc_all csc_nd cl_6 (ce_67 _ _ _) (fun _ _ _ _ h => h) (fun _ _ _ => trivial)) rfl rfl hl.1 rfl (lv_room (Nat.le_of_ble_eq_true rfl)) d_Canvas_addToLatest_21 ⟨Nat.le_of_ble_eq_true rfl, Nat.le_of_ble_eq_true rfl⟩) (fun rv2 S1 H locs hw2 hP hD hS => ?_)
    have hP : va_P D classes (cW T ad S1) H := hP
    have hD : va_D A (cW T ad S1) := hD
    obtain ⟨⟨i_vst, i_vc0, i_vc1, i_vc2, i_vc3, i_vv0, i_vv1, i_vv2, i_vv3, i_vg, i_wct, i_wln, i_sd0, i_sd1, i_sd2, i_sd3, i_rln, i_rtx, i_rpl, i_rtk, i_cnv, i_pts, i_cik, i_und⟩, kpcL_S1, kpcP_S1, kpcU_S1, kpcW_S1⟩ := hw2
    have kScL_S1 : kcL S S1 := kcL_t (show kcL S S from (kcL_r S)) kpcL_S1
    have kScP_S1 : kcP S S1 := kcP_t (show kcP S S from (kcP_r S)) kpcP_S1
    have kScU_S1 : kcU S S1 := kcU_t (show kcU S S from (kcU_r S)) kpcU_S1
    have kScW_S1 : kcW S S1 := kcW_t (show kcW S S from (kcW_r S)) kpcW_S1
    have nxr_length_S1 : (f_xr_length S1).toInt = (f_xr_length S).toInt := congrArg Int32.toInt kpcL_S1
    have nxr_length_S1 : (f_xr_length S1).toInt = (f_xr_length S).toInt := congrArg Int32.toInt kpcP_S1.1
    have nxr_place_S1 : (f_xr_place S1).toInt = (f_xr_place S).toInt := congrArg Int32.toInt kpcP_S1.2.1
    have nxe_underWay_S1 : (f_xe_underWay S1).toInt = (f_xe_underWay S).toInt := congrArg Int32.toInt kpcU_S1
    have nxp_columns_S1 : (f_xp_columns S1).toInt = (f_xp_columns S).toInt := congrArg Int32.toInt kpcW_S1.1
    have nxp_rows_S1 : (f_xp_rows S1).toInt = (f_xp_rows S).toInt := congrArg Int32.toInt kpcW_S1.2
    have rrv2 := zt_rng rv2
    exact j_iret F hr hlocks hK hS S1 ⟨⟨i_vst, i_vc0, i_vc1, i_vc2, i_vc3, i_vv0, i_vv1, i_vv2, i_vv3, i_vg, i_wct, i_wln, i_sd0, i_sd1, i_sd2, i_sd3, i_rln, i_rtx, i_rpl, i_rtk, i_cnv, i_pts, i_cik, i_und⟩, kScL_S1, kScP_S1, kScU_S1, kScW_S1⟩ hP hD d_Canvas_addToLatest_24
  · have fc8_1 : rv1.toInt < 0 := Int.not_le.mp (zt_nle tI_0 (show rv1.toInt = _ from rfl) c8_1)
    refine lv_bipush (v := 13) hx hb d_Canvas_addToLatest_11 (by decide) ?_
    refine lv_goto (tgt := 24) hx hb d_Canvas_addToLatest_13 (by decide) ?_
    exact j_iret F hr hlocks hK hS S ⟨⟨i_vst, i_vc0, i_vc1, i_vc2, i_vc3, i_vv0, i_vv1, i_vv2, i_vv3, i_vg, i_wct, i_wln, i_sd0, i_sd1, i_sd2, i_sd3, i_rln, i_rtx, i_rpl, i_rtk, i_cnv, i_pts, i_cik, i_und⟩, (kcL_r S), (kcP_r S), (kcU_r S), (kcW_r S)⟩ hP hD d_Canvas_addToLatest_24
theorem d_Canvas_closePath_0 : decode prog_3_method_10_code 0 = .ok (.aload_n 0, 1) := by decide +kernel
theorem d_Canvas_closePath_1 : decode prog_3_method_10_code 1 = .ok (.invokevirtual 100, 3) := by decide +kernel
theorem d_Canvas_closePath_4 : decode prog_3_method_10_code 4 = .ok (.istore_n 1, 1) := by decide +kernel
theorem d_Canvas_closePath_5 : decode prog_3_method_10_code 5 = .ok (.iload_n 1, 1) := by decide +kernel
theorem d_Canvas_closePath_6 : decode prog_3_method_10_code 6 = .ok (.ifCond .lt 9, 3) := by decide +kernel
theorem d_Canvas_closePath_15 : decode prog_3_method_10_code 15 = .ok (.bipush 13, 2) := by decide +kernel
theorem d_Canvas_closePath_17 : decode prog_3_method_10_code 17 = .ok (.ireturn, 1) := by decide +kernel
theorem d_Canvas_closePath_9 : decode prog_3_method_10_code 9 = .ok (.iload_n 1, 1) := by decide +kernel
theorem d_Canvas_closePath_10 : decode prog_3_method_10_code 10 = .ok (.bipush 30, 2) := by decide +kernel
theorem d_Canvas_closePath_12 : decode prog_3_method_10_code 12 = .ok (.if_icmp .lt 6, 3) := by decide +kernel
theorem d_Canvas_closePath_18 : decode prog_3_method_10_code 18 = .ok (.aload_n 0, 1) := by decide +kernel
theorem d_Canvas_closePath_19 : decode prog_3_method_10_code 19 = .ok (.aload_n 0, 1) := by decide +kernel
theorem d_Canvas_closePath_20 : decode prog_3_method_10_code 20 = .ok (.getfield 15, 3) := by decide +kernel
theorem d_Canvas_closePath_23 : decode prog_3_method_10_code 23 = .ok (.iload_n 1, 1) := by decide +kernel
theorem d_Canvas_closePath_24 : decode prog_3_method_10_code 24 = .ok (.daload, 1) := by decide +kernel
theorem d_Canvas_closePath_25 : decode prog_3_method_10_code 25 = .ok (.aload_n 0, 1) := by decide +kernel
theorem d_Canvas_closePath_26 : decode prog_3_method_10_code 26 = .ok (.getfield 19, 3) := by decide +kernel
theorem d_Canvas_closePath_29 : decode prog_3_method_10_code 29 = .ok (.iload_n 1, 1) := by decide +kernel
theorem d_Canvas_closePath_30 : decode prog_3_method_10_code 30 = .ok (.daload, 1) := by decide +kernel
theorem d_Canvas_closePath_31 : decode prog_3_method_10_code 31 = .ok (.iload_n 1, 1) := by decide +kernel
theorem d_Canvas_closePath_32 : decode prog_3_method_10_code 32 = .ok (.invokevirtual 92, 3) := by decide +kernel
theorem d_Canvas_closePath_35 : decode prog_3_method_10_code 35 = .ok (.ireturn, 1) := by decide +kernel
set_option maxHeartbeats 4000000 in
set_option maxRecDepth 100000 in
theorem c_Canvas_closePath (l : Launch) (D : va_G) (T : Nat → ClassId) (ad : Nat → Nat) (S : CS)  (sz : Nat)  (hI : CIv S) : Met l ⟨"PageScribe$Canvas", "closePath", "()I"⟩ (wy ⟨"PageScribe$Canvas", "closePath", "()I"⟩ prog_3_method_10_code 2 (some .int)) ({ frames := 1, cells := 0, slots := 0, locals := 70 }) (va_Pc [.ref (ad 67)] (Pw D T (cW T ad S) sz E0)) (va_Qi (fun (r : Int32) (u : CS) => CIv u ∧ kcL S u ∧ kcP S u ∧ kcU S u ∧ kcW S u) (fun u t => Bw D T (va_A (cW T ad S) sz) (cW T ad u) t) (va_A (cW T ad S) sz)) 0 0 (va_A (cW T ad S) sz) := by
  refine j_met (y := ⟨"PageScribe$Canvas", "closePath", "()I"⟩) (b := prog_3_method_10_code) (n := 2) (ret := (some .int)) (av := [.ref (ad 67)]) (Qc := fun A => va_Qi (fun (r : Int32) (u : CS) => CIv u ∧ kcL S u ∧ kcP S u ∧ kcU S u ∧ kcW S u) (fun u t => Bw D T A (cW T ad u) t) A) (by decide +kernel) (Nat.le_of_ble_eq_true rfl) (fun p e s m args below meth c A ls F hr hlocks hnm hK hP hD hS hA hN hE hl => ?_)
  obtain ⟨hx, hb, hml, hown, hts⟩ := id F
  have hl : lv_has ls 2 [(0, .ref (ad 67))] := hl
  obtain ⟨i_vst, i_vc0, i_vc1, i_vc2, i_vc3, i_vv0, i_vv1, i_vv2, i_vv3, i_vg, i_wct, i_wln, i_sd0, i_sd1, i_sd2, i_sd3, i_rln, i_rtx, i_rpl, i_rtk, i_cnv, i_pts, i_cik, i_und⟩ := id hI
  refine lv_aload_n hx hb d_Canvas_closePath_0 rfl (lv_at hl 0 rfl) ?_
  refine jc_ci (w := (fun _ => S)) hK hP hD hS hA (va_runV (As := []) (rest := []) F (c_Canvas_latestBegin l D T ad S  s.heap.size) (j_cV (k := 0) (C := "PageScribe$Canvas") hts k_5_160 k_1_8 k_5_157 k_5_159 k_0_60 (by decide +kernel) ⟨Nat.le_of_ble_eq_true rfl, Nat.le_of_ble_eq_true rfl⟩) (j_preV (q0 := 67) (ci := 6) hK hP hD csc csc_all csc_nd cl_6 (ce_67 _ _ _) (fun _ _ _ _ h => h) (fun _ _ _ => trivial)) rfl rfl hl.1 rfl (lv_room (Nat.le_of_ble_eq_true rfl)) d_Canvas_closePath_1 ⟨Nat.le_of_ble_eq_true rfl, Nat.le_of_ble_eq_true rfl⟩) (fun rv1 u1 H locs hw1 hP hD hS => ?_)
  have hP : va_P D classes (cW T ad S) H := hP
  have hD : va_D A (cW T ad S) := hD
  have rrv1 := zt_rng rv1
  refine lv_istore_n (lv' := [(1, .int rv1), (0, .ref (ad 67))]) hx hb d_Canvas_closePath_4 rfl hl (by decide) rfl (fun ls hl => ?_)
  refine lv_iload_n hx hb d_Canvas_closePath_5 rfl (lv_at hl 0 rfl) ?_
  refine lv_if_lt (tgt := 15) hx hb d_Canvas_closePath_6 (by decide) (fun c6_1 => ?_) (fun c6_1 => ?_)
  · have fc6_1 : rv1.toInt < 0 := zt_lt (show rv1.toInt = _ from rfl) tI_0 c6_1
    refine lv_bipush (v := 13) hx hb d_Canvas_closePath_15 (by decide) ?_
    exact j_iret F hr hlocks hK hS S ⟨⟨i_vst, i_vc0, i_vc1, i_vc2, i_vc3, i_vv0, i_vv1, i_vv2, i_vv3, i_vg, i_wct, i_wln, i_sd0, i_sd1, i_sd2, i_sd3, i_rln, i_rtx, i_rpl, i_rtk, i_cnv, i_pts, i_cik, i_und⟩, (kcL_r S), (kcP_r S), (kcU_r S), (kcW_r S)⟩ hP hD d_Canvas_closePath_17
  · have fc6_1 : 0 ≤ rv1.toInt := Int.not_lt.mp (zt_nlt (show rv1.toInt = _ from rfl) tI_0 c6_1)
    refine lv_iload_n hx hb d_Canvas_closePath_9 rfl (lv_at hl 0 rfl) ?_
    refine lv_bipush (v := 30) hx hb d_Canvas_closePath_10 (by decide) ?_
    refine lv_icmp_lt (tgt := 18) hx hb d_Canvas_closePath_12 (by decide) (fun c12_1 => ?_) (fun c12_1 => ?_)
    · have fc12_1 : rv1.toInt < 30 := zt_lt (show rv1.toInt = _ from rfl) tI_30 c12_1
      refine lv_aload_n hx hb d_Canvas_closePath_18 rfl (lv_at hl 1 rfl) ?_
      refine lv_aload_n hx hb d_Canvas_closePath_19 rfl (lv_at hl 1 rfl) ?_
      refine va_get (D := D) (ci := 6) (v := .ref (ad 69)) (C := "PageScribe$Canvas") (T := F_Canvas) (N := 9) hx hb hts i_Canvas hown hK hP 67 (ce_67 _ _ _) cl_6 5 (by decide) (hts _ k_1_212) (fun _ h9 => h9) rfl d_Canvas_closePath_20 ?_
      refine lv_iload_n hx hb d_Canvas_closePath_23 rfl (lv_at hl 0 rfl) ?_
      refine va_dald hx hb hK hP 69 3 (ce_69 _ _ _) rfl (zt_in (show rv1.toInt = _ from rfl) (by omega) (by omega)) d_Canvas_closePath_24 ?_
      refine lv_topd (fun x1 ex1 => ?_)
      have gx1 : x1 = (a_xp_across S) rv1.toInt.toNat := ex1.trans (congrArg _ (zt_ix (show rv1.toInt = _ from rfl)))
      have mx1 : dM 1043 x1 := by rw [gx1]; exact dM_pt (i_cik.2 (rv1.toInt.toNat) (by omega)).1
      have dx1 : dF x1 := dM_F mx1 (by decide)
      refine lv_aload_n hx hb d_Canvas_closePath_25 rfl (lv_at hl 1 rfl) ?_
      refine va_get (D := D) (ci := 6) (v := .ref (ad 70)) (C := "PageScribe$Canvas") (T := F_Canvas) (N := 9) hx hb hts i_Canvas hown hK hP 67 (ce_67 _ _ _) cl_6 6 (by decide) (hts _ k_1_213) (fun _ h9 => h9) rfl d_Canvas_closePath_26 ?_
      refine lv_iload_n hx hb d_Canvas_closePath_29 rfl (lv_at hl 0 rfl) ?_
      refine va_dald hx hb hK hP 70 3 (ce_70 _ _ _) rfl (zt_in (show rv1.toInt = _ from rfl) (by omega) (by omega)) d_Canvas_closePath_30 ?_
      refine lv_topd (fun x2 ex2 => ?_)
      have gx2 : x2 = (a_xp_along S) rv1.toInt.toNat := ex2.trans (congrArg _ (zt_ix (show rv1.toInt = _ from rfl)))
      have mx2 : dM 1043 x2 := by rw [gx2]; exact dM_pt (i_cik.2 (rv1.toInt.toNat) (by omega)).2
      have dx2 : dF x2 := dM_F mx2 (by decide)
      refine lv_iload_n hx hb d_Canvas_closePath_31 rfl (lv_at hl 0 rfl) ?_
      refine jc_ci (w := (fun u => u)) hK hP hD hS hA (va_runV (As := [.double x1, .double x2, .int rv1]) (rest := []) F (c_Canvas_addPoint l D T ad S x1 x2 rv1  H.size ⟨i_vst, i_vc0, i_vc1, i_vc2, i_vc3, i_vv0, i_vv1, i_vv2, i_vv3, i_vg, i_wct, i_wln, i_sd0, i_sd1, i_sd2, i_sd3, i_rln, i_rtx, i_rpl, i_rtk, i_cnv, i_pts, i_cik, i_und⟩ (by rw [gx1]; exact (i_cik.2 _ (by omega)).1) (by rw [gx2]; exact (i_cik.2 _ (by omega)).2)) (j_cV (k := 3) (C := "PageScribe$Canvas") hts k_5_152 k_1_8 k_5_149 k_5_151 k_0_58 (by decide +kernel) ⟨Nat.le_of_ble_eq_true rfl, Nat.le_of_ble_eq_true rfl⟩) (j_preV (q0 := 67) (ci := 6) hK hP hD csc csc_all csc_nd cl_6 (ce_67 _ _ _) (fun _ _ _ _ h => h) (fun _ _ _ => trivial)) rfl rfl hl.1 rfl (lv_room (Nat.le_of_ble_eq_true rfl)) d_Canvas_closePath_32 ⟨Nat.le_of_ble_eq_true rfl, Nat.le_of_ble_eq_true rfl⟩) (fun rv2 S1 H locs hw2 hP hD hS => ?_)
      have hP : va_P D classes (cW T ad S1) H := hP
      have hD : va_D A (cW T ad S1) := hD
      obtain ⟨⟨i_vst, i_vc0, i_vc1, i_vc2, i_vc3, i_vv0, i_vv1, i_vv2, i_vv3, i_vg, i_wct, i_wln, i_sd0, i_sd1, i_sd2, i_sd3, i_rln, i_rtx, i_rpl, i_rtk, i_cnv, i_pts, i_cik, i_und⟩, kpcL_S1, kpcP_S1, kpcU_S1, kpcW_S1⟩ := hw2
      have kScL_S1 : kcL S S1 := kcL_t (show kcL S S from (kcL_r S)) kpcL_S1
      have kScP_S1 : kcP S S1 := kcP_t (show kcP S S from (kcP_r S)) kpcP_S1
      have kScU_S1 : kcU S S1 := kcU_t (show kcU S S from (kcU_r S)) kpcU_S1
      have kScW_S1 : kcW S S1 := kcW_t (show kcW S S from (kcW_r S)) kpcW_S1
      have nxr_length_S1 : (f_xr_length S1).toInt = (f_xr_length S).toInt := congrArg Int32.toInt kpcL_S1
      have nxr_length_S1 : (f_xr_length S1).toInt = (f_xr_length S).toInt := congrArg Int32.toInt kpcP_S1.1
      have nxr_place_S1 : (f_xr_place S1).toInt = (f_xr_place S).toInt := congrArg Int32.toInt kpcP_S1.2.1
      have nxe_underWay_S1 : (f_xe_underWay S1).toInt = (f_xe_underWay S).toInt := congrArg Int32.toInt kpcU_S1
      have nxp_columns_S1 : (f_xp_columns S1).toInt = (f_xp_columns S).toInt := congrArg Int32.toInt kpcW_S1.1
      have nxp_rows_S1 : (f_xp_rows S1).toInt = (f_xp_rows S).toInt := congrArg Int32.toInt kpcW_S1.2
      have rrv2 := zt_rng rv2
      exact j_iret F hr hlocks hK hS S1 ⟨⟨i_vst, i_vc0, i_vc1, i_vc2, i_vc3, i_vv0, i_vv1, i_vv2, i_vv3, i_vg, i_wct, i_wln, i_sd0, i_sd1, i_sd2, i_sd3, i_rln, i_rtx, i_rpl, i_rtk, i_cnv, i_pts, i_cik, i_und⟩, kScL_S1, kScP_S1, kScU_S1, kScW_S1⟩ hP hD d_Canvas_closePath_35
    · have fc12_1 : 30 ≤ rv1.toInt := Int.not_lt.mp (zt_nlt (show rv1.toInt = _ from rfl) tI_30 c12_1)
      refine lv_bipush (v := 13) hx hb d_Canvas_closePath_15 (by decide) ?_
      exact j_iret F hr hlocks hK hS S ⟨⟨i_vst, i_vc0, i_vc1, i_vc2, i_vc3, i_vv0, i_vv1, i_vv2, i_vv3, i_vg, i_wct, i_wln, i_sd0, i_sd1, i_sd2, i_sd3, i_rln, i_rtx, i_rpl, i_rtk, i_cnv, i_pts, i_cik, i_und⟩, (kcL_r S), (kcP_r S), (kcU_r S), (kcW_r S)⟩ hP hD d_Canvas_closePath_17
theorem d_Canvas_addGiven_0 : decode prog_3_method_7_code 0 = .ok (.aload_n 0, 1) := by decide +kernel
theorem d_Canvas_addGiven_1 : decode prog_3_method_7_code 1 = .ok (.getfield 30, 3) := by decide +kernel
theorem d_Canvas_addGiven_4 : decode prog_3_method_7_code 4 = .ok (.iconst 1, 1) := by decide +kernel
theorem d_Canvas_addGiven_5 : decode prog_3_method_7_code 5 = .ok (.invokevirtual 74, 3) := by decide +kernel
theorem d_Canvas_addGiven_8 : decode prog_3_method_7_code 8 = .ok (.dstore_n 2, 1) := by decide +kernel
theorem d_Canvas_addGiven_9 : decode prog_3_method_7_code 9 = .ok (.aload_n 0, 1) := by decide +kernel
theorem d_Canvas_addGiven_10 : decode prog_3_method_7_code 10 = .ok (.getfield 30, 3) := by decide +kernel
theorem d_Canvas_addGiven_13 : decode prog_3_method_7_code 13 = .ok (.iconst 0, 1) := by decide +kernel
theorem d_Canvas_addGiven_14 : decode prog_3_method_7_code 14 = .ok (.invokevirtual 74, 3) := by decide +kernel
theorem d_Canvas_addGiven_17 : decode prog_3_method_7_code 17 = .ok (.dstore 4, 2) := by decide +kernel
theorem d_Canvas_addGiven_19 : decode prog_3_method_7_code 19 = .ok (.dload_n 2, 1) := by decide +kernel
theorem d_Canvas_addGiven_20 : decode prog_3_method_7_code 20 = .ok (.invokestatic 88, 3) := by decide +kernel
theorem k_5_146 : Cond.code ⟨"PageScribe$Canvas", "isOff", "(D)Z"⟩ prog_3_method_6_code 2 (some .boolean) ∈ gw := gw_of (tb_5 (List.mem_of_getElem? (i := 146) (by decide +kernel))) (by decide +kernel)
theorem k_5_144 : Cond.methodLink "PageScribe$Canvas" 88 ⟨"PageScribe$Canvas", "isOff", "(D)Z"⟩ ∈ gw := gw_of (tb_5 (List.mem_of_getElem? (i := 144) (by decide +kernel))) (by decide +kernel)
theorem k_5_145 : Cond.static ⟨"PageScribe$Canvas", "isOff", "(D)Z"⟩ ∈ gw := gw_of (tb_5 (List.mem_of_getElem? (i := 145) (by decide +kernel))) (by decide +kernel)
theorem d_Canvas_addGiven_23 : decode prog_3_method_7_code 23 = .ok (.ifCond .ne 11, 3) := by decide +kernel
theorem d_Canvas_addGiven_34 : decode prog_3_method_7_code 34 = .ok (.iconst 4, 1) := by decide +kernel
theorem d_Canvas_addGiven_35 : decode prog_3_method_7_code 35 = .ok (.ireturn, 1) := by decide +kernel
theorem d_Canvas_addGiven_26 : decode prog_3_method_7_code 26 = .ok (.dload 4, 2) := by decide +kernel
theorem d_Canvas_addGiven_28 : decode prog_3_method_7_code 28 = .ok (.invokestatic 88, 3) := by decide +kernel
theorem d_Canvas_addGiven_31 : decode prog_3_method_7_code 31 = .ok (.ifCond .eq 5, 3) := by decide +kernel
theorem d_Canvas_addGiven_36 : decode prog_3_method_7_code 36 = .ok (.iload_n 1, 1) := by decide +kernel
theorem d_Canvas_addGiven_37 : decode prog_3_method_7_code 37 = .ok (.ifCond .eq 17, 3) := by decide +kernel
theorem d_Canvas_addGiven_54 : decode prog_3_method_7_code 54 = .ok (.aload_n 0, 1) := by decide +kernel
theorem d_Canvas_addGiven_55 : decode prog_3_method_7_code 55 = .ok (.dload_n 2, 1) := by decide +kernel
theorem d_Canvas_addGiven_56 : decode prog_3_method_7_code 56 = .ok (.dload 4, 2) := by decide +kernel
theorem d_Canvas_addGiven_58 : decode prog_3_method_7_code 58 = .ok (.invokevirtual 96, 3) := by decide +kernel
theorem k_5_156 : Cond.code ⟨"PageScribe$Canvas", "addToLatest", "(DD)I"⟩ prog_3_method_9_code 6 (some .int) ∈ gw := gw_of (tb_5 (List.mem_of_getElem? (i := 156) (by decide +kernel))) (by decide +kernel)
theorem k_5_153 : Cond.methodLink "PageScribe$Canvas" 96 ⟨"PageScribe$Canvas", "addToLatest", "(DD)I"⟩ ∈ gw := gw_of (tb_5 (List.mem_of_getElem? (i := 153) (by decide +kernel))) (by decide +kernel)
theorem k_5_155 : Cond.instanceMethod ⟨"PageScribe$Canvas", "addToLatest", "(DD)I"⟩ ∈ gw := gw_of (tb_5 (List.mem_of_getElem? (i := 155) (by decide +kernel))) (by decide +kernel)
theorem k_0_59 : Cond.selects "PageScribe$Canvas" ⟨"PageScribe$Canvas", "addToLatest", "(DD)I"⟩ ⟨"PageScribe$Canvas", "addToLatest", "(DD)I"⟩ ∈ gw := gw_of (tb_0 (List.mem_of_getElem? (i := 59) (by decide +kernel))) (by decide +kernel)
theorem d_Canvas_addGiven_61 : decode prog_3_method_7_code 61 = .ok (.istore 6, 2) := by decide +kernel
theorem d_Canvas_addGiven_63 : decode prog_3_method_7_code 63 = .ok (.iload 6, 2) := by decide +kernel
theorem d_Canvas_addGiven_65 : decode prog_3_method_7_code 65 = .ok (.ifCond .ne 11, 3) := by decide +kernel
theorem d_Canvas_addGiven_76 : decode prog_3_method_7_code 76 = .ok (.iload 6, 2) := by decide +kernel
theorem d_Canvas_addGiven_78 : decode prog_3_method_7_code 78 = .ok (.ireturn, 1) := by decide +kernel
theorem d_Canvas_addGiven_68 : decode prog_3_method_7_code 68 = .ok (.aload_n 0, 1) := by decide +kernel
theorem d_Canvas_addGiven_69 : decode prog_3_method_7_code 69 = .ok (.getfield 30, 3) := by decide +kernel
theorem d_Canvas_addGiven_72 : decode prog_3_method_7_code 72 = .ok (.iconst 2, 1) := by decide +kernel
theorem d_Canvas_addGiven_73 : decode prog_3_method_7_code 73 = .ok (.invokevirtual 80, 3) := by decide +kernel
theorem d_Canvas_addGiven_40 : decode prog_3_method_7_code 40 = .ok (.aload_n 0, 1) := by decide +kernel
theorem d_Canvas_addGiven_41 : decode prog_3_method_7_code 41 = .ok (.dload_n 2, 1) := by decide +kernel
theorem d_Canvas_addGiven_42 : decode prog_3_method_7_code 42 = .ok (.dload 4, 2) := by decide +kernel
theorem d_Canvas_addGiven_44 : decode prog_3_method_7_code 44 = .ok (.aload_n 0, 1) := by decide +kernel
theorem d_Canvas_addGiven_45 : decode prog_3_method_7_code 45 = .ok (.getfield 26, 3) := by decide +kernel
theorem d_Canvas_addGiven_48 : decode prog_3_method_7_code 48 = .ok (.invokevirtual 92, 3) := by decide +kernel
theorem d_Canvas_addGiven_51 : decode prog_3_method_7_code 51 = .ok (.goto 10, 3) := by decide +kernel
set_option maxHeartbeats 4000000 in
set_option maxRecDepth 100000 in
theorem c_Canvas_addGiven (l : Launch) (D : va_G) (T : Nat → ClassId) (ad : Nat → Nat) (S : CS) (p0 : Int32) (sz : Nat)  (hI : CIv S) : Met l ⟨"PageScribe$Canvas", "addGiven", "(Z)I"⟩ (wy ⟨"PageScribe$Canvas", "addGiven", "(Z)I"⟩ prog_3_method_7_code 7 (some .int)) ({ frames := 3, cells := 0, slots := 0, locals := 210 }) (va_Pc [.ref (ad 67), .int p0] (Pw D T (cW T ad S) sz E0)) (va_Qi (fun (r : Int32) (u : CS) => CIv u ∧ kcL S u ∧ kcP S u ∧ kcU S u ∧ kcW S u) (fun u t => Bw D T (va_A (cW T ad S) sz) (cW T ad u) t) (va_A (cW T ad S) sz)) 0 0 (va_A (cW T ad S) sz) := by
  refine j_met (y := ⟨"PageScribe$Canvas", "addGiven", "(Z)I"⟩) (b := prog_3_method_7_code) (n := 7) (ret := (some .int)) (av := [.ref (ad 67), .int p0]) (Qc := fun A => va_Qi (fun (r : Int32) (u : CS) => CIv u ∧ kcL S u ∧ kcP S u ∧ kcU S u ∧ kcW S u) (fun u t => Bw D T A (cW T ad u) t) A) (by decide +kernel) (Nat.le_of_ble_eq_true rfl) (fun p e s m args below meth c A ls F hr hlocks hnm hK hP hD hS hA hN hE hl => ?_)
  obtain ⟨hx, hb, hml, hown, hts⟩ := id F
  have hl : lv_has ls 7 [(0, .ref (ad 67)), (1, .int p0)] := hl
  obtain ⟨i_vst, i_vc0, i_vc1, i_vc2, i_vc3, i_vv0, i_vv1, i_vv2, i_vv3, i_vg, i_wct, i_wln, i_sd0, i_sd1, i_sd2, i_sd3, i_rln, i_rtx, i_rpl, i_rtk, i_cnv, i_pts, i_cik, i_und⟩ := id hI
  have rp0 := zt_rng p0
  refine lv_aload_n hx hb d_Canvas_addGiven_0 rfl (lv_at hl 0 rfl) ?_
  refine va_get (D := D) (ci := 6) (v := .ref (ad 1)) (C := "PageScribe$Canvas") (T := F_Canvas) (N := 9) hx hb hts i_Canvas hown hK hP 67 (ce_67 _ _ _) cl_6 0 (by decide) (hts _ k_1_207) (fun _ h9 => h9) rfl d_Canvas_addGiven_1 ?_
  refine lv_iconst (v := 1) hx hb d_Canvas_addGiven_4 (by decide) ?_
  refine jc_cd (w := (fun _ => S)) hK hP hD hS hA (va_runV (As := [.int 1]) (rest := []) F (c_Stack_doubleDown l D T ad S (1 : Int32)  s.heap.size ⟨i_vst, i_vc0, i_vc1, i_vc2, i_vc3, i_vv0, i_vv1, i_vv2, i_vv3, i_vg, i_wct, i_wln, i_sd0, i_sd1, i_sd2, i_sd3, i_rln, i_rtx, i_rpl, i_rtk, i_cnv, i_pts, i_cik, i_und⟩) (j_cV (k := 1) (C := "PageScribe$Stack") hts k_4_113 k_1_3 k_5_136 k_4_111 k_4_112 (by decide +kernel) ⟨Nat.le_of_ble_eq_true rfl, Nat.le_of_ble_eq_true rfl⟩) (j_preV (q0 := 1) (ci := 0) hK hP hD csc csc_all csc_nd cl_0 (ce_1 _ _ _) (fun _ _ _ _ h => h) (fun _ _ _ => trivial)) rfl rfl hl.1 rfl (lv_room (Nat.le_of_ble_eq_true rfl)) d_Canvas_addGiven_5 ⟨Nat.le_of_ble_eq_true rfl, Nat.le_of_ble_eq_true rfl⟩) (fun rv1 u1 H locs hw1 hP hD hS => ?_)
  have hP : va_P D classes (cW T ad S) H := hP
  have hD : va_D A (cW T ad S) := hD
  have qhw1 : dB rv1 := by simpa only [tI_1] using hw1
  refine lv_dstore_n (lv' := [(2, .double rv1), (0, .ref (ad 67)), (1, .int p0)]) hx hb d_Canvas_addGiven_8 rfl hl (by decide) rfl (fun ls hl => ?_)
  refine lv_aload_n hx hb d_Canvas_addGiven_9 rfl (lv_at hl 1 rfl) ?_
  refine va_get (D := D) (ci := 6) (v := .ref (ad 1)) (C := "PageScribe$Canvas") (T := F_Canvas) (N := 9) hx hb hts i_Canvas hown hK hP 67 (ce_67 _ _ _) cl_6 0 (by decide) (hts _ k_1_207) (fun _ h9 => h9) rfl d_Canvas_addGiven_10 ?_
  refine lv_iconst (v := 0) hx hb d_Canvas_addGiven_13 (by decide) ?_
  refine jc_cd (w := (fun _ => S)) hK hP hD hS hA (va_runV (As := [.int 0]) (rest := []) F (c_Stack_doubleDown l D T ad S (0 : Int32)  H.size ⟨i_vst, i_vc0, i_vc1, i_vc2, i_vc3, i_vv0, i_vv1, i_vv2, i_vv3, i_vg, i_wct, i_wln, i_sd0, i_sd1, i_sd2, i_sd3, i_rln, i_rtx, i_rpl, i_rtk, i_cnv, i_pts, i_cik, i_und⟩) (j_cV (k := 1) (C := "PageScribe$Stack") hts k_4_113 k_1_3 k_5_136 k_4_111 k_4_112 (by decide +kernel) ⟨Nat.le_of_ble_eq_true rfl, Nat.le_of_ble_eq_true rfl⟩) (j_preV (q0 := 1) (ci := 0) hK hP hD csc csc_all csc_nd cl_0 (ce_1 _ _ _) (fun _ _ _ _ h => h) (fun _ _ _ => trivial)) rfl rfl hl.1 rfl (lv_room (Nat.le_of_ble_eq_true rfl)) d_Canvas_addGiven_14 ⟨Nat.le_of_ble_eq_true rfl, Nat.le_of_ble_eq_true rfl⟩) (fun rv2 u2 H locs hw2 hP hD hS => ?_)
  have hP : va_P D classes (cW T ad S) H := hP
  have hD : va_D A (cW T ad S) := hD
  have qhw2 : dB rv2 := by simpa only [tI_0] using hw2
  refine lv_dstore (lv' := [(4, .double rv2), (2, .double rv1), (0, .ref (ad 67)), (1, .int p0)]) hx hb d_Canvas_addGiven_17 hl (by decide) rfl (fun ls hl => ?_)
  refine lv_dload_n hx hb d_Canvas_addGiven_19 rfl (lv_at hl 1 rfl) ?_
  refine j_ci (wc := []) (wr := (cW T ad S)) hK hP hD hS hA [] csc rfl csc_all csc_nd (fun _ _ => List.not_mem_nil) (va_runS (As := [.double rv1]) (rest := []) F (c_Canvas_isOff l D T rv1  H.size (show dN rv1 by omega)) (j_cS (k := 1) hts k_5_146 k_1_8 k_5_144 k_5_145 (by decide +kernel) ⟨Nat.le_of_ble_eq_true rfl, Nat.le_of_ble_eq_true rfl⟩) (j_preS hK hP hD [] rfl (by decide) (fun _ _ _ _ h => h) (fun _ _ _ => trivial)) rfl rfl hl.1 rfl (lv_room (Nat.le_of_ble_eq_true rfl)) d_Canvas_addGiven_20 ⟨Nat.le_of_ble_eq_true rfl, Nat.le_of_ble_eq_true rfl⟩) (fun rv3 u3 H locs hw3 hP hD hS => ?_)
  have hP : va_P D classes (cW T ad S) H := hP
  have hD : va_D A (cW T ad S) := hD
  have qhw3 : rv3.toInt = 1 ∨ (rv3.toInt = 0 ∧ dI rv1) := hw3
  have rrv3 := zt_rng rv3
  refine lv_if_ne (tgt := 34) hx hb d_Canvas_addGiven_23 (by decide) (fun c23_1 => ?_) (fun c23_1 => ?_)
  · first | have fc23_1 : rv3.toInt < 0 := (by have := zt_ne (show rv3.toInt = _ from rfl) tI_0 c23_1; omega) | have fc23_1 : 0 < rv3.toInt := (by have := zt_ne (show rv3.toInt = _ from rfl) tI_0 c23_1; omega) | skip
    refine lv_iconst (v := 4) hx hb d_Canvas_addGiven_34 (by decide) ?_
    exact j_iret F hr hlocks hK hS S ⟨⟨i_vst, i_vc0, i_vc1, i_vc2, i_vc3, i_vv0, i_vv1, i_vv2, i_vv3, i_vg, i_wct, i_wln, i_sd0, i_sd1, i_sd2, i_sd3, i_rln, i_rtx, i_rpl, i_rtk, i_cnv, i_pts, i_cik, i_und⟩, (kcL_r S), (kcP_r S), (kcU_r S), (kcW_r S)⟩ hP hD d_Canvas_addGiven_35
  · have fc23_1 : rv3.toInt = 0 := zt_eq (show rv3.toInt = _ from rfl) tI_0 c23_1
    refine lv_dload hx hb d_Canvas_addGiven_26 (lv_at hl 0 rfl) ?_
    refine j_ci (wc := []) (wr := (cW T ad S)) hK hP hD hS hA [] csc rfl csc_all csc_nd (fun _ _ => List.not_mem_nil) (va_runS (As := [.double rv2]) (rest := []) F (c_Canvas_isOff l D T rv2  H.size (show dN rv2 by omega)) (j_cS (k := 1) hts k_5_146 k_1_8 k_5_144 k_5_145 (by decide +kernel) ⟨Nat.le_of_ble_eq_true rfl, Nat.le_of_ble_eq_true rfl⟩) (j_preS hK hP hD [] rfl (by decide) (fun _ _ _ _ h => h) (fun _ _ _ => trivial)) rfl rfl hl.1 rfl (lv_room (Nat.le_of_ble_eq_true rfl)) d_Canvas_addGiven_28 ⟨Nat.le_of_ble_eq_true rfl, Nat.le_of_ble_eq_true rfl⟩) (fun rv4 u4 H locs hw4 hP hD hS => ?_)
    have hP : va_P D classes (cW T ad S) H := hP
    have hD : va_D A (cW T ad S) := hD
    have qhw4 : rv4.toInt = 1 ∨ (rv4.toInt = 0 ∧ dI rv2) := hw4
    have rrv4 := zt_rng rv4
    refine lv_if_eq (tgt := 36) hx hb d_Canvas_addGiven_31 (by decide) (fun c31_1 => ?_) (fun c31_1 => ?_)
    · have fc31_1 : rv4.toInt = 0 := zt_eq (show rv4.toInt = _ from rfl) tI_0 c31_1
      refine lv_iload_n hx hb d_Canvas_addGiven_36 rfl (lv_at hl 3 rfl) ?_
      refine lv_if_eq (tgt := 54) hx hb d_Canvas_addGiven_37 (by decide) (fun c37_1 => ?_) (fun c37_1 => ?_)
      · have fc37_1 : p0.toInt = 0 := zt_eq (show p0.toInt = _ from rfl) tI_0 c37_1
        refine lv_aload_n hx hb d_Canvas_addGiven_54 rfl (lv_at hl 2 rfl) ?_
        refine lv_dload_n hx hb d_Canvas_addGiven_55 rfl (lv_at hl 1 rfl) ?_
        refine lv_dload hx hb d_Canvas_addGiven_56 (lv_at hl 0 rfl) ?_
        refine jc_ci (w := (fun u => u)) hK hP hD hS hA (va_runV (As := [.double rv1, .double rv2]) (rest := []) F (c_Canvas_addToLatest l D T ad S rv1 rv2  H.size ⟨i_vst, i_vc0, i_vc1, i_vc2, i_vc3, i_vv0, i_vv1, i_vv2, i_vv3, i_vg, i_wct, i_wln, i_sd0, i_sd1, i_sd2, i_sd3, i_rln, i_rtx, i_rpl, i_rtk, i_cnv, i_pts, i_cik, i_und⟩ (show dI rv1 by omega) (show dI rv2 by omega)) (j_cV (k := 2) (C := "PageScribe$Canvas") hts k_5_156 k_1_8 k_5_153 k_5_155 k_0_59 (by decide +kernel) ⟨Nat.le_of_ble_eq_true rfl, Nat.le_of_ble_eq_true rfl⟩) (j_preV (q0 := 67) (ci := 6) hK hP hD csc csc_all csc_nd cl_6 (ce_67 _ _ _) (fun _ _ _ _ h => h) (fun _ _ _ => trivial)) rfl rfl hl.1 rfl (lv_room (Nat.le_of_ble_eq_true rfl)) d_Canvas_addGiven_58 ⟨Nat.le_of_ble_eq_true rfl, Nat.le_of_ble_eq_true rfl⟩) (fun rv5 S1 H locs hw5 hP hD hS => ?_)
        have hP : va_P D classes (cW T ad S1) H := hP
        have hD : va_D A (cW T ad S1) := hD
        obtain ⟨⟨i_vst, i_vc0, i_vc1, i_vc2, i_vc3, i_vv0, i_vv1, i_vv2, i_vv3, i_vg, i_wct, i_wln, i_sd0, i_sd1, i_sd2, i_sd3, i_rln, i_rtx, i_rpl, i_rtk, i_cnv, i_pts, i_cik, i_und⟩, kpcL_S1, kpcP_S1, kpcU_S1, kpcW_S1⟩ := hw5
        have kScL_S1 : kcL S S1 := kcL_t (show kcL S S from (kcL_r S)) kpcL_S1
        have kScP_S1 : kcP S S1 := kcP_t (show kcP S S from (kcP_r S)) kpcP_S1
        have kScU_S1 : kcU S S1 := kcU_t (show kcU S S from (kcU_r S)) kpcU_S1
        have kScW_S1 : kcW S S1 := kcW_t (show kcW S S from (kcW_r S)) kpcW_S1
        have nxr_length_S1 : (f_xr_length S1).toInt = (f_xr_length S).toInt := congrArg Int32.toInt kpcL_S1
        have nxr_length_S1 : (f_xr_length S1).toInt = (f_xr_length S).toInt := congrArg Int32.toInt kpcP_S1.1
        have nxr_place_S1 : (f_xr_place S1).toInt = (f_xr_place S).toInt := congrArg Int32.toInt kpcP_S1.2.1
        have nxe_underWay_S1 : (f_xe_underWay S1).toInt = (f_xe_underWay S).toInt := congrArg Int32.toInt kpcU_S1
        have nxp_columns_S1 : (f_xp_columns S1).toInt = (f_xp_columns S).toInt := congrArg Int32.toInt kpcW_S1.1
        have nxp_rows_S1 : (f_xp_rows S1).toInt = (f_xp_rows S).toInt := congrArg Int32.toInt kpcW_S1.2
        have rrv5 := zt_rng rv5
        refine lv_istore (lv' := [(6, .int rv5), (4, .double rv2), (2, .double rv1), (0, .ref (ad 67)), (1, .int p0)]) hx hb d_Canvas_addGiven_61 hl (by decide) rfl (fun ls hl => ?_)
        refine lv_iload hx hb d_Canvas_addGiven_63 (lv_at hl 0 rfl) ?_
        refine lv_if_ne (tgt := 76) hx hb d_Canvas_addGiven_65 (by decide) (fun c65_1 => ?_) (fun c65_1 => ?_)
        · first | have fc65_1 : rv5.toInt < 0 := (by have := zt_ne (show rv5.toInt = _ from rfl) tI_0 c65_1; omega) | have fc65_1 : 0 < rv5.toInt := (by have := zt_ne (show rv5.toInt = _ from rfl) tI_0 c65_1; omega) | skip
          refine lv_iload hx hb d_Canvas_addGiven_76 (lv_at hl 0 rfl) ?_
          exact j_iret F hr hlocks hK hS S1 ⟨⟨i_vst, i_vc0, i_vc1, i_vc2, i_vc3, i_vv0, i_vv1, i_vv2, i_vv3, i_vg, i_wct, i_wln, i_sd0, i_sd1, i_sd2, i_sd3, i_rln, i_rtx, i_rpl, i_rtk, i_cnv, i_pts, i_cik, i_und⟩, kScL_S1, kScP_S1, kScU_S1, kScW_S1⟩ hP hD d_Canvas_addGiven_78
        · have fc65_1 : rv5.toInt = 0 := zt_eq (show rv5.toInt = _ from rfl) tI_0 c65_1
          refine lv_aload_n hx hb d_Canvas_addGiven_68 rfl (lv_at hl 3 rfl) ?_
          refine va_get (D := D) (ci := 6) (v := .ref (ad 1)) (C := "PageScribe$Canvas") (T := F_Canvas) (N := 9) hx hb hts i_Canvas hown hK hP 67 (ce_67 _ _ _) cl_6 0 (by decide) (hts _ k_1_207) (fun _ h9 => h9) rfl d_Canvas_addGiven_69 ?_
          refine lv_iconst (v := 2) hx hb d_Canvas_addGiven_72 (by decide) ?_
          refine jc_cv (w := (fun u => u)) hK hP hD hS hA (va_runU (As := [.int 2]) (rest := []) F (c_Row_drop l D T ad S1 (2 : Int32)  H.size ⟨i_vst, i_vc0, i_vc1, i_vc2, i_vc3, i_vv0, i_vv1, i_vv2, i_vv3, i_vg, i_wct, i_wln, i_sd0, i_sd1, i_sd2, i_sd3, i_rln, i_rtx, i_rpl, i_rtk, i_cnv, i_pts, i_cik, i_und⟩) (j_cU (k := 1) (C := "PageScribe$Stack") (owner := "PageScribe$Row") (x := ⟨"PageScribe$Stack", "drop", "(I)V"⟩) hts k_4_47 k_5_137 k_4_43 k_4_45 k_4_46 k_1_2 rfl (by decide +kernel) ⟨Nat.le_of_ble_eq_true rfl, Nat.le_of_ble_eq_true rfl⟩) (j_preV (q0 := 1) (ci := 0) hK hP hD csc csc_all csc_nd cl_0 (ce_1 _ _ _) (fun _ _ _ _ h => h) (fun _ _ _ => trivial)) rfl rfl hl.1 rfl (lv_room (Nat.le_of_ble_eq_true rfl)) d_Canvas_addGiven_73 ⟨Nat.le_of_ble_eq_true rfl, Nat.le_of_ble_eq_true rfl⟩) (fun S2 H locs hw6 hP hD hS => ?_)
          have hP : va_P D classes (cW T ad S2) H := hP
          have hD : va_D A (cW T ad S2) := hD
          obtain ⟨⟨i_vst, i_vc0, i_vc1, i_vc2, i_vc3, i_vv0, i_vv1, i_vv2, i_vv3, i_vg, i_wct, i_wln, i_sd0, i_sd1, i_sd2, i_sd3, i_rln, i_rtx, i_rpl, i_rtk, i_cnv, i_pts, i_cik, i_und⟩, kpcL_S2, kpcP_S2, kpcU_S2, kpcW_S2⟩ := hw6
          have kScL_S2 : kcL S S2 := kcL_t (show kcL S S1 from kScL_S1) kpcL_S2
          have kScP_S2 : kcP S S2 := kcP_t (show kcP S S1 from kScP_S1) kpcP_S2
          have kScU_S2 : kcU S S2 := kcU_t (show kcU S S1 from kScU_S1) kpcU_S2
          have kScW_S2 : kcW S S2 := kcW_t (show kcW S S1 from kScW_S1) kpcW_S2
          have nxr_length_S2 : (f_xr_length S2).toInt = (f_xr_length S1).toInt := congrArg Int32.toInt kpcL_S2
          have nxr_length_S2 : (f_xr_length S2).toInt = (f_xr_length S1).toInt := congrArg Int32.toInt kpcP_S2.1
          have nxr_place_S2 : (f_xr_place S2).toInt = (f_xr_place S1).toInt := congrArg Int32.toInt kpcP_S2.2.1
          have nxe_underWay_S2 : (f_xe_underWay S2).toInt = (f_xe_underWay S1).toInt := congrArg Int32.toInt kpcU_S2
          have nxp_columns_S2 : (f_xp_columns S2).toInt = (f_xp_columns S1).toInt := congrArg Int32.toInt kpcW_S2.1
          have nxp_rows_S2 : (f_xp_rows S2).toInt = (f_xp_rows S1).toInt := congrArg Int32.toInt kpcW_S2.2
          refine lv_iload hx hb d_Canvas_addGiven_76 (lv_at hl 0 rfl) ?_
          exact j_iret F hr hlocks hK hS S2 ⟨⟨i_vst, i_vc0, i_vc1, i_vc2, i_vc3, i_vv0, i_vv1, i_vv2, i_vv3, i_vg, i_wct, i_wln, i_sd0, i_sd1, i_sd2, i_sd3, i_rln, i_rtx, i_rpl, i_rtk, i_cnv, i_pts, i_cik, i_und⟩, kScL_S2, kScP_S2, kScU_S2, kScW_S2⟩ hP hD d_Canvas_addGiven_78
      · first | have fc37_1 : p0.toInt < 0 := (by have := zt_ne (show p0.toInt = _ from rfl) tI_0 c37_1; omega) | have fc37_1 : 0 < p0.toInt := (by have := zt_ne (show p0.toInt = _ from rfl) tI_0 c37_1; omega) | skip
        refine lv_aload_n hx hb d_Canvas_addGiven_40 rfl (lv_at hl 2 rfl) ?_
        refine lv_dload_n hx hb d_Canvas_addGiven_41 rfl (lv_at hl 1 rfl) ?_
        refine lv_dload hx hb d_Canvas_addGiven_42 (lv_at hl 0 rfl) ?_
        refine lv_aload_n hx hb d_Canvas_addGiven_44 rfl (lv_at hl 2 rfl) ?_
        refine va_get (D := D) (ci := 6) (v := .int (f_xp_points S)) (C := "PageScribe$Canvas") (T := F_Canvas) (N := 9) hx hb hts i_Canvas hown hK hP 67 (ce_67 _ _ _) cl_6 8 (by decide) (hts _ k_1_215) (fun _ h9 => h9) rfl d_Canvas_addGiven_45 ?_
        refine jc_ci (w := (fun u => u)) hK hP hD hS hA (va_runV (As := [.double rv1, .double rv2, .int (f_xp_points S)]) (rest := []) F (c_Canvas_addPoint l D T ad S rv1 rv2 (f_xp_points S)  H.size ⟨i_vst, i_vc0, i_vc1, i_vc2, i_vc3, i_vv0, i_vv1, i_vv2, i_vv3, i_vg, i_wct, i_wln, i_sd0, i_sd1, i_sd2, i_sd3, i_rln, i_rtx, i_rpl, i_rtk, i_cnv, i_pts, i_cik, i_und⟩ (show dI rv1 by omega) (show dI rv2 by omega)) (j_cV (k := 3) (C := "PageScribe$Canvas") hts k_5_152 k_1_8 k_5_149 k_5_151 k_0_58 (by decide +kernel) ⟨Nat.le_of_ble_eq_true rfl, Nat.le_of_ble_eq_true rfl⟩) (j_preV (q0 := 67) (ci := 6) hK hP hD csc csc_all csc_nd cl_6 (ce_67 _ _ _) (fun _ _ _ _ h => h) (fun _ _ _ => trivial)) rfl rfl hl.1 rfl (lv_room (Nat.le_of_ble_eq_true rfl)) d_Canvas_addGiven_48 ⟨Nat.le_of_ble_eq_true rfl, Nat.le_of_ble_eq_true rfl⟩) (fun rv7 S3 H locs hw7 hP hD hS => ?_)
        have hP : va_P D classes (cW T ad S3) H := hP
        have hD : va_D A (cW T ad S3) := hD
        obtain ⟨⟨i_vst, i_vc0, i_vc1, i_vc2, i_vc3, i_vv0, i_vv1, i_vv2, i_vv3, i_vg, i_wct, i_wln, i_sd0, i_sd1, i_sd2, i_sd3, i_rln, i_rtx, i_rpl, i_rtk, i_cnv, i_pts, i_cik, i_und⟩, kpcL_S3, kpcP_S3, kpcU_S3, kpcW_S3⟩ := hw7
        have kScL_S3 : kcL S S3 := kcL_t (show kcL S S from (kcL_r S)) kpcL_S3
        have kScP_S3 : kcP S S3 := kcP_t (show kcP S S from (kcP_r S)) kpcP_S3
        have kScU_S3 : kcU S S3 := kcU_t (show kcU S S from (kcU_r S)) kpcU_S3
        have kScW_S3 : kcW S S3 := kcW_t (show kcW S S from (kcW_r S)) kpcW_S3
        have nxr_length_S3 : (f_xr_length S3).toInt = (f_xr_length S).toInt := congrArg Int32.toInt kpcL_S3
        have nxr_length_S3 : (f_xr_length S3).toInt = (f_xr_length S).toInt := congrArg Int32.toInt kpcP_S3.1
        have nxr_place_S3 : (f_xr_place S3).toInt = (f_xr_place S).toInt := congrArg Int32.toInt kpcP_S3.2.1
        have nxe_underWay_S3 : (f_xe_underWay S3).toInt = (f_xe_underWay S).toInt := congrArg Int32.toInt kpcU_S3
        have nxp_columns_S3 : (f_xp_columns S3).toInt = (f_xp_columns S).toInt := congrArg Int32.toInt kpcW_S3.1
        have nxp_rows_S3 : (f_xp_rows S3).toInt = (f_xp_rows S).toInt := congrArg Int32.toInt kpcW_S3.2
        have rrv7 := zt_rng rv7
        refine lv_goto (tgt := 61) hx hb d_Canvas_addGiven_51 (by decide) ?_
        refine lv_istore (lv' := [(6, .int rv7), (4, .double rv2), (2, .double rv1), (0, .ref (ad 67)), (1, .int p0)]) hx hb d_Canvas_addGiven_61 hl (by decide) rfl (fun ls hl => ?_)
        refine lv_iload hx hb d_Canvas_addGiven_63 (lv_at hl 0 rfl) ?_
        refine lv_if_ne (tgt := 76) hx hb d_Canvas_addGiven_65 (by decide) (fun c65_2 => ?_) (fun c65_2 => ?_)
        · first | have fc65_2 : rv7.toInt < 0 := (by have := zt_ne (show rv7.toInt = _ from rfl) tI_0 c65_2; omega) | have fc65_2 : 0 < rv7.toInt := (by have := zt_ne (show rv7.toInt = _ from rfl) tI_0 c65_2; omega) | skip
          refine lv_iload hx hb d_Canvas_addGiven_76 (lv_at hl 0 rfl) ?_
          exact j_iret F hr hlocks hK hS S3 ⟨⟨i_vst, i_vc0, i_vc1, i_vc2, i_vc3, i_vv0, i_vv1, i_vv2, i_vv3, i_vg, i_wct, i_wln, i_sd0, i_sd1, i_sd2, i_sd3, i_rln, i_rtx, i_rpl, i_rtk, i_cnv, i_pts, i_cik, i_und⟩, kScL_S3, kScP_S3, kScU_S3, kScW_S3⟩ hP hD d_Canvas_addGiven_78
        · have fc65_2 : rv7.toInt = 0 := zt_eq (show rv7.toInt = _ from rfl) tI_0 c65_2
          refine lv_aload_n hx hb d_Canvas_addGiven_68 rfl (lv_at hl 3 rfl) ?_
          refine va_get (D := D) (ci := 6) (v := .ref (ad 1)) (C := "PageScribe$Canvas") (T := F_Canvas) (N := 9) hx hb hts i_Canvas hown hK hP 67 (ce_67 _ _ _) cl_6 0 (by decide) (hts _ k_1_207) (fun _ h9 => h9) rfl d_Canvas_addGiven_69 ?_
          refine lv_iconst (v := 2) hx hb d_Canvas_addGiven_72 (by decide) ?_
          refine jc_cv (w := (fun u => u)) hK hP hD hS hA (va_runU (As := [.int 2]) (rest := []) F (c_Row_drop l D T ad S3 (2 : Int32)  H.size ⟨i_vst, i_vc0, i_vc1, i_vc2, i_vc3, i_vv0, i_vv1, i_vv2, i_vv3, i_vg, i_wct, i_wln, i_sd0, i_sd1, i_sd2, i_sd3, i_rln, i_rtx, i_rpl, i_rtk, i_cnv, i_pts, i_cik, i_und⟩) (j_cU (k := 1) (C := "PageScribe$Stack") (owner := "PageScribe$Row") (x := ⟨"PageScribe$Stack", "drop", "(I)V"⟩) hts k_4_47 k_5_137 k_4_43 k_4_45 k_4_46 k_1_2 rfl (by decide +kernel) ⟨Nat.le_of_ble_eq_true rfl, Nat.le_of_ble_eq_true rfl⟩) (j_preV (q0 := 1) (ci := 0) hK hP hD csc csc_all csc_nd cl_0 (ce_1 _ _ _) (fun _ _ _ _ h => h) (fun _ _ _ => trivial)) rfl rfl hl.1 rfl (lv_room (Nat.le_of_ble_eq_true rfl)) d_Canvas_addGiven_73 ⟨Nat.le_of_ble_eq_true rfl, Nat.le_of_ble_eq_true rfl⟩) (fun S4 H locs hw8 hP hD hS => ?_)
          have hP : va_P D classes (cW T ad S4) H := hP
          have hD : va_D A (cW T ad S4) := hD
          obtain ⟨⟨i_vst, i_vc0, i_vc1, i_vc2, i_vc3, i_vv0, i_vv1, i_vv2, i_vv3, i_vg, i_wct, i_wln, i_sd0, i_sd1, i_sd2, i_sd3, i_rln, i_rtx, i_rpl, i_rtk, i_cnv, i_pts, i_cik, i_und⟩, kpcL_S4, kpcP_S4, kpcU_S4, kpcW_S4⟩ := hw8
          have kScL_S4 : kcL S S4 := kcL_t (show kcL S S3 from kScL_S3) kpcL_S4
          have kScP_S4 : kcP S S4 := kcP_t (show kcP S S3 from kScP_S3) kpcP_S4
          have kScU_S4 : kcU S S4 := kcU_t (show kcU S S3 from kScU_S3) kpcU_S4
          have kScW_S4 : kcW S S4 := kcW_t (show kcW S S3 from kScW_S3) kpcW_S4
          have nxr_length_S4 : (f_xr_length S4).toInt = (f_xr_length S3).toInt := congrArg Int32.toInt kpcL_S4
          have nxr_length_S4 : (f_xr_length S4).toInt = (f_xr_length S3).toInt := congrArg Int32.toInt kpcP_S4.1
          have nxr_place_S4 : (f_xr_place S4).toInt = (f_xr_place S3).toInt := congrArg Int32.toInt kpcP_S4.2.1
          have nxe_underWay_S4 : (f_xe_underWay S4).toInt = (f_xe_underWay S3).toInt := congrArg Int32.toInt kpcU_S4
          have nxp_columns_S4 : (f_xp_columns S4).toInt = (f_xp_columns S3).toInt := congrArg Int32.toInt kpcW_S4.1
          have nxp_rows_S4 : (f_xp_rows S4).toInt = (f_xp_rows S3).toInt := congrArg Int32.toInt kpcW_S4.2
          refine lv_iload hx hb d_Canvas_addGiven_76 (lv_at hl 0 rfl) ?_
          exact j_iret F hr hlocks hK hS S4 ⟨⟨i_vst, i_vc0, i_vc1, i_vc2, i_vc3, i_vv0, i_vv1, i_vv2, i_vv3, i_vg, i_wct, i_wln, i_sd0, i_sd1, i_sd2, i_sd3, i_rln, i_rtx, i_rpl, i_rtk, i_cnv, i_pts, i_cik, i_und⟩, kScL_S4, kScP_S4, kScU_S4, kScW_S4⟩ hP hD d_Canvas_addGiven_78
    · first | have fc31_1 : rv4.toInt < 0 := (by have := zt_ne (show rv4.toInt = _ from rfl) tI_0 c31_1; omega) | have fc31_1 : 0 < rv4.toInt := (by have := zt_ne (show rv4.toInt = _ from rfl) tI_0 c31_1; omega) | skip
      refine lv_iconst (v := 4) hx hb d_Canvas_addGiven_34 (by decide) ?_
      exact j_iret F hr hlocks hK hS S ⟨⟨i_vst, i_vc0, i_vc1, i_vc2, i_vc3, i_vv0, i_vv1, i_vv2, i_vv3, i_vg, i_wct, i_wln, i_sd0, i_sd1, i_sd2, i_sd3, i_rln, i_rtx, i_rpl, i_rtk, i_cnv, i_pts, i_cik, i_und⟩, (kcL_r S), (kcP_r S), (kcU_r S), (kcW_r S)⟩ hP hD d_Canvas_addGiven_35
theorem d_Canvas_nextOf_0 : decode prog_3_method_14_code 0 = .ok (.iload_n 1, 1) := by decide +kernel
theorem d_Canvas_nextOf_1 : decode prog_3_method_14_code 1 = .ok (.iconst 1, 1) := by decide +kernel
theorem d_Canvas_nextOf_2 : decode prog_3_method_14_code 2 = .ok (.iadd, 1) := by decide +kernel
theorem d_Canvas_nextOf_3 : decode prog_3_method_14_code 3 = .ok (.aload_n 0, 1) := by decide +kernel
theorem d_Canvas_nextOf_4 : decode prog_3_method_14_code 4 = .ok (.getfield 26, 3) := by decide +kernel
theorem d_Canvas_nextOf_7 : decode prog_3_method_14_code 7 = .ok (.if_icmp .ge 24, 3) := by decide +kernel
theorem d_Canvas_nextOf_31 : decode prog_3_method_14_code 31 = .ok (.iconst 0, 1) := by decide +kernel
theorem d_Canvas_nextOf_32 : decode prog_3_method_14_code 32 = .ok (.istore_n 2, 1) := by decide +kernel
theorem d_Canvas_nextOf_33 : decode prog_3_method_14_code 33 = .ok (.iload_n 2, 1) := by decide +kernel
theorem d_Canvas_nextOf_34 : decode prog_3_method_14_code 34 = .ok (.ifCond .eq 9, 3) := by decide +kernel
theorem d_Canvas_nextOf_43 : decode prog_3_method_14_code 43 = .ok (.aload_n 0, 1) := by decide +kernel
theorem d_Canvas_nextOf_44 : decode prog_3_method_14_code 44 = .ok (.getfield 22, 3) := by decide +kernel
theorem d_Canvas_nextOf_47 : decode prog_3_method_14_code 47 = .ok (.iload_n 1, 1) := by decide +kernel
theorem d_Canvas_nextOf_48 : decode prog_3_method_14_code 48 = .ok (.iaload, 1) := by decide +kernel
theorem d_Canvas_nextOf_49 : decode prog_3_method_14_code 49 = .ok (.ireturn, 1) := by decide +kernel
theorem d_Canvas_nextOf_10 : decode prog_3_method_14_code 10 = .ok (.aload_n 0, 1) := by decide +kernel
theorem d_Canvas_nextOf_11 : decode prog_3_method_14_code 11 = .ok (.getfield 22, 3) := by decide +kernel
theorem d_Canvas_nextOf_14 : decode prog_3_method_14_code 14 = .ok (.iload_n 1, 1) := by decide +kernel
theorem d_Canvas_nextOf_15 : decode prog_3_method_14_code 15 = .ok (.iconst 1, 1) := by decide +kernel
theorem d_Canvas_nextOf_16 : decode prog_3_method_14_code 16 = .ok (.iadd, 1) := by decide +kernel
theorem d_Canvas_nextOf_17 : decode prog_3_method_14_code 17 = .ok (.iaload, 1) := by decide +kernel
theorem d_Canvas_nextOf_18 : decode prog_3_method_14_code 18 = .ok (.aload_n 0, 1) := by decide +kernel
theorem d_Canvas_nextOf_19 : decode prog_3_method_14_code 19 = .ok (.getfield 22, 3) := by decide +kernel
theorem d_Canvas_nextOf_22 : decode prog_3_method_14_code 22 = .ok (.iload_n 1, 1) := by decide +kernel
theorem d_Canvas_nextOf_23 : decode prog_3_method_14_code 23 = .ok (.iaload, 1) := by decide +kernel
theorem d_Canvas_nextOf_24 : decode prog_3_method_14_code 24 = .ok (.if_icmp .ne 7, 3) := by decide +kernel
theorem d_Canvas_nextOf_27 : decode prog_3_method_14_code 27 = .ok (.iconst 1, 1) := by decide +kernel
theorem d_Canvas_nextOf_28 : decode prog_3_method_14_code 28 = .ok (.goto 4, 3) := by decide +kernel
theorem d_Canvas_nextOf_37 : decode prog_3_method_14_code 37 = .ok (.iload_n 1, 1) := by decide +kernel
theorem d_Canvas_nextOf_38 : decode prog_3_method_14_code 38 = .ok (.iconst 1, 1) := by decide +kernel
theorem d_Canvas_nextOf_39 : decode prog_3_method_14_code 39 = .ok (.iadd, 1) := by decide +kernel
theorem d_Canvas_nextOf_40 : decode prog_3_method_14_code 40 = .ok (.goto 9, 3) := by decide +kernel
set_option maxHeartbeats 4000000 in
set_option maxRecDepth 100000 in
theorem c_Canvas_nextOf (l : Launch) (D : va_G) (T : Nat → ClassId) (ad : Nat → Nat) (S : CS) (p0 : Int32) (sz : Nat)  (hI : CIv S) (h1 : 0 ≤ p0.toInt ∧ p0.toInt < 30) : Met l ⟨"PageScribe$Canvas", "nextOf", "(I)I"⟩ (wy ⟨"PageScribe$Canvas", "nextOf", "(I)I"⟩ prog_3_method_14_code 3 (some .int)) ({ frames := 0, cells := 0, slots := 0, locals := 0 }) (va_Pc [.ref (ad 67), .int p0] (Pw D T (cW T ad S) sz E0)) (va_Qi (fun (r : Int32) (u : Unit) => True) (fun u t => Bw D T (va_A (cW T ad S) sz) (cW T ad S) t) (va_A (cW T ad S) sz)) 0 0 (va_A (cW T ad S) sz) := by
  refine j_met (y := ⟨"PageScribe$Canvas", "nextOf", "(I)I"⟩) (b := prog_3_method_14_code) (n := 3) (ret := (some .int)) (av := [.ref (ad 67), .int p0]) (Qc := fun A => va_Qi (fun (r : Int32) (u : Unit) => True) (fun u t => Bw D T A (cW T ad S) t) A) (by decide +kernel) (Nat.le_of_ble_eq_true rfl) (fun p e s m args below meth c A ls F hr hlocks hnm hK hP hD hS hA hN hE hl => ?_)
  obtain ⟨hx, hb, hml, hown, hts⟩ := id F
  have hl : lv_has ls 3 [(0, .ref (ad 67)), (1, .int p0)] := hl
  obtain ⟨i_vst, i_vc0, i_vc1, i_vc2, i_vc3, i_vv0, i_vv1, i_vv2, i_vv3, i_vg, i_wct, i_wln, i_sd0, i_sd1, i_sd2, i_sd3, i_rln, i_rtx, i_rpl, i_rtk, i_cnv, i_pts, i_cik, i_und⟩ := id hI
  have rp0 := zt_rng p0
  refine lv_iload_n hx hb d_Canvas_nextOf_0 rfl (lv_at hl 1 rfl) ?_
  refine lv_iconst (v := 1) hx hb d_Canvas_nextOf_1 (by decide) ?_
  refine lv_iadd hx hb d_Canvas_nextOf_2 ?_
  refine lv_topi (fun x1 ex1 => ?_)
  have fx1 : x1.toInt = (p0.toInt + 1) := by rw [ex1]; exact (zt_add (show p0.toInt = _ from rfl) tI_1 (by omega) (by omega)).trans (by omega)
  refine lv_aload_n hx hb d_Canvas_nextOf_3 rfl (lv_at hl 0 rfl) ?_
  refine va_get (D := D) (ci := 6) (v := .int (f_xp_points S)) (C := "PageScribe$Canvas") (T := F_Canvas) (N := 9) hx hb hts i_Canvas hown hK hP 67 (ce_67 _ _ _) cl_6 8 (by decide) (hts _ k_1_215) (fun _ h9 => h9) rfl d_Canvas_nextOf_4 ?_
  refine lv_icmp_ge (tgt := 31) hx hb d_Canvas_nextOf_7 (by decide) (fun c7_1 => ?_) (fun c7_1 => ?_)
  · have fc7_1 : (f_xp_points S).toInt ≤ (p0.toInt + 1) := zt_le (show (f_xp_points S).toInt = _ from rfl) fx1 c7_1
    refine lv_iconst (v := 0) hx hb d_Canvas_nextOf_31 (by decide) ?_
    refine lv_istore_n (lv' := [(2, .int 0), (0, .ref (ad 67)), (1, .int p0)]) hx hb d_Canvas_nextOf_32 rfl hl (by decide) rfl (fun ls hl => ?_)
    refine lv_iload_n hx hb d_Canvas_nextOf_33 rfl (lv_at hl 0 rfl) ?_
    refine lv_if_eq (tgt := 43) hx hb d_Canvas_nextOf_34 (by decide) (fun _ => ?_) (fun c9 => absurd c9 (by decide +kernel))
    refine lv_aload_n hx hb d_Canvas_nextOf_43 rfl (lv_at hl 1 rfl) ?_
    refine va_get (D := D) (ci := 6) (v := .ref (ad 71)) (C := "PageScribe$Canvas") (T := F_Canvas) (N := 9) hx hb hts i_Canvas hown hK hP 67 (ce_67 _ _ _) cl_6 7 (by decide) (hts _ k_1_214) (fun _ h9 => h9) rfl d_Canvas_nextOf_44 ?_
    refine lv_iload_n hx hb d_Canvas_nextOf_47 rfl (lv_at hl 2 rfl) ?_
    refine va_iald hx hb hK hP 71 0 (ce_71 _ _ _) rfl (zt_in (show p0.toInt = _ from rfl) (by omega) (by omega)) d_Canvas_nextOf_48 ?_
    refine lv_topi (fun x2 ex2 => ?_)
    have gx2 : x2 = (a_xp_begins S) p0.toInt.toNat := ex2.trans (congrArg _ (zt_ix (show p0.toInt = _ from rfl)))
    have fx2 : x2.toInt = ((a_xp_begins S) p0.toInt.toNat).toInt := by rw [gx2]
    have rx2 := zt_rng x2
    exact j_iret F hr hlocks hK hS () trivial hP hD d_Canvas_nextOf_49
  · have fc7_1 : (p0.toInt + 1) < (f_xp_points S).toInt := Int.not_le.mp (zt_nle (show (f_xp_points S).toInt = _ from rfl) fx1 c7_1)
    refine lv_aload_n hx hb d_Canvas_nextOf_10 rfl (lv_at hl 0 rfl) ?_
    refine va_get (D := D) (ci := 6) (v := .ref (ad 71)) (C := "PageScribe$Canvas") (T := F_Canvas) (N := 9) hx hb hts i_Canvas hown hK hP 67 (ce_67 _ _ _) cl_6 7 (by decide) (hts _ k_1_214) (fun _ h9 => h9) rfl d_Canvas_nextOf_11 ?_
    refine lv_iload_n hx hb d_Canvas_nextOf_14 rfl (lv_at hl 1 rfl) ?_
    refine lv_iconst (v := 1) hx hb d_Canvas_nextOf_15 (by decide) ?_
    refine lv_iadd hx hb d_Canvas_nextOf_16 ?_
    refine j_eqi (y := x1) ex1.symm ?_
    refine va_iald hx hb hK hP 71 0 (ce_71 _ _ _) rfl (zt_in fx1 (by omega) (by omega)) d_Canvas_nextOf_17 ?_
    refine lv_topi (fun x3 ex3 => ?_)
    have gx3 : x3 = (a_xp_begins S) (p0.toInt + 1).toNat := ex3.trans (congrArg _ (zt_ix fx1))
    have fx3 : x3.toInt = ((a_xp_begins S) (p0.toInt + 1).toNat).toInt := by rw [gx3]
    have rx3 := zt_rng x3
    refine lv_aload_n hx hb d_Canvas_nextOf_18 rfl (lv_at hl 0 rfl) ?_
    refine va_get (D := D) (ci := 6) (v := .ref (ad 71)) (C := "PageScribe$Canvas") (T := F_Canvas) (N := 9) hx hb hts i_Canvas hown hK hP 67 (ce_67 _ _ _) cl_6 7 (by decide) (hts _ k_1_214) (fun _ h9 => h9) rfl d_Canvas_nextOf_19 ?_
    refine lv_iload_n hx hb d_Canvas_nextOf_22 rfl (lv_at hl 1 rfl) ?_
    refine va_iald hx hb hK hP 71 0 (ce_71 _ _ _) rfl (zt_in (show p0.toInt = _ from rfl) (by omega) (by omega)) d_Canvas_nextOf_23 ?_
    refine lv_topi (fun x4 ex4 => ?_)
    have gx4 : x4 = (a_xp_begins S) p0.toInt.toNat := ex4.trans (congrArg _ (zt_ix (show p0.toInt = _ from rfl)))
    have fx4 : x4.toInt = ((a_xp_begins S) p0.toInt.toNat).toInt := by rw [gx4]
    have rx4 := zt_rng x4
    refine lv_icmp_ne (tgt := 31) hx hb d_Canvas_nextOf_24 (by decide) (fun c24_1 => ?_) (fun c24_1 => ?_)
    · first | have fc24_1 : x3.toInt < x4.toInt := (by have := zt_ne (show x3.toInt = _ from rfl) (show x4.toInt = _ from rfl) c24_1; omega) | have fc24_1 : x4.toInt < x3.toInt := (by have := zt_ne (show x3.toInt = _ from rfl) (show x4.toInt = _ from rfl) c24_1; omega) | skip
      refine lv_iconst (v := 0) hx hb d_Canvas_nextOf_31 (by decide) ?_
      refine lv_istore_n (lv' := [(2, .int 0), (0, .ref (ad 67)), (1, .int p0)]) hx hb d_Canvas_nextOf_32 rfl hl (by decide) rfl (fun ls hl => ?_)
      refine lv_iload_n hx hb d_Canvas_nextOf_33 rfl (lv_at hl 0 rfl) ?_
      refine lv_if_eq (tgt := 43) hx hb d_Canvas_nextOf_34 (by decide) (fun _ => ?_) (fun c9 => absurd c9 (by decide +kernel))
      refine lv_aload_n hx hb d_Canvas_nextOf_43 rfl (lv_at hl 1 rfl) ?_
      refine va_get (D := D) (ci := 6) (v := .ref (ad 71)) (C := "PageScribe$Canvas") (T := F_Canvas) (N := 9) hx hb hts i_Canvas hown hK hP 67 (ce_67 _ _ _) cl_6 7 (by decide) (hts _ k_1_214) (fun _ h9 => h9) rfl d_Canvas_nextOf_44 ?_
      refine lv_iload_n hx hb d_Canvas_nextOf_47 rfl (lv_at hl 2 rfl) ?_
      refine va_iald hx hb hK hP 71 0 (ce_71 _ _ _) rfl (zt_in (show p0.toInt = _ from rfl) (by omega) (by omega)) d_Canvas_nextOf_48 ?_
      refine j_eqi (y := x4) ex4.symm ?_
      exact j_iret F hr hlocks hK hS () trivial hP hD d_Canvas_nextOf_49
    · have fc24_1 : x3.toInt = x4.toInt := zt_eq (show x3.toInt = _ from rfl) (show x4.toInt = _ from rfl) c24_1
      refine lv_iconst (v := 1) hx hb d_Canvas_nextOf_27 (by decide) ?_
      refine lv_goto (tgt := 32) hx hb d_Canvas_nextOf_28 (by decide) ?_
      refine lv_istore_n (lv' := [(2, .int 1), (0, .ref (ad 67)), (1, .int p0)]) hx hb d_Canvas_nextOf_32 rfl hl (by decide) rfl (fun ls hl => ?_)
      refine lv_iload_n hx hb d_Canvas_nextOf_33 rfl (lv_at hl 0 rfl) ?_
      refine lv_if_eq (tgt := 43) hx hb d_Canvas_nextOf_34 (by decide) (fun c9 => absurd c9 (by decide +kernel)) (fun _ => ?_)
      refine lv_iload_n hx hb d_Canvas_nextOf_37 rfl (lv_at hl 2 rfl) ?_
      refine lv_iconst (v := 1) hx hb d_Canvas_nextOf_38 (by decide) ?_
      refine lv_iadd hx hb d_Canvas_nextOf_39 ?_
      refine j_eqi (y := x1) ex1.symm ?_
      refine lv_goto (tgt := 49) hx hb d_Canvas_nextOf_40 (by decide) ?_
      exact j_iret F hr hlocks hK hS () trivial hP hD d_Canvas_nextOf_49
theorem d_Canvas_wayOfEdge_0 : decode prog_3_method_15_code 0 = .ok (.aload_n 0, 1) := by decide +kernel
theorem d_Canvas_wayOfEdge_1 : decode prog_3_method_15_code 1 = .ok (.iload_n 1, 1) := by decide +kernel
theorem d_Canvas_wayOfEdge_2 : decode prog_3_method_15_code 2 = .ok (.invokevirtual 115, 3) := by decide +kernel
theorem k_5_185 : Cond.code ⟨"PageScribe$Canvas", "nextOf", "(I)I"⟩ prog_3_method_14_code 3 (some .int) ∈ gw := gw_of (tb_5 (List.mem_of_getElem? (i := 185) (by decide +kernel))) (by decide +kernel)
theorem k_5_182 : Cond.methodLink "PageScribe$Canvas" 115 ⟨"PageScribe$Canvas", "nextOf", "(I)I"⟩ ∈ gw := gw_of (tb_5 (List.mem_of_getElem? (i := 182) (by decide +kernel))) (by decide +kernel)
theorem k_5_184 : Cond.instanceMethod ⟨"PageScribe$Canvas", "nextOf", "(I)I"⟩ ∈ gw := gw_of (tb_5 (List.mem_of_getElem? (i := 184) (by decide +kernel))) (by decide +kernel)
theorem k_0_65 : Cond.selects "PageScribe$Canvas" ⟨"PageScribe$Canvas", "nextOf", "(I)I"⟩ ⟨"PageScribe$Canvas", "nextOf", "(I)I"⟩ ∈ gw := gw_of (tb_0 (List.mem_of_getElem? (i := 65) (by decide +kernel))) (by decide +kernel)
theorem d_Canvas_wayOfEdge_5 : decode prog_3_method_15_code 5 = .ok (.istore 6, 2) := by decide +kernel
theorem d_Canvas_wayOfEdge_7 : decode prog_3_method_15_code 7 = .ok (.iload 6, 2) := by decide +kernel
theorem d_Canvas_wayOfEdge_9 : decode prog_3_method_15_code 9 = .ok (.ifCond .lt 10, 3) := by decide +kernel
theorem d_Canvas_wayOfEdge_19 : decode prog_3_method_15_code 19 = .ok (.iconst 0, 1) := by decide +kernel
theorem d_Canvas_wayOfEdge_20 : decode prog_3_method_15_code 20 = .ok (.ireturn, 1) := by decide +kernel
theorem d_Canvas_wayOfEdge_12 : decode prog_3_method_15_code 12 = .ok (.iload 6, 2) := by decide +kernel
theorem d_Canvas_wayOfEdge_14 : decode prog_3_method_15_code 14 = .ok (.bipush 30, 2) := by decide +kernel
theorem d_Canvas_wayOfEdge_16 : decode prog_3_method_15_code 16 = .ok (.if_icmp .lt 5, 3) := by decide +kernel
theorem d_Canvas_wayOfEdge_21 : decode prog_3_method_15_code 21 = .ok (.aload_n 0, 1) := by decide +kernel
theorem d_Canvas_wayOfEdge_22 : decode prog_3_method_15_code 22 = .ok (.getfield 15, 3) := by decide +kernel
theorem d_Canvas_wayOfEdge_25 : decode prog_3_method_15_code 25 = .ok (.iload_n 1, 1) := by decide +kernel
theorem d_Canvas_wayOfEdge_26 : decode prog_3_method_15_code 26 = .ok (.daload, 1) := by decide +kernel
theorem d_Canvas_wayOfEdge_27 : decode prog_3_method_15_code 27 = .ok (.dstore 7, 2) := by decide +kernel
theorem d_Canvas_wayOfEdge_29 : decode prog_3_method_15_code 29 = .ok (.aload_n 0, 1) := by decide +kernel
theorem d_Canvas_wayOfEdge_30 : decode prog_3_method_15_code 30 = .ok (.getfield 19, 3) := by decide +kernel
theorem d_Canvas_wayOfEdge_33 : decode prog_3_method_15_code 33 = .ok (.iload_n 1, 1) := by decide +kernel
theorem d_Canvas_wayOfEdge_34 : decode prog_3_method_15_code 34 = .ok (.daload, 1) := by decide +kernel
theorem d_Canvas_wayOfEdge_35 : decode prog_3_method_15_code 35 = .ok (.dstore 9, 2) := by decide +kernel
theorem d_Canvas_wayOfEdge_37 : decode prog_3_method_15_code 37 = .ok (.aload_n 0, 1) := by decide +kernel
theorem d_Canvas_wayOfEdge_38 : decode prog_3_method_15_code 38 = .ok (.getfield 15, 3) := by decide +kernel
theorem d_Canvas_wayOfEdge_41 : decode prog_3_method_15_code 41 = .ok (.iload 6, 2) := by decide +kernel
theorem d_Canvas_wayOfEdge_43 : decode prog_3_method_15_code 43 = .ok (.daload, 1) := by decide +kernel
theorem d_Canvas_wayOfEdge_44 : decode prog_3_method_15_code 44 = .ok (.dstore 11, 2) := by decide +kernel
theorem d_Canvas_wayOfEdge_46 : decode prog_3_method_15_code 46 = .ok (.aload_n 0, 1) := by decide +kernel
theorem d_Canvas_wayOfEdge_47 : decode prog_3_method_15_code 47 = .ok (.getfield 19, 3) := by decide +kernel
theorem d_Canvas_wayOfEdge_50 : decode prog_3_method_15_code 50 = .ok (.iload 6, 2) := by decide +kernel
theorem d_Canvas_wayOfEdge_52 : decode prog_3_method_15_code 52 = .ok (.daload, 1) := by decide +kernel
theorem d_Canvas_wayOfEdge_53 : decode prog_3_method_15_code 53 = .ok (.dstore 13, 2) := by decide +kernel
theorem d_Canvas_wayOfEdge_55 : decode prog_3_method_15_code 55 = .ok (.dload 11, 2) := by decide +kernel
theorem d_Canvas_wayOfEdge_57 : decode prog_3_method_15_code 57 = .ok (.dload 7, 2) := by decide +kernel
theorem d_Canvas_wayOfEdge_59 : decode prog_3_method_15_code 59 = .ok (.dsub, 1) := by decide +kernel
theorem d_Canvas_wayOfEdge_60 : decode prog_3_method_15_code 60 = .ok (.dload 4, 2) := by decide +kernel
theorem d_Canvas_wayOfEdge_62 : decode prog_3_method_15_code 62 = .ok (.dload 9, 2) := by decide +kernel
theorem d_Canvas_wayOfEdge_64 : decode prog_3_method_15_code 64 = .ok (.dsub, 1) := by decide +kernel
theorem d_Canvas_wayOfEdge_65 : decode prog_3_method_15_code 65 = .ok (.dmul, 1) := by decide +kernel
theorem d_Canvas_wayOfEdge_66 : decode prog_3_method_15_code 66 = .ok (.dload_n 2, 1) := by decide +kernel
theorem d_Canvas_wayOfEdge_67 : decode prog_3_method_15_code 67 = .ok (.dload 7, 2) := by decide +kernel
theorem d_Canvas_wayOfEdge_69 : decode prog_3_method_15_code 69 = .ok (.dsub, 1) := by decide +kernel
theorem d_Canvas_wayOfEdge_70 : decode prog_3_method_15_code 70 = .ok (.dload 13, 2) := by decide +kernel
theorem d_Canvas_wayOfEdge_72 : decode prog_3_method_15_code 72 = .ok (.dload 9, 2) := by decide +kernel
theorem d_Canvas_wayOfEdge_74 : decode prog_3_method_15_code 74 = .ok (.dsub, 1) := by decide +kernel
theorem d_Canvas_wayOfEdge_75 : decode prog_3_method_15_code 75 = .ok (.dmul, 1) := by decide +kernel
theorem d_Canvas_wayOfEdge_76 : decode prog_3_method_15_code 76 = .ok (.dsub, 1) := by decide +kernel
theorem d_Canvas_wayOfEdge_77 : decode prog_3_method_15_code 77 = .ok (.dstore 15, 2) := by decide +kernel
theorem d_Canvas_wayOfEdge_79 : decode prog_3_method_15_code 79 = .ok (.dload 9, 2) := by decide +kernel
theorem d_Canvas_wayOfEdge_81 : decode prog_3_method_15_code 81 = .ok (.dload 4, 2) := by decide +kernel
theorem d_Canvas_wayOfEdge_83 : decode prog_3_method_15_code 83 = .ok (.dcmp .g, 1) := by decide +kernel
theorem d_Canvas_wayOfEdge_84 : decode prog_3_method_15_code 84 = .ok (.ifCond .gt 20, 3) := by decide +kernel
theorem d_Canvas_wayOfEdge_104 : decode prog_3_method_15_code 104 = .ok (.dload 13, 2) := by decide +kernel
theorem d_Canvas_wayOfEdge_106 : decode prog_3_method_15_code 106 = .ok (.dload 4, 2) := by decide +kernel
theorem d_Canvas_wayOfEdge_108 : decode prog_3_method_15_code 108 = .ok (.dcmp .g, 1) := by decide +kernel
theorem d_Canvas_wayOfEdge_109 : decode prog_3_method_15_code 109 = .ok (.ifCond .gt 22, 3) := by decide +kernel
theorem d_Canvas_wayOfEdge_131 : decode prog_3_method_15_code 131 = .ok (.iconst 0, 1) := by decide +kernel
theorem d_Canvas_wayOfEdge_132 : decode prog_3_method_15_code 132 = .ok (.ireturn, 1) := by decide +kernel
theorem d_Canvas_wayOfEdge_112 : decode prog_3_method_15_code 112 = .ok (.dload 4, 2) := by decide +kernel
theorem d_Canvas_wayOfEdge_114 : decode prog_3_method_15_code 114 = .ok (.dload 9, 2) := by decide +kernel
theorem d_Canvas_wayOfEdge_116 : decode prog_3_method_15_code 116 = .ok (.dcmp .g, 1) := by decide +kernel
theorem d_Canvas_wayOfEdge_117 : decode prog_3_method_15_code 117 = .ok (.ifCond .ge 14, 3) := by decide +kernel
theorem d_Canvas_wayOfEdge_120 : decode prog_3_method_15_code 120 = .ok (.dload 15, 2) := by decide +kernel
theorem d_Canvas_wayOfEdge_122 : decode prog_3_method_15_code 122 = .ok (.dconst 0, 1) := by decide +kernel
theorem d_Canvas_wayOfEdge_123 : decode prog_3_method_15_code 123 = .ok (.dcmp .g, 1) := by decide +kernel
theorem d_Canvas_wayOfEdge_124 : decode prog_3_method_15_code 124 = .ok (.ifCond .ge 7, 3) := by decide +kernel
theorem d_Canvas_wayOfEdge_127 : decode prog_3_method_15_code 127 = .ok (.iconst (-1), 1) := by decide +kernel
theorem d_Canvas_wayOfEdge_128 : decode prog_3_method_15_code 128 = .ok (.goto 4, 3) := by decide +kernel
theorem d_Canvas_wayOfEdge_87 : decode prog_3_method_15_code 87 = .ok (.dload 4, 2) := by decide +kernel
theorem d_Canvas_wayOfEdge_89 : decode prog_3_method_15_code 89 = .ok (.dload 13, 2) := by decide +kernel
theorem d_Canvas_wayOfEdge_91 : decode prog_3_method_15_code 91 = .ok (.dcmp .g, 1) := by decide +kernel
theorem d_Canvas_wayOfEdge_92 : decode prog_3_method_15_code 92 = .ok (.ifCond .ge 12, 3) := by decide +kernel
theorem d_Canvas_wayOfEdge_95 : decode prog_3_method_15_code 95 = .ok (.dload 15, 2) := by decide +kernel
theorem d_Canvas_wayOfEdge_97 : decode prog_3_method_15_code 97 = .ok (.dconst 0, 1) := by decide +kernel
theorem d_Canvas_wayOfEdge_98 : decode prog_3_method_15_code 98 = .ok (.dcmp .l, 1) := by decide +kernel
theorem d_Canvas_wayOfEdge_99 : decode prog_3_method_15_code 99 = .ok (.ifCond .le 5, 3) := by decide +kernel
theorem d_Canvas_wayOfEdge_102 : decode prog_3_method_15_code 102 = .ok (.iconst 1, 1) := by decide +kernel
theorem d_Canvas_wayOfEdge_103 : decode prog_3_method_15_code 103 = .ok (.ireturn, 1) := by decide +kernel
set_option maxHeartbeats 4000000 in
set_option maxRecDepth 100000 in
theorem c_Canvas_wayOfEdge (l : Launch) (D : va_G) (T : Nat → ClassId) (ad : Nat → Nat) (S : CS) (p0 : Int32) (d0 : UInt64) (d1 : UInt64) (sz : Nat)  (hI : CIv S) (h1 : 0 ≤ p0.toInt ∧ p0.toInt < 30) (h2 : dM 1058 d0) (h3 : dM 1058 d1) : Met l ⟨"PageScribe$Canvas", "wayOfEdge", "(IDD)I"⟩ (wy ⟨"PageScribe$Canvas", "wayOfEdge", "(IDD)I"⟩ prog_3_method_15_code 17 (some .int)) ({ frames := 1, cells := 0, slots := 0, locals := 70 }) (va_Pc [.ref (ad 67), .int p0, .double d0, .double d1] (Pw D T (cW T ad S) sz E0)) (va_Qi (fun (r : Int32) (u : Unit) => True) (fun u t => Bw D T (va_A (cW T ad S) sz) (cW T ad S) t) (va_A (cW T ad S) sz)) 0 0 (va_A (cW T ad S) sz) := by
  refine j_met (y := ⟨"PageScribe$Canvas", "wayOfEdge", "(IDD)I"⟩) (b := prog_3_method_15_code) (n := 17) (ret := (some .int)) (av := [.ref (ad 67), .int p0, .double d0, .double d1]) (Qc := fun A => va_Qi (fun (r : Int32) (u : Unit) => True) (fun u t => Bw D T A (cW T ad S) t) A) (by decide +kernel) (Nat.le_of_ble_eq_true rfl) (fun p e s m args below meth c A ls F hr hlocks hnm hK hP hD hS hA hN hE hl => ?_)
  obtain ⟨hx, hb, hml, hown, hts⟩ := id F
  have hl : lv_has ls 17 [(0, .ref (ad 67)), (1, .int p0), (2, .double d0), (4, .double d1)] := hl
  obtain ⟨i_vst, i_vc0, i_vc1, i_vc2, i_vc3, i_vv0, i_vv1, i_vv2, i_vv3, i_vg, i_wct, i_wln, i_sd0, i_sd1, i_sd2, i_sd3, i_rln, i_rtx, i_rpl, i_rtk, i_cnv, i_pts, i_cik, i_und⟩ := id hI
  have rp0 := zt_rng p0
  have hf2 := dM_F h2 (by decide)
  have hf3 := dM_F h3 (by decide)
  refine lv_aload_n hx hb d_Canvas_wayOfEdge_0 rfl (lv_at hl 0 rfl) ?_
  refine lv_iload_n hx hb d_Canvas_wayOfEdge_1 rfl (lv_at hl 1 rfl) ?_
  refine jc_ci (w := (fun _ => S)) hK hP hD hS hA (va_runV (As := [.int p0]) (rest := []) F (c_Canvas_nextOf l D T ad S p0  s.heap.size ⟨i_vst, i_vc0, i_vc1, i_vc2, i_vc3, i_vv0, i_vv1, i_vv2, i_vv3, i_vg, i_wct, i_wln, i_sd0, i_sd1, i_sd2, i_sd3, i_rln, i_rtx, i_rpl, i_rtk, i_cnv, i_pts, i_cik, i_und⟩ (show 0 ≤ p0.toInt ∧ p0.toInt < 30 by omega)) (j_cV (k := 1) (C := "PageScribe$Canvas") hts k_5_185 k_1_8 k_5_182 k_5_184 k_0_65 (by decide +kernel) ⟨Nat.le_of_ble_eq_true rfl, Nat.le_of_ble_eq_true rfl⟩) (j_preV (q0 := 67) (ci := 6) hK hP hD csc csc_all csc_nd cl_6 (ce_67 _ _ _) (fun _ _ _ _ h => h) (fun _ _ _ => trivial)) rfl rfl hl.1 rfl (lv_room (Nat.le_of_ble_eq_true rfl)) d_Canvas_wayOfEdge_2 ⟨Nat.le_of_ble_eq_true rfl, Nat.le_of_ble_eq_true rfl⟩) (fun rv1 u1 H locs hw1 hP hD hS => ?_)
  have hP : va_P D classes (cW T ad S) H := hP
  have hD : va_D A (cW T ad S) := hD
  have rrv1 := zt_rng rv1
  refine lv_istore (lv' := [(6, .int rv1), (0, .ref (ad 67)), (1, .int p0), (2, .double d0), (4, .double d1)]) hx hb d_Canvas_wayOfEdge_5 hl (by decide) rfl (fun ls hl => ?_)
  refine lv_iload hx hb d_Canvas_wayOfEdge_7 (lv_at hl 0 rfl) ?_
  refine lv_if_lt (tgt := 19) hx hb d_Canvas_wayOfEdge_9 (by decide) (fun c9_1 => ?_) (fun c9_1 => ?_)
  · have fc9_1 : rv1.toInt < 0 := zt_lt (show rv1.toInt = _ from rfl) tI_0 c9_1
    refine lv_iconst (v := 0) hx hb d_Canvas_wayOfEdge_19 (by decide) ?_
    exact j_iret F hr hlocks hK hS () trivial hP hD d_Canvas_wayOfEdge_20
  · have fc9_1 : 0 ≤ rv1.toInt := Int.not_lt.mp (zt_nlt (show rv1.toInt = _ from rfl) tI_0 c9_1)
    refine lv_iload hx hb d_Canvas_wayOfEdge_12 (lv_at hl 0 rfl) ?_
    refine lv_bipush (v := 30) hx hb d_Canvas_wayOfEdge_14 (by decide) ?_
    refine lv_icmp_lt (tgt := 21) hx hb d_Canvas_wayOfEdge_16 (by decide) (fun c16_1 => ?_) (fun c16_1 => ?_)
    · have fc16_1 : rv1.toInt < 30 := zt_lt (show rv1.toInt = _ from rfl) tI_30 c16_1
      refine lv_aload_n hx hb d_Canvas_wayOfEdge_21 rfl (lv_at hl 1 rfl) ?_
      refine va_get (D := D) (ci := 6) (v := .ref (ad 69)) (C := "PageScribe$Canvas") (T := F_Canvas) (N := 9) hx hb hts i_Canvas hown hK hP 67 (ce_67 _ _ _) cl_6 5 (by decide) (hts _ k_1_212) (fun _ h9 => h9) rfl d_Canvas_wayOfEdge_22 ?_
      refine lv_iload_n hx hb d_Canvas_wayOfEdge_25 rfl (lv_at hl 2 rfl) ?_
      refine va_dald hx hb hK hP 69 3 (ce_69 _ _ _) rfl (zt_in (show p0.toInt = _ from rfl) (by omega) (by omega)) d_Canvas_wayOfEdge_26 ?_
      refine lv_topd (fun x1 ex1 => ?_)
      have gx1 : x1 = (a_xp_across S) p0.toInt.toNat := ex1.trans (congrArg _ (zt_ix (show p0.toInt = _ from rfl)))
      have mx1 : dM 1043 x1 := by rw [gx1]; exact dM_pt (i_cik.2 (p0.toInt.toNat) (by omega)).1
      have dx1 : dF x1 := dM_F mx1 (by decide)
      refine lv_dstore (lv' := [(7, .double x1), (6, .int rv1), (0, .ref (ad 67)), (1, .int p0), (2, .double d0), (4, .double d1)]) hx hb d_Canvas_wayOfEdge_27 hl (by decide) rfl (fun ls hl => ?_)
      refine lv_aload_n hx hb d_Canvas_wayOfEdge_29 rfl (lv_at hl 2 rfl) ?_
      refine va_get (D := D) (ci := 6) (v := .ref (ad 70)) (C := "PageScribe$Canvas") (T := F_Canvas) (N := 9) hx hb hts i_Canvas hown hK hP 67 (ce_67 _ _ _) cl_6 6 (by decide) (hts _ k_1_213) (fun _ h9 => h9) rfl d_Canvas_wayOfEdge_30 ?_
      refine lv_iload_n hx hb d_Canvas_wayOfEdge_33 rfl (lv_at hl 3 rfl) ?_
      refine va_dald hx hb hK hP 70 3 (ce_70 _ _ _) rfl (zt_in (show p0.toInt = _ from rfl) (by omega) (by omega)) d_Canvas_wayOfEdge_34 ?_
      refine lv_topd (fun x2 ex2 => ?_)
      have gx2 : x2 = (a_xp_along S) p0.toInt.toNat := ex2.trans (congrArg _ (zt_ix (show p0.toInt = _ from rfl)))
      have mx2 : dM 1043 x2 := by rw [gx2]; exact dM_pt (i_cik.2 (p0.toInt.toNat) (by omega)).2
      have dx2 : dF x2 := dM_F mx2 (by decide)
      refine lv_dstore (lv' := [(9, .double x2), (7, .double x1), (6, .int rv1), (0, .ref (ad 67)), (1, .int p0), (2, .double d0), (4, .double d1)]) hx hb d_Canvas_wayOfEdge_35 hl (by decide) rfl (fun ls hl => ?_)
      refine lv_aload_n hx hb d_Canvas_wayOfEdge_37 rfl (lv_at hl 3 rfl) ?_
      refine va_get (D := D) (ci := 6) (v := .ref (ad 69)) (C := "PageScribe$Canvas") (T := F_Canvas) (N := 9) hx hb hts i_Canvas hown hK hP 67 (ce_67 _ _ _) cl_6 5 (by decide) (hts _ k_1_212) (fun _ h9 => h9) rfl d_Canvas_wayOfEdge_38 ?_
      refine lv_iload hx hb d_Canvas_wayOfEdge_41 (lv_at hl 2 rfl) ?_
      refine va_dald hx hb hK hP 69 3 (ce_69 _ _ _) rfl (zt_in (show rv1.toInt = _ from rfl) (by omega) (by omega)) d_Canvas_wayOfEdge_43 ?_
      refine lv_topd (fun x3 ex3 => ?_)
      have gx3 : x3 = (a_xp_across S) rv1.toInt.toNat := ex3.trans (congrArg _ (zt_ix (show rv1.toInt = _ from rfl)))
      have mx3 : dM 1043 x3 := by rw [gx3]; exact dM_pt (i_cik.2 (rv1.toInt.toNat) (by omega)).1
      have dx3 : dF x3 := dM_F mx3 (by decide)
      refine lv_dstore (lv' := [(11, .double x3), (9, .double x2), (7, .double x1), (6, .int rv1), (0, .ref (ad 67)), (1, .int p0), (2, .double d0), (4, .double d1)]) hx hb d_Canvas_wayOfEdge_44 hl (by decide) rfl (fun ls hl => ?_)
      refine lv_aload_n hx hb d_Canvas_wayOfEdge_46 rfl (lv_at hl 4 rfl) ?_
      refine va_get (D := D) (ci := 6) (v := .ref (ad 70)) (C := "PageScribe$Canvas") (T := F_Canvas) (N := 9) hx hb hts i_Canvas hown hK hP 67 (ce_67 _ _ _) cl_6 6 (by decide) (hts _ k_1_213) (fun _ h9 => h9) rfl d_Canvas_wayOfEdge_47 ?_
      refine lv_iload hx hb d_Canvas_wayOfEdge_50 (lv_at hl 3 rfl) ?_
      refine va_dald hx hb hK hP 70 3 (ce_70 _ _ _) rfl (zt_in (show rv1.toInt = _ from rfl) (by omega) (by omega)) d_Canvas_wayOfEdge_52 ?_
      refine lv_topd (fun x4 ex4 => ?_)
      have gx4 : x4 = (a_xp_along S) rv1.toInt.toNat := ex4.trans (congrArg _ (zt_ix (show rv1.toInt = _ from rfl)))
      have mx4 : dM 1043 x4 := by rw [gx4]; exact dM_pt (i_cik.2 (rv1.toInt.toNat) (by omega)).2
      have dx4 : dF x4 := dM_F mx4 (by decide)
      refine lv_dstore (lv' := [(13, .double x4), (11, .double x3), (9, .double x2), (7, .double x1), (6, .int rv1), (0, .ref (ad 67)), (1, .int p0), (2, .double d0), (4, .double d1)]) hx hb d_Canvas_wayOfEdge_53 hl (by decide) rfl (fun ls hl => ?_)
      refine lv_dload hx hb d_Canvas_wayOfEdge_55 (lv_at hl 1 rfl) ?_
      refine lv_dload hx hb d_Canvas_wayOfEdge_57 (lv_at hl 3 rfl) ?_
      have m59_0 : dM 1045 (FP.dsub x3 x1) := dM_sub (K := 1043) (dM_le mx3 (by decide)) (dM_le mx1 (by decide)) (by decide)
      refine lv_dsub hx hb d_Canvas_wayOfEdge_59 (vf_N (dF_N (dM_F m59_0 (by decide)))) ?_
      refine lv_topd (fun x5 ex5 => ?_)
      rw [show FP.dsub x3 x1 = x5 from ex5.symm] at m59_0
      have dx5 : dF x5 := dM_F m59_0 (by decide)
      refine lv_dload hx hb d_Canvas_wayOfEdge_60 (lv_at hl 8 rfl) ?_
      refine lv_dload hx hb d_Canvas_wayOfEdge_62 (lv_at hl 2 rfl) ?_
      have m64_1 : dM 1060 (FP.dsub d1 x2) := dM_sub (K := 1058) (dM_le h3 (by decide)) (dM_le mx2 (by decide)) (by decide)
      refine lv_dsub hx hb d_Canvas_wayOfEdge_64 (vf_N (dF_N (dM_F m64_1 (by decide)))) ?_
      refine lv_topd (fun x6 ex6 => ?_)
      rw [show FP.dsub d1 x2 = x6 from ex6.symm] at m64_1
      have dx6 : dF x6 := dM_F m64_1 (by decide)
      have m65_2 : dM 1083 (FP.dmul x5 x6) := dM_mul (Ka := 1045) (Kb := 1060) m59_0 m64_1 (by decide) (by decide)
      refine lv_dmul hx hb d_Canvas_wayOfEdge_65 (vf_N (dF_N (dM_F m65_2 (by decide)))) ?_
      refine lv_topd (fun x7 ex7 => ?_)
      rw [show FP.dmul x5 x6 = x7 from ex7.symm] at m65_2
      have dx7 : dF x7 := dM_F m65_2 (by decide)
      refine lv_dload_n hx hb d_Canvas_wayOfEdge_66 rfl (lv_at hl 7 rfl) ?_
      refine lv_dload hx hb d_Canvas_wayOfEdge_67 (lv_at hl 3 rfl) ?_
      have m69_3 : dM 1060 (FP.dsub d0 x1) := dM_sub (K := 1058) (dM_le h2 (by decide)) (dM_le mx1 (by decide)) (by decide)
      refine lv_dsub hx hb d_Canvas_wayOfEdge_69 (vf_N (dF_N (dM_F m69_3 (by decide)))) ?_
      refine lv_topd (fun x8 ex8 => ?_)
      rw [show FP.dsub d0 x1 = x8 from ex8.symm] at m69_3
      have dx8 : dF x8 := dM_F m69_3 (by decide)
      refine lv_dload hx hb d_Canvas_wayOfEdge_70 (lv_at hl 0 rfl) ?_
      refine lv_dload hx hb d_Canvas_wayOfEdge_72 (lv_at hl 2 rfl) ?_
      have m74_4 : dM 1045 (FP.dsub x4 x2) := dM_sub (K := 1043) (dM_le mx4 (by decide)) (dM_le mx2 (by decide)) (by decide)
      refine lv_dsub hx hb d_Canvas_wayOfEdge_74 (vf_N (dF_N (dM_F m74_4 (by decide)))) ?_
      refine lv_topd (fun x9 ex9 => ?_)
      rw [show FP.dsub x4 x2 = x9 from ex9.symm] at m74_4
      have dx9 : dF x9 := dM_F m74_4 (by decide)
      have m75_5 : dM 1083 (FP.dmul x8 x9) := dM_mul (Ka := 1060) (Kb := 1045) m69_3 m74_4 (by decide) (by decide)
      refine lv_dmul hx hb d_Canvas_wayOfEdge_75 (vf_N (dF_N (dM_F m75_5 (by decide)))) ?_
      refine lv_topd (fun x10 ex10 => ?_)
      rw [show FP.dmul x8 x9 = x10 from ex10.symm] at m75_5
      have dx10 : dF x10 := dM_F m75_5 (by decide)
      have m76_6 : dM 1085 (FP.dsub x7 x10) := dM_sub (K := 1083) (dM_le m65_2 (by decide)) (dM_le m75_5 (by decide)) (by decide)
      refine lv_dsub hx hb d_Canvas_wayOfEdge_76 (vf_N (dF_N (dM_F m76_6 (by decide)))) ?_
      refine lv_topd (fun x11 ex11 => ?_)
      rw [show FP.dsub x7 x10 = x11 from ex11.symm] at m76_6
      have dx11 : dF x11 := dM_F m76_6 (by decide)
      refine lv_dstore (lv' := [(15, .double x11), (13, .double x4), (11, .double x3), (9, .double x2), (7, .double x1), (6, .int rv1), (0, .ref (ad 67)), (1, .int p0), (2, .double d0), (4, .double d1)]) hx hb d_Canvas_wayOfEdge_77 hl (by decide) rfl (fun ls hl => ?_)
      refine lv_dload hx hb d_Canvas_wayOfEdge_79 (lv_at hl 3 rfl) ?_
      refine lv_dload hx hb d_Canvas_wayOfEdge_81 (lv_at hl 9 rfl) ?_
      refine lv_dcmp hx hb d_Canvas_wayOfEdge_83 ?_
      refine lv_topi (fun x12 ex12 => ?_)
      refine lv_if_gt (tgt := 104) hx hb d_Canvas_wayOfEdge_84 (by decide) (fun c84_1 => ?_) (fun c84_1 => ?_)
      · have fc84_1 : 0 < x12.toInt := zt_lt tI_0 (show x12.toInt = _ from rfl) c84_1
        have vc84_1 : dk x2 > dk d1 := by have := zr_dcmp (a := x2) (b := d1) ex12 (show dN x2 by omega) (show dN d1 by omega); have := zt_lt tI_0 (show x12.toInt = _ from rfl) c84_1; omega
        refine lv_dload hx hb d_Canvas_wayOfEdge_104 (lv_at hl 1 rfl) ?_
        refine lv_dload hx hb d_Canvas_wayOfEdge_106 (lv_at hl 9 rfl) ?_
        refine lv_dcmp hx hb d_Canvas_wayOfEdge_108 ?_
        refine lv_topi (fun x13 ex13 => ?_)
        refine lv_if_gt (tgt := 131) hx hb d_Canvas_wayOfEdge_109 (by decide) (fun c109_1 => ?_) (fun c109_1 => ?_)
        · have fc109_1 : 0 < x13.toInt := zt_lt tI_0 (show x13.toInt = _ from rfl) c109_1
          have vc109_1 : dk x4 > dk d1 := by have := zr_dcmp (a := x4) (b := d1) ex13 (show dN x4 by omega) (show dN d1 by omega); have := zt_lt tI_0 (show x13.toInt = _ from rfl) c109_1; omega
          refine lv_iconst (v := 0) hx hb d_Canvas_wayOfEdge_131 (by decide) ?_
          exact j_iret F hr hlocks hK hS () trivial hP hD d_Canvas_wayOfEdge_132
        · have fc109_1 : x13.toInt ≤ 0 := Int.not_lt.mp (zt_nlt tI_0 (show x13.toInt = _ from rfl) c109_1)
          have vc109_1 : dk x4 ≤ dk d1 := by have := zr_dcmp (a := x4) (b := d1) ex13 (show dN x4 by omega) (show dN d1 by omega); have := Int.not_lt.mp (zt_nlt tI_0 (show x13.toInt = _ from rfl) c109_1); omega
          refine lv_dload hx hb d_Canvas_wayOfEdge_112 (lv_at hl 9 rfl) ?_
          refine lv_dload hx hb d_Canvas_wayOfEdge_114 (lv_at hl 3 rfl) ?_
          refine lv_dcmp hx hb d_Canvas_wayOfEdge_116 ?_
          refine lv_topi (fun x14 ex14 => ?_)
          refine lv_if_ge (tgt := 131) hx hb d_Canvas_wayOfEdge_117 (by decide) (fun c117_1 => ?_) (fun c117_1 => ?_)
          · have fc117_1 : 0 ≤ x14.toInt := zt_le tI_0 (show x14.toInt = _ from rfl) c117_1
            have vc117_1 : dk d1 ≥ dk x2 := by have := zr_dcmp (a := d1) (b := x2) ex14 (show dN d1 by omega) (show dN x2 by omega); have := zt_le tI_0 (show x14.toInt = _ from rfl) c117_1; omega
            refine lv_iconst (v := 0) hx hb d_Canvas_wayOfEdge_131 (by decide) ?_
            exact j_iret F hr hlocks hK hS () trivial hP hD d_Canvas_wayOfEdge_132
          · have fc117_1 : x14.toInt < 0 := Int.not_le.mp (zt_nle tI_0 (show x14.toInt = _ from rfl) c117_1)
            have vc117_1 : dk d1 < dk x2 := by have := zr_dcmp (a := d1) (b := x2) ex14 (show dN d1 by omega) (show dN x2 by omega); have := Int.not_le.mp (zt_nle tI_0 (show x14.toInt = _ from rfl) c117_1); omega
            refine lv_dload hx hb d_Canvas_wayOfEdge_120 (lv_at hl 0 rfl) ?_
            refine lv_dconst0 hx hb d_Canvas_wayOfEdge_122 ?_
            have := tD_0
            refine lv_dcmp hx hb d_Canvas_wayOfEdge_123 ?_
            refine lv_topi (fun x15 ex15 => ?_)
            refine lv_if_ge (tgt := 131) hx hb d_Canvas_wayOfEdge_124 (by decide) (fun c124_1 => ?_) (fun c124_1 => ?_)
            · have fc124_1 : 0 ≤ x15.toInt := zt_le tI_0 (show x15.toInt = _ from rfl) c124_1
              have vc124_1 : dk x11 ≥ dk 0 := by have := zr_dcmp (a := x11) (b := 0) ex15 (show dN x11 by omega) (show dN 0 by omega); have := zt_le tI_0 (show x15.toInt = _ from rfl) c124_1; omega
              refine lv_iconst (v := 0) hx hb d_Canvas_wayOfEdge_131 (by decide) ?_
              exact j_iret F hr hlocks hK hS () trivial hP hD d_Canvas_wayOfEdge_132
            · have fc124_1 : x15.toInt < 0 := Int.not_le.mp (zt_nle tI_0 (show x15.toInt = _ from rfl) c124_1)
              have vc124_1 : dk x11 < dk 0 := by have := zr_dcmp (a := x11) (b := 0) ex15 (show dN x11 by omega) (show dN 0 by omega); have := Int.not_le.mp (zt_nle tI_0 (show x15.toInt = _ from rfl) c124_1); omega
              refine lv_iconst (v := (-1)) hx hb d_Canvas_wayOfEdge_127 (by decide) ?_
              refine lv_goto (tgt := 132) hx hb d_Canvas_wayOfEdge_128 (by decide) ?_
              exact j_iret F hr hlocks hK hS () trivial hP hD d_Canvas_wayOfEdge_132
      · have fc84_1 : x12.toInt ≤ 0 := Int.not_lt.mp (zt_nlt tI_0 (show x12.toInt = _ from rfl) c84_1)
        have vc84_1 : dk x2 ≤ dk d1 := by have := zr_dcmp (a := x2) (b := d1) ex12 (show dN x2 by omega) (show dN d1 by omega); have := Int.not_lt.mp (zt_nlt tI_0 (show x12.toInt = _ from rfl) c84_1); omega
        refine lv_dload hx hb d_Canvas_wayOfEdge_87 (lv_at hl 9 rfl) ?_
        refine lv_dload hx hb d_Canvas_wayOfEdge_89 (lv_at hl 1 rfl) ?_
        refine lv_dcmp hx hb d_Canvas_wayOfEdge_91 ?_
        refine lv_topi (fun x16 ex16 => ?_)
        refine lv_if_ge (tgt := 104) hx hb d_Canvas_wayOfEdge_92 (by decide) (fun c92_1 => ?_) (fun c92_1 => ?_)
        · have fc92_1 : 0 ≤ x16.toInt := zt_le tI_0 (show x16.toInt = _ from rfl) c92_1
          have vc92_1 : dk d1 ≥ dk x4 := by have := zr_dcmp (a := d1) (b := x4) ex16 (show dN d1 by omega) (show dN x4 by omega); have := zt_le tI_0 (show x16.toInt = _ from rfl) c92_1; omega
          refine lv_dload hx hb d_Canvas_wayOfEdge_104 (lv_at hl 1 rfl) ?_
          refine lv_dload hx hb d_Canvas_wayOfEdge_106 (lv_at hl 9 rfl) ?_
          refine lv_dcmp hx hb d_Canvas_wayOfEdge_108 ?_
          refine lv_topi (fun x17 ex17 => ?_)
          refine lv_if_gt (tgt := 131) hx hb d_Canvas_wayOfEdge_109 (by decide) (fun c109_2 => ?_) (fun c109_2 => ?_)
          · have fc109_2 : 0 < x17.toInt := zt_lt tI_0 (show x17.toInt = _ from rfl) c109_2
            have vc109_2 : dk x4 > dk d1 := by have := zr_dcmp (a := x4) (b := d1) ex17 (show dN x4 by omega) (show dN d1 by omega); have := zt_lt tI_0 (show x17.toInt = _ from rfl) c109_2; omega
            refine lv_iconst (v := 0) hx hb d_Canvas_wayOfEdge_131 (by decide) ?_
            exact j_iret F hr hlocks hK hS () trivial hP hD d_Canvas_wayOfEdge_132
          · have fc109_2 : x17.toInt ≤ 0 := Int.not_lt.mp (zt_nlt tI_0 (show x17.toInt = _ from rfl) c109_2)
            have vc109_2 : dk x4 ≤ dk d1 := by have := zr_dcmp (a := x4) (b := d1) ex17 (show dN x4 by omega) (show dN d1 by omega); have := Int.not_lt.mp (zt_nlt tI_0 (show x17.toInt = _ from rfl) c109_2); omega
            refine lv_dload hx hb d_Canvas_wayOfEdge_112 (lv_at hl 9 rfl) ?_
            refine lv_dload hx hb d_Canvas_wayOfEdge_114 (lv_at hl 3 rfl) ?_
            refine lv_dcmp hx hb d_Canvas_wayOfEdge_116 ?_
            refine lv_topi (fun x18 ex18 => ?_)
            refine lv_if_ge (tgt := 131) hx hb d_Canvas_wayOfEdge_117 (by decide) (fun c117_2 => ?_) (fun c117_2 => ?_)
            · have fc117_2 : 0 ≤ x18.toInt := zt_le tI_0 (show x18.toInt = _ from rfl) c117_2
              have vc117_2 : dk d1 ≥ dk x2 := by have := zr_dcmp (a := d1) (b := x2) ex18 (show dN d1 by omega) (show dN x2 by omega); have := zt_le tI_0 (show x18.toInt = _ from rfl) c117_2; omega
              refine lv_iconst (v := 0) hx hb d_Canvas_wayOfEdge_131 (by decide) ?_
              exact j_iret F hr hlocks hK hS () trivial hP hD d_Canvas_wayOfEdge_132
            · have fc117_2 : x18.toInt < 0 := Int.not_le.mp (zt_nle tI_0 (show x18.toInt = _ from rfl) c117_2)
              have vc117_2 : dk d1 < dk x2 := by have := zr_dcmp (a := d1) (b := x2) ex18 (show dN d1 by omega) (show dN x2 by omega); have := Int.not_le.mp (zt_nle tI_0 (show x18.toInt = _ from rfl) c117_2); omega
              refine lv_dload hx hb d_Canvas_wayOfEdge_120 (lv_at hl 0 rfl) ?_
              refine lv_dconst0 hx hb d_Canvas_wayOfEdge_122 ?_
              have := tD_0
              refine lv_dcmp hx hb d_Canvas_wayOfEdge_123 ?_
              refine lv_topi (fun x19 ex19 => ?_)
              refine lv_if_ge (tgt := 131) hx hb d_Canvas_wayOfEdge_124 (by decide) (fun c124_2 => ?_) (fun c124_2 => ?_)
              · have fc124_2 : 0 ≤ x19.toInt := zt_le tI_0 (show x19.toInt = _ from rfl) c124_2
                have vc124_2 : dk x11 ≥ dk 0 := by have := zr_dcmp (a := x11) (b := 0) ex19 (show dN x11 by omega) (show dN 0 by omega); have := zt_le tI_0 (show x19.toInt = _ from rfl) c124_2; omega
                refine lv_iconst (v := 0) hx hb d_Canvas_wayOfEdge_131 (by decide) ?_
                exact j_iret F hr hlocks hK hS () trivial hP hD d_Canvas_wayOfEdge_132
              · have fc124_2 : x19.toInt < 0 := Int.not_le.mp (zt_nle tI_0 (show x19.toInt = _ from rfl) c124_2)
                have vc124_2 : dk x11 < dk 0 := by have := zr_dcmp (a := x11) (b := 0) ex19 (show dN x11 by omega) (show dN 0 by omega); have := Int.not_le.mp (zt_nle tI_0 (show x19.toInt = _ from rfl) c124_2); omega
                refine lv_iconst (v := (-1)) hx hb d_Canvas_wayOfEdge_127 (by decide) ?_
                refine lv_goto (tgt := 132) hx hb d_Canvas_wayOfEdge_128 (by decide) ?_
                exact j_iret F hr hlocks hK hS () trivial hP hD d_Canvas_wayOfEdge_132
        · have fc92_1 : x16.toInt < 0 := Int.not_le.mp (zt_nle tI_0 (show x16.toInt = _ from rfl) c92_1)
          have vc92_1 : dk d1 < dk x4 := by have := zr_dcmp (a := d1) (b := x4) ex16 (show dN d1 by omega) (show dN x4 by omega); have := Int.not_le.mp (zt_nle tI_0 (show x16.toInt = _ from rfl) c92_1); omega
          refine lv_dload hx hb d_Canvas_wayOfEdge_95 (lv_at hl 0 rfl) ?_
          refine lv_dconst0 hx hb d_Canvas_wayOfEdge_97 ?_
          have := tD_0
          refine lv_dcmp hx hb d_Canvas_wayOfEdge_98 ?_
          refine lv_topi (fun x20 ex20 => ?_)
          refine lv_if_le (tgt := 104) hx hb d_Canvas_wayOfEdge_99 (by decide) (fun c99_1 => ?_) (fun c99_1 => ?_)
          · have fc99_1 : x20.toInt ≤ 0 := zt_le (show x20.toInt = _ from rfl) tI_0 c99_1
            have vc99_1 : dk x11 ≤ dk 0 := by have := zr_dcmp (a := x11) (b := 0) ex20 (show dN x11 by omega) (show dN 0 by omega); have := zt_le (show x20.toInt = _ from rfl) tI_0 c99_1; omega
            refine lv_dload hx hb d_Canvas_wayOfEdge_104 (lv_at hl 1 rfl) ?_
            refine lv_dload hx hb d_Canvas_wayOfEdge_106 (lv_at hl 9 rfl) ?_
            refine lv_dcmp hx hb d_Canvas_wayOfEdge_108 ?_
            refine lv_topi (fun x21 ex21 => ?_)
            refine lv_if_gt (tgt := 131) hx hb d_Canvas_wayOfEdge_109 (by decide) (fun c109_3 => ?_) (fun c109_3 => ?_)
            · have fc109_3 : 0 < x21.toInt := zt_lt tI_0 (show x21.toInt = _ from rfl) c109_3
              have vc109_3 : dk x4 > dk d1 := by have := zr_dcmp (a := x4) (b := d1) ex21 (show dN x4 by omega) (show dN d1 by omega); have := zt_lt tI_0 (show x21.toInt = _ from rfl) c109_3; omega
              refine lv_iconst (v := 0) hx hb d_Canvas_wayOfEdge_131 (by decide) ?_
              exact j_iret F hr hlocks hK hS () trivial hP hD d_Canvas_wayOfEdge_132
            · have fc109_3 : x21.toInt ≤ 0 := Int.not_lt.mp (zt_nlt tI_0 (show x21.toInt = _ from rfl) c109_3)
              have vc109_3 : dk x4 ≤ dk d1 := by have := zr_dcmp (a := x4) (b := d1) ex21 (show dN x4 by omega) (show dN d1 by omega); have := Int.not_lt.mp (zt_nlt tI_0 (show x21.toInt = _ from rfl) c109_3); omega
              refine lv_dload hx hb d_Canvas_wayOfEdge_112 (lv_at hl 9 rfl) ?_
              refine lv_dload hx hb d_Canvas_wayOfEdge_114 (lv_at hl 3 rfl) ?_
              refine lv_dcmp hx hb d_Canvas_wayOfEdge_116 ?_
              refine lv_topi (fun x22 ex22 => ?_)
              refine lv_if_ge (tgt := 131) hx hb d_Canvas_wayOfEdge_117 (by decide) (fun c117_3 => ?_) (fun c117_3 => ?_)
              · have fc117_3 : 0 ≤ x22.toInt := zt_le tI_0 (show x22.toInt = _ from rfl) c117_3
                have vc117_3 : dk d1 ≥ dk x2 := by have := zr_dcmp (a := d1) (b := x2) ex22 (show dN d1 by omega) (show dN x2 by omega); have := zt_le tI_0 (show x22.toInt = _ from rfl) c117_3; omega
                refine lv_iconst (v := 0) hx hb d_Canvas_wayOfEdge_131 (by decide) ?_
                exact j_iret F hr hlocks hK hS () trivial hP hD d_Canvas_wayOfEdge_132
              · have fc117_3 : x22.toInt < 0 := Int.not_le.mp (zt_nle tI_0 (show x22.toInt = _ from rfl) c117_3)
                have vc117_3 : dk d1 < dk x2 := by have := zr_dcmp (a := d1) (b := x2) ex22 (show dN d1 by omega) (show dN x2 by omega); have := Int.not_le.mp (zt_nle tI_0 (show x22.toInt = _ from rfl) c117_3); omega
                refine lv_dload hx hb d_Canvas_wayOfEdge_120 (lv_at hl 0 rfl) ?_
                refine lv_dconst0 hx hb d_Canvas_wayOfEdge_122 ?_
                have := tD_0
                refine lv_dcmp hx hb d_Canvas_wayOfEdge_123 ?_
                refine lv_topi (fun x23 ex23 => ?_)
                refine lv_if_ge (tgt := 131) hx hb d_Canvas_wayOfEdge_124 (by decide) (fun c124_3 => ?_) (fun c124_3 => ?_)
                · have fc124_3 : 0 ≤ x23.toInt := zt_le tI_0 (show x23.toInt = _ from rfl) c124_3
                  have vc124_3 : dk x11 ≥ dk 0 := by have := zr_dcmp (a := x11) (b := 0) ex23 (show dN x11 by omega) (show dN 0 by omega); have := zt_le tI_0 (show x23.toInt = _ from rfl) c124_3; omega
                  refine lv_iconst (v := 0) hx hb d_Canvas_wayOfEdge_131 (by decide) ?_
                  exact j_iret F hr hlocks hK hS () trivial hP hD d_Canvas_wayOfEdge_132
                · have fc124_3 : x23.toInt < 0 := Int.not_le.mp (zt_nle tI_0 (show x23.toInt = _ from rfl) c124_3)
                  have vc124_3 : dk x11 < dk 0 := by have := zr_dcmp (a := x11) (b := 0) ex23 (show dN x11 by omega) (show dN 0 by omega); have := Int.not_le.mp (zt_nle tI_0 (show x23.toInt = _ from rfl) c124_3); omega
                  refine lv_iconst (v := (-1)) hx hb d_Canvas_wayOfEdge_127 (by decide) ?_
                  refine lv_goto (tgt := 132) hx hb d_Canvas_wayOfEdge_128 (by decide) ?_
                  exact j_iret F hr hlocks hK hS () trivial hP hD d_Canvas_wayOfEdge_132
          · have fc99_1 : 0 < x20.toInt := Int.not_le.mp (zt_nle (show x20.toInt = _ from rfl) tI_0 c99_1)
            have vc99_1 : dk x11 > dk 0 := by have := zr_dcmp (a := x11) (b := 0) ex20 (show dN x11 by omega) (show dN 0 by omega); have := Int.not_le.mp (zt_nle (show x20.toInt = _ from rfl) tI_0 c99_1); omega
            refine lv_iconst (v := 1) hx hb d_Canvas_wayOfEdge_102 (by decide) ?_
            exact j_iret F hr hlocks hK hS () trivial hP hD d_Canvas_wayOfEdge_103
    · have fc16_1 : 30 ≤ rv1.toInt := Int.not_lt.mp (zt_nlt (show rv1.toInt = _ from rfl) tI_30 c16_1)
      refine lv_iconst (v := 0) hx hb d_Canvas_wayOfEdge_19 (by decide) ?_
      exact j_iret F hr hlocks hK hS () trivial hP hD d_Canvas_wayOfEdge_20
theorem d_Canvas_isInside_0 : decode prog_3_method_13_code 0 = .ok (.iconst 0, 1) := by decide +kernel
theorem d_Canvas_isInside_1 : decode prog_3_method_13_code 1 = .ok (.istore 6, 2) := by decide +kernel
theorem d_Canvas_isInside_3 : decode prog_3_method_13_code 3 = .ok (.iconst 0, 1) := by decide +kernel
theorem d_Canvas_isInside_4 : decode prog_3_method_13_code 4 = .ok (.istore 7, 2) := by decide +kernel
theorem d_Canvas_isInside_6 : decode prog_3_method_13_code 6 = .ok (.iconst 0, 1) := by decide +kernel
theorem d_Canvas_isInside_7 : decode prog_3_method_13_code 7 = .ok (.istore 8, 2) := by decide +kernel
theorem d_Canvas_isInside_9 : decode prog_3_method_13_code 9 = .ok (.iload 8, 2) := by decide +kernel
theorem d_Canvas_isInside_11 : decode prog_3_method_13_code 11 = .ok (.aload_n 0, 1) := by decide +kernel
theorem d_Canvas_isInside_12 : decode prog_3_method_13_code 12 = .ok (.getfield 26, 3) := by decide +kernel
theorem d_Canvas_isInside_15 : decode prog_3_method_13_code 15 = .ok (.if_icmp .ge 49, 3) := by decide +kernel
theorem d_Canvas_isInside_64 : decode prog_3_method_13_code 64 = .ok (.iload 5, 2) := by decide +kernel
theorem d_Canvas_isInside_66 : decode prog_3_method_13_code 66 = .ok (.ifCond .eq 22, 3) := by decide +kernel
theorem d_Canvas_isInside_88 : decode prog_3_method_13_code 88 = .ok (.iload 6, 2) := by decide +kernel
theorem d_Canvas_isInside_90 : decode prog_3_method_13_code 90 = .ok (.iload 7, 2) := by decide +kernel
theorem d_Canvas_isInside_92 : decode prog_3_method_13_code 92 = .ok (.if_icmp .eq 7, 3) := by decide +kernel
theorem d_Canvas_isInside_99 : decode prog_3_method_13_code 99 = .ok (.iconst 0, 1) := by decide +kernel
theorem d_Canvas_isInside_100 : decode prog_3_method_13_code 100 = .ok (.ireturn, 1) := by decide +kernel
theorem d_Canvas_isInside_95 : decode prog_3_method_13_code 95 = .ok (.iconst 1, 1) := by decide +kernel
theorem d_Canvas_isInside_96 : decode prog_3_method_13_code 96 = .ok (.goto 4, 3) := by decide +kernel
theorem d_Canvas_isInside_69 : decode prog_3_method_13_code 69 = .ok (.iload 6, 2) := by decide +kernel
theorem d_Canvas_isInside_71 : decode prog_3_method_13_code 71 = .ok (.iload 7, 2) := by decide +kernel
theorem d_Canvas_isInside_73 : decode prog_3_method_13_code 73 = .ok (.iadd, 1) := by decide +kernel
theorem d_Canvas_isInside_74 : decode prog_3_method_13_code 74 = .ok (.iconst 1, 1) := by decide +kernel
theorem d_Canvas_isInside_75 : decode prog_3_method_13_code 75 = .ok (.iand, 1) := by decide +kernel
theorem d_Canvas_isInside_76 : decode prog_3_method_13_code 76 = .ok (.iconst 1, 1) := by decide +kernel
theorem d_Canvas_isInside_77 : decode prog_3_method_13_code 77 = .ok (.if_icmp .ne 7, 3) := by decide +kernel
theorem d_Canvas_isInside_84 : decode prog_3_method_13_code 84 = .ok (.iconst 0, 1) := by decide +kernel
theorem d_Canvas_isInside_85 : decode prog_3_method_13_code 85 = .ok (.goto 15, 3) := by decide +kernel
theorem d_Canvas_isInside_80 : decode prog_3_method_13_code 80 = .ok (.iconst 1, 1) := by decide +kernel
theorem d_Canvas_isInside_81 : decode prog_3_method_13_code 81 = .ok (.goto 19, 3) := by decide +kernel
theorem d_Canvas_isInside_18 : decode prog_3_method_13_code 18 = .ok (.aload_n 0, 1) := by decide +kernel
theorem d_Canvas_isInside_19 : decode prog_3_method_13_code 19 = .ok (.iload 8, 2) := by decide +kernel
theorem d_Canvas_isInside_21 : decode prog_3_method_13_code 21 = .ok (.dload_n 1, 1) := by decide +kernel
theorem d_Canvas_isInside_22 : decode prog_3_method_13_code 22 = .ok (.dload_n 3, 1) := by decide +kernel
theorem d_Canvas_isInside_23 : decode prog_3_method_13_code 23 = .ok (.invokevirtual 111, 3) := by decide +kernel
theorem k_5_181 : Cond.code ⟨"PageScribe$Canvas", "wayOfEdge", "(IDD)I"⟩ prog_3_method_15_code 17 (some .int) ∈ gw := gw_of (tb_5 (List.mem_of_getElem? (i := 181) (by decide +kernel))) (by decide +kernel)
theorem k_5_178 : Cond.methodLink "PageScribe$Canvas" 111 ⟨"PageScribe$Canvas", "wayOfEdge", "(IDD)I"⟩ ∈ gw := gw_of (tb_5 (List.mem_of_getElem? (i := 178) (by decide +kernel))) (by decide +kernel)
theorem k_5_180 : Cond.instanceMethod ⟨"PageScribe$Canvas", "wayOfEdge", "(IDD)I"⟩ ∈ gw := gw_of (tb_5 (List.mem_of_getElem? (i := 180) (by decide +kernel))) (by decide +kernel)
theorem k_0_64 : Cond.selects "PageScribe$Canvas" ⟨"PageScribe$Canvas", "wayOfEdge", "(IDD)I"⟩ ⟨"PageScribe$Canvas", "wayOfEdge", "(IDD)I"⟩ ∈ gw := gw_of (tb_0 (List.mem_of_getElem? (i := 64) (by decide +kernel))) (by decide +kernel)
theorem d_Canvas_isInside_26 : decode prog_3_method_13_code 26 = .ok (.istore 9, 2) := by decide +kernel
theorem d_Canvas_isInside_28 : decode prog_3_method_13_code 28 = .ok (.iload 6, 2) := by decide +kernel
theorem d_Canvas_isInside_40 : decode prog_3_method_13_code 40 = .ok (.iadd, 1) := by decide +kernel
theorem d_Canvas_isInside_41 : decode prog_3_method_13_code 41 = .ok (.istore 6, 2) := by decide +kernel
theorem d_Canvas_isInside_43 : decode prog_3_method_13_code 43 = .ok (.iload 7, 2) := by decide +kernel
theorem d_Canvas_isInside_55 : decode prog_3_method_13_code 55 = .ok (.iadd, 1) := by decide +kernel
theorem d_Canvas_isInside_56 : decode prog_3_method_13_code 56 = .ok (.istore 7, 2) := by decide +kernel
theorem d_Canvas_isInside_58 : decode prog_3_method_13_code 58 = .ok (.iinc 8 1, 3) := by decide +kernel
theorem d_Canvas_isInside_61 : decode prog_3_method_13_code 61 = .ok (.goto (-52), 3) := by decide +kernel
theorem d_Canvas_isInside_45 : decode prog_3_method_13_code 45 = .ok (.iload 9, 2) := by decide +kernel
theorem d_Canvas_isInside_47 : decode prog_3_method_13_code 47 = .ok (.ifCond .ge 7, 3) := by decide +kernel
theorem d_Canvas_isInside_54 : decode prog_3_method_13_code 54 = .ok (.iconst 0, 1) := by decide +kernel
theorem d_Canvas_isInside_50 : decode prog_3_method_13_code 50 = .ok (.iconst 1, 1) := by decide +kernel
theorem d_Canvas_isInside_51 : decode prog_3_method_13_code 51 = .ok (.goto 4, 3) := by decide +kernel
theorem d_Canvas_isInside_30 : decode prog_3_method_13_code 30 = .ok (.iload 9, 2) := by decide +kernel
theorem d_Canvas_isInside_32 : decode prog_3_method_13_code 32 = .ok (.ifCond .le 7, 3) := by decide +kernel
theorem d_Canvas_isInside_39 : decode prog_3_method_13_code 39 = .ok (.iconst 0, 1) := by decide +kernel
theorem d_Canvas_isInside_35 : decode prog_3_method_13_code 35 = .ok (.iconst 1, 1) := by decide +kernel
theorem d_Canvas_isInside_36 : decode prog_3_method_13_code 36 = .ok (.goto 4, 3) := by decide +kernel
set_option maxHeartbeats 4000000 in
set_option maxRecDepth 100000 in
theorem c_Canvas_isInside (l : Launch) (D : va_G) (T : Nat → ClassId) (ad : Nat → Nat) (S : CS) (d0 : UInt64) (d1 : UInt64) (p0 : Int32) (sz : Nat)  (hI : CIv S) (h1 : dM 1058 d0) (h2 : dM 1058 d1) : Met l ⟨"PageScribe$Canvas", "isInside", "(DDZ)Z"⟩ (wy ⟨"PageScribe$Canvas", "isInside", "(DDZ)Z"⟩ prog_3_method_13_code 10 (some .boolean)) ({ frames := 2, cells := 0, slots := 0, locals := 140 }) (va_Pc [.ref (ad 67), .double d0, .double d1, .int p0] (Pw D T (cW T ad S) sz E0)) (va_Qi (fun (r : Int32) (u : Unit) => r.toInt = 0 ∨ r.toInt = 1) (fun u t => Bw D T (va_A (cW T ad S) sz) (cW T ad S) t) (va_A (cW T ad S) sz)) 0 0 (va_A (cW T ad S) sz) := by
  refine j_met (y := ⟨"PageScribe$Canvas", "isInside", "(DDZ)Z"⟩) (b := prog_3_method_13_code) (n := 10) (ret := (some .boolean)) (av := [.ref (ad 67), .double d0, .double d1, .int p0]) (Qc := fun A => va_Qi (fun (r : Int32) (u : Unit) => r.toInt = 0 ∨ r.toInt = 1) (fun u t => Bw D T A (cW T ad S) t) A) (by decide +kernel) (Nat.le_of_ble_eq_true rfl) (fun p e s m args below meth c A ls F hr hlocks hnm hK hP hD hS hA hN hE hl => ?_)
  obtain ⟨hx, hb, hml, hown, hts⟩ := id F
  have hl : lv_has ls 10 [(0, .ref (ad 67)), (1, .double d0), (3, .double d1), (5, .int p0)] := hl
  obtain ⟨i_vst, i_vc0, i_vc1, i_vc2, i_vc3, i_vv0, i_vv1, i_vv2, i_vv3, i_vg, i_wct, i_wln, i_sd0, i_sd1, i_sd2, i_sd3, i_rln, i_rtx, i_rpl, i_rtk, i_cnv, i_pts, i_cik, i_und⟩ := id hI
  have rp0 := zt_rng p0
  refine lv_iconst (v := 0) hx hb d_Canvas_isInside_0 (by decide) ?_
  refine lv_istore (lv' := [(6, .int 0), (0, .ref (ad 67)), (1, .double d0), (3, .double d1), (5, .int p0)]) hx hb d_Canvas_isInside_1 hl (by decide) rfl (fun ls hl => ?_)
  refine lv_iconst (v := 0) hx hb d_Canvas_isInside_3 (by decide) ?_
  refine lv_istore (lv' := [(7, .int 0), (6, .int 0), (0, .ref (ad 67)), (1, .double d0), (3, .double d1), (5, .int p0)]) hx hb d_Canvas_isInside_4 hl (by decide) rfl (fun ls hl => ?_)
  refine lv_iconst (v := 0) hx hb d_Canvas_isInside_6 (by decide) ?_
  refine lv_istore (lv' := [(8, .int 0), (7, .int 0), (6, .int 0), (0, .ref (ad 67)), (1, .double d0), (3, .double d1), (5, .int p0)]) hx hb d_Canvas_isInside_7 hl (by decide) rfl (fun ls hl => ?_)
  refine j_loop (α := Int32 × Int32 × Int32) (fun k x H locs ls => (0 ≤ x.2.2.toInt ∧ x.2.2.toInt ≤ 30 ∧ 30 ≤ x.2.2.toInt + ((k : Nat) : Int)) ∧ va_P D classes (cW T ad S) H ∧ va_D A (cW T ad S) ∧ va_S A s.heap H locs ∧ lv_has ls 10 [(8, .int x.2.2), (7, .int x.2.1), (6, .int x.1), (0, .ref (ad 67)), (1, .double d0), (3, .double d1), (5, .int p0)]) (fun _ _ ls => F0 m 9 ls []) (fun k x H locs ls hI9 ih => ?_) 30 ((0 : Int32), (0 : Int32), (0 : Int32)) _ _ _ ⟨(show 0 ≤ (0 : Int32).toInt ∧ (0 : Int32).toInt ≤ 30 ∧ 30 ≤ (0 : Int32).toInt + ((30 : Nat) : Int) by have := tI_0; have := tI_0; have := tI_0; omega), hP, hD, hS, lv_sub hl [0, 1, 2, 3, 4, 5, 6] rfl⟩
  obtain ⟨a, b, i⟩ := x
  obtain ⟨hf1, hP, hD, hS, hl⟩ := hI9
  have hf1 : 0 ≤ i.toInt ∧ i.toInt ≤ 30 ∧ 30 ≤ i.toInt + ((k : Nat) : Int) := hf1
  have hP : va_P D classes (cW T ad S) H := hP
  have hD : va_D A (cW T ad S) := hD
  have hl : lv_has ls 10 [(8, .int i), (7, .int b), (6, .int a), (0, .ref (ad 67)), (1, .double d0), (3, .double d1), (5, .int p0)] := hl
  refine lv_iload hx hb d_Canvas_isInside_9 (lv_at hl 0 rfl) ?_
  refine lv_aload_n hx hb d_Canvas_isInside_11 rfl (lv_at hl 3 rfl) ?_
  refine va_get (D := D) (ci := 6) (v := .int (f_xp_points S)) (C := "PageScribe$Canvas") (T := F_Canvas) (N := 9) hx hb hts i_Canvas hown hK hP 67 (ce_67 _ _ _) cl_6 8 (by decide) (hts _ k_1_215) (fun _ h9 => h9) rfl d_Canvas_isInside_12 ?_
  refine lv_icmp_ge (tgt := 64) hx hb d_Canvas_isInside_15 (by decide) (fun c15_1 => ?_) (fun c15_1 => ?_)
  · have fc15_1 : (f_xp_points S).toInt ≤ i.toInt := zt_le (show (f_xp_points S).toInt = _ from rfl) (show i.toInt = _ from rfl) c15_1
    refine lv_iload hx hb d_Canvas_isInside_64 (lv_at hl 6 rfl) ?_
    refine lv_if_eq (tgt := 88) hx hb d_Canvas_isInside_66 (by decide) (fun c66_1 => ?_) (fun c66_1 => ?_)
    · have fc66_1 : p0.toInt = 0 := zt_eq (show p0.toInt = _ from rfl) tI_0 c66_1
      refine lv_iload hx hb d_Canvas_isInside_88 (lv_at hl 2 rfl) ?_
      refine lv_iload hx hb d_Canvas_isInside_90 (lv_at hl 1 rfl) ?_
      refine lv_icmp_eq (tgt := 99) hx hb d_Canvas_isInside_92 (by decide) (fun c92_1 => ?_) (fun c92_1 => ?_)
      · have fc92_1 : a.toInt = b.toInt := zt_eq (show a.toInt = _ from rfl) (show b.toInt = _ from rfl) c92_1
        refine lv_iconst (v := 0) hx hb d_Canvas_isInside_99 (by decide) ?_
        exact j_zret F hr (by decide +kernel) hlocks hK hS () (show (0 : Int32).toInt = 0 ∨ (0 : Int32).toInt = 1 by have := tI_0; omega) hP hD d_Canvas_isInside_100
      · first | have fc92_1 : a.toInt < b.toInt := (by have := zt_ne (show a.toInt = _ from rfl) (show b.toInt = _ from rfl) c92_1; omega) | have fc92_1 : b.toInt < a.toInt := (by have := zt_ne (show a.toInt = _ from rfl) (show b.toInt = _ from rfl) c92_1; omega) | skip
        refine lv_iconst (v := 1) hx hb d_Canvas_isInside_95 (by decide) ?_
        refine lv_goto (tgt := 100) hx hb d_Canvas_isInside_96 (by decide) ?_
        exact j_zret F hr (by decide +kernel) hlocks hK hS () (show (1 : Int32).toInt = 0 ∨ (1 : Int32).toInt = 1 by have := tI_1; omega) hP hD d_Canvas_isInside_100
    · first | have fc66_1 : p0.toInt < 0 := (by have := zt_ne (show p0.toInt = _ from rfl) tI_0 c66_1; omega) | have fc66_1 : 0 < p0.toInt := (by have := zt_ne (show p0.toInt = _ from rfl) tI_0 c66_1; omega) | skip
      refine lv_iload hx hb d_Canvas_isInside_69 (lv_at hl 2 rfl) ?_
      refine lv_iload hx hb d_Canvas_isInside_71 (lv_at hl 1 rfl) ?_
      refine lv_iadd hx hb d_Canvas_isInside_73 ?_
      refine lv_topi (fun x1 ex1 => ?_)
      have rx1 := zt_rng x1
      refine lv_iconst (v := 1) hx hb d_Canvas_isInside_74 (by decide) ?_
      refine lv_iand hx hb d_Canvas_isInside_75 ?_
      refine lv_topi (fun x2 ex2 => ?_)
      have rx2 := zt_rng x2
      refine lv_iconst (v := 1) hx hb d_Canvas_isInside_76 (by decide) ?_
      refine lv_icmp_ne (tgt := 84) hx hb d_Canvas_isInside_77 (by decide) (fun c77_1 => ?_) (fun c77_1 => ?_)
      · first | have fc77_1 : x2.toInt < 1 := (by have := zt_ne (show x2.toInt = _ from rfl) tI_1 c77_1; omega) | have fc77_1 : 1 < x2.toInt := (by have := zt_ne (show x2.toInt = _ from rfl) tI_1 c77_1; omega) | skip
        refine lv_iconst (v := 0) hx hb d_Canvas_isInside_84 (by decide) ?_
        refine lv_goto (tgt := 100) hx hb d_Canvas_isInside_85 (by decide) ?_
        exact j_zret F hr (by decide +kernel) hlocks hK hS () (show (0 : Int32).toInt = 0 ∨ (0 : Int32).toInt = 1 by have := tI_0; omega) hP hD d_Canvas_isInside_100
      · have fc77_1 : x2.toInt = 1 := zt_eq (show x2.toInt = _ from rfl) tI_1 c77_1
        refine lv_iconst (v := 1) hx hb d_Canvas_isInside_80 (by decide) ?_
        refine lv_goto (tgt := 100) hx hb d_Canvas_isInside_81 (by decide) ?_
        exact j_zret F hr (by decide +kernel) hlocks hK hS () (show (1 : Int32).toInt = 0 ∨ (1 : Int32).toInt = 1 by have := tI_1; omega) hP hD d_Canvas_isInside_100
  · have fc15_1 : i.toInt < (f_xp_points S).toInt := Int.not_le.mp (zt_nle (show (f_xp_points S).toInt = _ from rfl) (show i.toInt = _ from rfl) c15_1)
    refine lv_aload_n hx hb d_Canvas_isInside_18 rfl (lv_at hl 3 rfl) ?_
    refine lv_iload hx hb d_Canvas_isInside_19 (lv_at hl 0 rfl) ?_
    refine lv_dload_n hx hb d_Canvas_isInside_21 rfl (lv_at hl 4 rfl) ?_
    refine lv_dload_n hx hb d_Canvas_isInside_22 rfl (lv_at hl 5 rfl) ?_
    refine jc_ci (w := (fun _ => S)) hK hP hD hS hA (va_runV (As := [.int i, .double d0, .double d1]) (rest := []) F (c_Canvas_wayOfEdge l D T ad S i d0 d1  H.size ⟨i_vst, i_vc0, i_vc1, i_vc2, i_vc3, i_vv0, i_vv1, i_vv2, i_vv3, i_vg, i_wct, i_wln, i_sd0, i_sd1, i_sd2, i_sd3, i_rln, i_rtx, i_rpl, i_rtk, i_cnv, i_pts, i_cik, i_und⟩ (show 0 ≤ i.toInt ∧ i.toInt < 30 by omega) h1 h2) (j_cV (k := 3) (C := "PageScribe$Canvas") hts k_5_181 k_1_8 k_5_178 k_5_180 k_0_64 (by decide +kernel) ⟨Nat.le_of_ble_eq_true rfl, Nat.le_of_ble_eq_true rfl⟩) (j_preV (q0 := 67) (ci := 6) hK hP hD csc csc_all csc_nd cl_6 (ce_67 _ _ _) (fun _ _ _ _ h => h) (fun _ _ _ => trivial)) rfl rfl hl.1 rfl (lv_room (Nat.le_of_ble_eq_true rfl)) d_Canvas_isInside_23 ⟨Nat.le_of_ble_eq_true rfl, Nat.le_of_ble_eq_true rfl⟩) (fun rv1 u1 H locs hw1 hP hD hS => ?_)
    have hP : va_P D classes (cW T ad S) H := hP
    have hD : va_D A (cW T ad S) := hD
    have rrv1 := zt_rng rv1
    refine lv_istore (lv' := [(9, .int rv1), (8, .int i), (7, .int b), (6, .int a), (0, .ref (ad 67)), (1, .double d0), (3, .double d1), (5, .int p0)]) hx hb d_Canvas_isInside_26 hl (by decide) rfl (fun ls hl => ?_)
    refine lv_iload hx hb d_Canvas_isInside_28 (lv_at hl 3 rfl) ?_
    refine j_joinH (α := Int32) (fun x H locs ls => (True) ∧ va_P D classes (cW T ad S) H ∧ va_D A (cW T ad S) ∧ va_S A s.heap H locs ∧ lv_has ls 10 [(9, .int rv1), (8, .int i), (7, .int b), (6, .int a), (0, .ref (ad 67)), (1, .double d0), (3, .double d1), (5, .int p0)]) (fun x ls => F0 m 40 ls (.int x :: [.int a])) (fun x H locs ls hI9 => ?_) (fun key1 => ?_)
    · obtain ⟨j1, rfl⟩ : ∃ z, z = x := ⟨_, rfl⟩
      obtain ⟨hj1, hP, hD, hS, hl⟩ := hI9
      have hP : va_P D classes (cW T ad S) H := hP
      have hD : va_D A (cW T ad S) := hD
      have hl : lv_has ls 10 [(9, .int rv1), (8, .int i), (7, .int b), (6, .int a), (0, .ref (ad 67)), (1, .double d0), (3, .double d1), (5, .int p0)] := hl
      refine lv_iadd hx hb d_Canvas_isInside_40 ?_
      refine lv_topi (fun x3 ex3 => ?_)
      have rx3 := zt_rng x3
      refine lv_istore (lv' := [(6, .int x3), (9, .int rv1), (8, .int i), (7, .int b), (0, .ref (ad 67)), (1, .double d0), (3, .double d1), (5, .int p0)]) hx hb d_Canvas_isInside_41 hl (by decide) rfl (fun ls hl => ?_)
      refine lv_iload hx hb d_Canvas_isInside_43 (lv_at hl 3 rfl) ?_
      refine j_joinH (α := Int32) (fun x H locs ls => (True) ∧ va_P D classes (cW T ad S) H ∧ va_D A (cW T ad S) ∧ va_S A s.heap H locs ∧ lv_has ls 10 [(6, .int x3), (9, .int rv1), (8, .int i), (7, .int b), (0, .ref (ad 67)), (1, .double d0), (3, .double d1), (5, .int p0)]) (fun x ls => F0 m 55 ls (.int x :: [.int b])) (fun x H locs ls hI9 => ?_) (fun key2 => ?_)
      · obtain ⟨j2, rfl⟩ : ∃ z, z = x := ⟨_, rfl⟩
        obtain ⟨hj2, hP, hD, hS, hl⟩ := hI9
        have hP : va_P D classes (cW T ad S) H := hP
        have hD : va_D A (cW T ad S) := hD
        have hl : lv_has ls 10 [(6, .int x3), (9, .int rv1), (8, .int i), (7, .int b), (0, .ref (ad 67)), (1, .double d0), (3, .double d1), (5, .int p0)] := hl
        refine lv_iadd hx hb d_Canvas_isInside_55 ?_
        refine lv_topi (fun x4 ex4 => ?_)
        have rx4 := zt_rng x4
        refine lv_istore (lv' := [(7, .int x4), (6, .int x3), (9, .int rv1), (8, .int i), (0, .ref (ad 67)), (1, .double d0), (3, .double d1), (5, .int p0)]) hx hb d_Canvas_isInside_56 hl (by decide) rfl (fun ls hl => ?_)
        refine lv_iinc (v := (i + 1)) (lv' := [(8, .int (i + 1)), (7, .int x4), (6, .int x3), (9, .int rv1), (0, .ref (ad 67)), (1, .double d0), (3, .double d1), (5, .int p0)]) hx hb d_Canvas_isInside_58 hl (k := 3) rfl (by first | rfl | decide) (by decide) rfl (fun ls hl => ?_)
        obtain ⟨x5, ex5⟩ : ∃ z, z = (i + 1) := ⟨_, rfl⟩
        rw [← ex5] at hl
        have fx5 : x5.toInt = (i.toInt + 1) := by rw [ex5]; exact (zt_add (show i.toInt = _ from rfl) tI_1 (by omega) (by omega)).trans (by omega)
        have hl : lv_has ls 10 [(8, .int x5), (7, .int x4), (6, .int x3), (9, .int rv1), (0, .ref (ad 67)), (1, .double d0), (3, .double d1), (5, .int p0)] := hl
        refine lv_goto (tgt := 9) hx hb d_Canvas_isInside_61 (by decide) ?_
        exact ih (k - 1) (x3, x4, x5) _ _ _ (by omega) ⟨(show 0 ≤ x5.toInt ∧ x5.toInt ≤ 30 ∧ 30 ≤ x5.toInt + (((k - 1) : Nat) : Int) by omega), hP, hD, hS, lv_sub hl [0, 1, 2, 4, 5, 6, 7] rfl⟩
      · refine lv_iload hx hb d_Canvas_isInside_45 (lv_at hl 1 rfl) ?_
        refine lv_if_ge (tgt := 54) hx hb d_Canvas_isInside_47 (by decide) (fun c47_1 => ?_) (fun c47_1 => ?_)
        · have fc47_1 : 0 ≤ rv1.toInt := zt_le tI_0 (show rv1.toInt = _ from rfl) c47_1
          refine lv_iconst (v := 0) hx hb d_Canvas_isInside_54 (by decide) ?_
          exact key2 (0 : Int32) _ _ _ ⟨trivial, hP, hD, hS, lv_sub hl [0, 1, 2, 3, 4, 5, 6, 7] rfl⟩
        · have fc47_1 : rv1.toInt < 0 := Int.not_le.mp (zt_nle tI_0 (show rv1.toInt = _ from rfl) c47_1)
          refine lv_iconst (v := 1) hx hb d_Canvas_isInside_50 (by decide) ?_
          refine lv_goto (tgt := 55) hx hb d_Canvas_isInside_51 (by decide) ?_
          exact key2 (1 : Int32) _ _ _ ⟨trivial, hP, hD, hS, lv_sub hl [0, 1, 2, 3, 4, 5, 6, 7] rfl⟩
    · refine lv_iload hx hb d_Canvas_isInside_30 (lv_at hl 0 rfl) ?_
      refine lv_if_le (tgt := 39) hx hb d_Canvas_isInside_32 (by decide) (fun c32_1 => ?_) (fun c32_1 => ?_)
      · have fc32_1 : rv1.toInt ≤ 0 := zt_le (show rv1.toInt = _ from rfl) tI_0 c32_1
        refine lv_iconst (v := 0) hx hb d_Canvas_isInside_39 (by decide) ?_
        exact key1 (0 : Int32) _ _ _ ⟨trivial, hP, hD, hS, lv_sub hl [0, 1, 2, 3, 4, 5, 6, 7] rfl⟩
      · have fc32_1 : 0 < rv1.toInt := Int.not_le.mp (zt_nle (show rv1.toInt = _ from rfl) tI_0 c32_1)
        refine lv_iconst (v := 1) hx hb d_Canvas_isInside_35 (by decide) ?_
        refine lv_goto (tgt := 40) hx hb d_Canvas_isInside_36 (by decide) ?_
        exact key1 (1 : Int32) _ _ _ ⟨trivial, hP, hD, hS, lv_sub hl [0, 1, 2, 3, 4, 5, 6, 7] rfl⟩
