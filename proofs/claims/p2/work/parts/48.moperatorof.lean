theorem d_Mo_operatorOf_0 : decode prog_15_method_23_code 0 = .ok (.lload_n 1, 1) := by decide +kernel
theorem d_Mo_operatorOf_1 : decode prog_15_method_23_code 1 = .ok (.ldc2_w 314, 3) := by decide +kernel
theorem k_7_122 : Cond.constantLong "PageScribeModel" 314 (27 : Int64) ∈ gw := gw_of (tb_7 (List.mem_of_getElem? (i := 122) (by decide +kernel))) (by decide +kernel)
theorem d_Mo_operatorOf_4 : decode prog_15_method_23_code 4 = .ok (.lcmp, 1) := by decide +kernel
theorem tJ_27 : (27 : Int64).toInt = 27 := by decide +kernel
theorem d_Mo_operatorOf_5 : decode prog_15_method_23_code 5 = .ok (.ifCond .eq 11, 3) := by decide +kernel
theorem d_Mo_operatorOf_16 : decode prog_15_method_23_code 16 = .ok (.lload_n 1, 1) := by decide +kernel
theorem d_Mo_operatorOf_17 : decode prog_15_method_23_code 17 = .ok (.l2i, 1) := by decide +kernel
theorem d_Mo_operatorOf_18 : decode prog_15_method_23_code 18 = .ok (.bipush 43, 2) := by decide +kernel
theorem d_Mo_operatorOf_20 : decode prog_15_method_23_code 20 = .ok (.iadd, 1) := by decide +kernel
theorem tI_43 : (43 : Int32).toInt = 43 := by decide +kernel
theorem d_Mo_operatorOf_21 : decode prog_15_method_23_code 21 = .ok (.ireturn, 1) := by decide +kernel
theorem d_Mo_operatorOf_8 : decode prog_15_method_23_code 8 = .ok (.lload_n 1, 1) := by decide +kernel
theorem d_Mo_operatorOf_9 : decode prog_15_method_23_code 9 = .ok (.ldc2_w 316, 3) := by decide +kernel
theorem k_7_123 : Cond.constantLong "PageScribeModel" 316 (28 : Int64) ∈ gw := gw_of (tb_7 (List.mem_of_getElem? (i := 123) (by decide +kernel))) (by decide +kernel)
theorem d_Mo_operatorOf_12 : decode prog_15_method_23_code 12 = .ok (.lcmp, 1) := by decide +kernel
theorem tJ_28 : (28 : Int64).toInt = 28 := by decide +kernel
theorem d_Mo_operatorOf_13 : decode prog_15_method_23_code 13 = .ok (.ifCond .ne 9, 3) := by decide +kernel
theorem d_Mo_operatorOf_22 : decode prog_15_method_23_code 22 = .ok (.iconst 0, 1) := by decide +kernel
theorem d_Mo_operatorOf_23 : decode prog_15_method_23_code 23 = .ok (.istore_n 3, 1) := by decide +kernel
theorem d_Mo_operatorOf_24 : decode prog_15_method_23_code 24 = .ok (.iload_n 3, 1) := by decide +kernel
theorem d_Mo_operatorOf_25 : decode prog_15_method_23_code 25 = .ok (.bipush 35, 2) := by decide +kernel
theorem d_Mo_operatorOf_27 : decode prog_15_method_23_code 27 = .ok (.if_icmp .ge 38, 3) := by decide +kernel
theorem d_Mo_operatorOf_65 : decode prog_15_method_23_code 65 = .ok (.iconst (-1), 1) := by decide +kernel
theorem d_Mo_operatorOf_66 : decode prog_15_method_23_code 66 = .ok (.ireturn, 1) := by decide +kernel
theorem d_Mo_operatorOf_30 : decode prog_15_method_23_code 30 = .ok (.aload_n 0, 1) := by decide +kernel
theorem k_6_203 : Cond.fieldLink "PageScribeModel" 160 "PageScribeModel" "early" "[J" ∈ gw := gw_of (tb_6 (List.mem_of_getElem? (i := 203) (by decide +kernel))) (by decide +kernel)
theorem d_Mo_operatorOf_31 : decode prog_15_method_23_code 31 = .ok (.getfield 160, 3) := by decide +kernel
theorem d_Mo_operatorOf_34 : decode prog_15_method_23_code 34 = .ok (.iload_n 3, 1) := by decide +kernel
theorem d_Mo_operatorOf_35 : decode prog_15_method_23_code 35 = .ok (.laload, 1) := by decide +kernel
theorem d_Mo_operatorOf_36 : decode prog_15_method_23_code 36 = .ok (.lload_n 1, 1) := by decide +kernel
theorem d_Mo_operatorOf_37 : decode prog_15_method_23_code 37 = .ok (.lcmp, 1) := by decide +kernel
theorem d_Mo_operatorOf_38 : decode prog_15_method_23_code 38 = .ok (.ifCond .ne 5, 3) := by decide +kernel
theorem d_Mo_operatorOf_43 : decode prog_15_method_23_code 43 = .ok (.aload_n 0, 1) := by decide +kernel
theorem k_6_204 : Cond.fieldLink "PageScribeModel" 233 "PageScribeModel" "late" "[J" ∈ gw := gw_of (tb_6 (List.mem_of_getElem? (i := 204) (by decide +kernel))) (by decide +kernel)
theorem d_Mo_operatorOf_44 : decode prog_15_method_23_code 44 = .ok (.getfield 233, 3) := by decide +kernel
theorem d_Mo_operatorOf_47 : decode prog_15_method_23_code 47 = .ok (.iload_n 3, 1) := by decide +kernel
theorem d_Mo_operatorOf_48 : decode prog_15_method_23_code 48 = .ok (.laload, 1) := by decide +kernel
theorem d_Mo_operatorOf_49 : decode prog_15_method_23_code 49 = .ok (.lload_n 1, 1) := by decide +kernel
theorem d_Mo_operatorOf_50 : decode prog_15_method_23_code 50 = .ok (.lcmp, 1) := by decide +kernel
theorem d_Mo_operatorOf_51 : decode prog_15_method_23_code 51 = .ok (.ifCond .ne 8, 3) := by decide +kernel
theorem d_Mo_operatorOf_59 : decode prog_15_method_23_code 59 = .ok (.iinc 3 1, 3) := by decide +kernel
theorem d_Mo_operatorOf_62 : decode prog_15_method_23_code 62 = .ok (.goto (-38), 3) := by decide +kernel
theorem d_Mo_operatorOf_54 : decode prog_15_method_23_code 54 = .ok (.bipush 35, 2) := by decide +kernel
theorem d_Mo_operatorOf_56 : decode prog_15_method_23_code 56 = .ok (.iload_n 3, 1) := by decide +kernel
theorem d_Mo_operatorOf_57 : decode prog_15_method_23_code 57 = .ok (.iadd, 1) := by decide +kernel
theorem d_Mo_operatorOf_58 : decode prog_15_method_23_code 58 = .ok (.ireturn, 1) := by decide +kernel
theorem d_Mo_operatorOf_41 : decode prog_15_method_23_code 41 = .ok (.iload_n 3, 1) := by decide +kernel
theorem d_Mo_operatorOf_42 : decode prog_15_method_23_code 42 = .ok (.ireturn, 1) := by decide +kernel
set_option maxHeartbeats 4000000 in
set_option maxRecDepth 100000 in
theorem m_operatorOf (l : Launch) (D : va_G) (T : Nat → ClassId) (h0 : Nat) (ar : Nat → Nat) (S : MS) (v0 : Int64) (sz : Nat) : Met l ⟨"PageScribeModel", "operatorOf", "(J)I"⟩ (wy ⟨"PageScribeModel", "operatorOf", "(J)I"⟩ prog_15_method_23_code 4 (some .int)) ({ frames := 0, cells := 0, slots := 0, locals := 0 }) (va_Pc [.ref h0, .long v0] (Pw D T (mW T h0 ar S) sz E0)) (va_Qi (fun (r : Int32) (u : Unit) => -1 ≤ r.toInt ∧ r.toInt ≤ 71) (fun u t => Bw D T (va_A (mW T h0 ar S) sz) (mW T h0 ar S) t) (va_A (mW T h0 ar S) sz)) 0 0 (va_A (mW T h0 ar S) sz) := by
  refine j_met (y := ⟨"PageScribeModel", "operatorOf", "(J)I"⟩) (b := prog_15_method_23_code) (n := 4) (ret := (some .int)) (av := [.ref h0, .long v0]) (Qc := fun A => va_Qi (fun (r : Int32) (u : Unit) => -1 ≤ r.toInt ∧ r.toInt ≤ 71) (fun u t => Bw D T A (mW T h0 ar S) t) A) (by decide +kernel) (Nat.le_of_ble_eq_true rfl) (fun p e s m args below meth c A ls F hr hlocks hnm hK hP hD hS hA hN hE hl => ?_)
  obtain ⟨hx, hb, hml, hown, hts⟩ := id F
  have hl : lv_has ls 4 [(0, .ref h0), (1, .long v0)] := hl
  refine lv_lload_n hx hb d_Mo_operatorOf_0 rfl (lv_at hl 1 rfl) ?_
  refine lv_ldc2 (v := (27)) hx hb hown (hts _ k_7_122) d_Mo_operatorOf_1 ?_
  refine W.lcmp hx hb d_Mo_operatorOf_4 ?_
  refine lv_topi (fun x1 ex1 => ?_)
  refine lv_if_eq (tgt := 16) hx hb d_Mo_operatorOf_5 (by decide) (fun c5_1 => ?_) (fun c5_1 => ?_)
  · have fc5_1 : x1.toInt = 0 := zt_eq (show x1.toInt = _ from rfl) tI_0 c5_1
    have vc5_1 : v0.toInt = 27 := by have := zr_cmp ex1 (show v0.toInt = _ from rfl) tJ_27; have := zt_eq (show x1.toInt = _ from rfl) tI_0 c5_1; omega
    refine lv_lload_n hx hb d_Mo_operatorOf_16 rfl (lv_at hl 1 rfl) ?_
    refine lv_l2i (v := (v0).toInt32) hx hb d_Mo_operatorOf_17 rfl ?_
    refine lv_topi (fun x2 ex2 => ?_)
    have wx2 := zt_rng x2
    have fx2 : x2.toInt = v0.toInt := by rw [ex2]; exact zt_l2i (show v0.toInt = _ from rfl) (by omega) (by omega)
    refine lv_bipush (v := 43) hx hb d_Mo_operatorOf_18 (by decide) ?_
    refine lv_iadd hx hb d_Mo_operatorOf_20 ?_
    refine lv_topi (fun x3 ex3 => ?_)
    have fx3 : x3.toInt = (x2.toInt + 43) := by rw [ex3]; exact (zt_add (show x2.toInt = _ from rfl) tI_43 (by omega) (by omega)).trans (by omega)
    exact j_iret F hr hlocks hK hS () (show -1 ≤ x3.toInt ∧ x3.toInt ≤ 71 by omega) hP hD d_Mo_operatorOf_21
  · first | have fc5_1 : x1.toInt < 0 := (by have := zt_ne (show x1.toInt = _ from rfl) tI_0 c5_1; omega) | have fc5_1 : 0 < x1.toInt := (by have := zt_ne (show x1.toInt = _ from rfl) tI_0 c5_1; omega) | skip
    have vc5_1 : ¬ v0.toInt = 27 := by have := zr_cmp ex1 (show v0.toInt = _ from rfl) tJ_27; have := zt_ne (show x1.toInt = _ from rfl) tI_0 c5_1; omega
    refine lv_lload_n hx hb d_Mo_operatorOf_8 rfl (lv_at hl 1 rfl) ?_
    refine lv_ldc2 (v := (28)) hx hb hown (hts _ k_7_123) d_Mo_operatorOf_9 ?_
    refine W.lcmp hx hb d_Mo_operatorOf_12 ?_
    refine lv_topi (fun x4 ex4 => ?_)
    refine lv_if_ne (tgt := 22) hx hb d_Mo_operatorOf_13 (by decide) (fun c13_1 => ?_) (fun c13_1 => ?_)
    · first | have fc13_1 : x4.toInt < 0 := (by have := zt_ne (show x4.toInt = _ from rfl) tI_0 c13_1; omega) | have fc13_1 : 0 < x4.toInt := (by have := zt_ne (show x4.toInt = _ from rfl) tI_0 c13_1; omega) | skip
      have vc13_1 : ¬ v0.toInt = 28 := by have := zr_cmp ex4 (show v0.toInt = _ from rfl) tJ_28; have := zt_ne (show x4.toInt = _ from rfl) tI_0 c13_1; omega
      refine lv_iconst (v := 0) hx hb d_Mo_operatorOf_22 (by decide) ?_
      refine lv_istore_n (lv' := [(3, .int 0), (0, .ref h0), (1, .long v0)]) hx hb d_Mo_operatorOf_23 rfl hl (by decide) rfl (fun ls hl => ?_)
      refine j_loop (α := Int32) (fun k x H locs ls => (0 ≤ x.toInt ∧ x.toInt ≤ 35 ∧ 35 ≤ x.toInt + ((k : Nat) : Int)) ∧ va_P D classes (mW T h0 ar S) H ∧ va_D A (mW T h0 ar S) ∧ va_S A s.heap H locs ∧ lv_has ls 4 [(3, .int x), (0, .ref h0), (1, .long v0)]) (fun _ _ ls => F0 m 24 ls []) (fun k x H locs ls hI9 ih => ?_) 35 (0 : Int32) _ _ _ ⟨(show 0 ≤ (0 : Int32).toInt ∧ (0 : Int32).toInt ≤ 35 ∧ 35 ≤ (0 : Int32).toInt + ((35 : Nat) : Int) by have := tI_0; omega), hP, hD, hS, lv_sub hl [0, 1, 2] rfl⟩
      obtain ⟨i, rfl⟩ : ∃ z, z = x := ⟨_, rfl⟩
      obtain ⟨hf1, hP, hD, hS, hl⟩ := hI9
      have hf1 : 0 ≤ i.toInt ∧ i.toInt ≤ 35 ∧ 35 ≤ i.toInt + ((k : Nat) : Int) := hf1
      have hP : va_P D classes (mW T h0 ar S) H := hP
      have hD : va_D A (mW T h0 ar S) := hD
      have hl : lv_has ls 4 [(3, .int i), (0, .ref h0), (1, .long v0)] := hl
      refine lv_iload_n hx hb d_Mo_operatorOf_24 rfl (lv_at hl 0 rfl) ?_
      refine lv_bipush (v := 35) hx hb d_Mo_operatorOf_25 (by decide) ?_
      refine lv_icmp_ge (tgt := 65) hx hb d_Mo_operatorOf_27 (by decide) (fun c27_1 => ?_) (fun c27_1 => ?_)
      · have fc27_1 : 35 ≤ i.toInt := zt_le tI_35 (show i.toInt = _ from rfl) c27_1
        refine lv_iconst (v := (-1)) hx hb d_Mo_operatorOf_65 (by decide) ?_
        exact j_iret F hr hlocks hK hS () (show -1 ≤ (-1 : Int32).toInt ∧ (-1 : Int32).toInt ≤ 71 by have := tI_m1; omega) hP hD d_Mo_operatorOf_66
      · have fc27_1 : i.toInt < 35 := Int.not_le.mp (zt_nle tI_35 (show i.toInt = _ from rfl) c27_1)
        refine lv_aload_n hx hb d_Mo_operatorOf_30 rfl (lv_at hl 1 rfl) ?_
        refine va_get (D := D) (ci := 11) (v := .ref (ar 23)) (C := "PageScribeModel") (T := F_Mo) (N := 45) hx hb hts i_Mo hown hK hP 0 mW_0 cl_11 43 (by decide) (hts _ k_6_203) (fun _ h9 => h9) (mg_early _ _) d_Mo_operatorOf_31 ?_
        refine lv_iload_n hx hb d_Mo_operatorOf_34 rfl (lv_at hl 0 rfl) ?_
        refine va_lald hx hb hK hP 24 1 (ma_early _ _ _ _) rfl (zt_in (show i.toInt = _ from rfl) (by omega) (by omega)) d_Mo_operatorOf_35 ?_
        refine lv_topl (fun x5 ex5 => ?_)
        have gx5 : x5 = (a_early S) i.toInt.toNat := ex5.trans (congrArg _ (zt_ix (show i.toInt = _ from rfl)))
        have fx5 : x5.toInt = ((a_early S) i.toInt.toNat).toInt := by rw [gx5]
        refine lv_lload_n hx hb d_Mo_operatorOf_36 rfl (lv_at hl 2 rfl) ?_
        refine W.lcmp hx hb d_Mo_operatorOf_37 ?_
        refine lv_topi (fun x6 ex6 => ?_)
        refine lv_if_ne (tgt := 43) hx hb d_Mo_operatorOf_38 (by decide) (fun c38_1 => ?_) (fun c38_1 => ?_)
        · first | have fc38_1 : x6.toInt < 0 := (by have := zt_ne (show x6.toInt = _ from rfl) tI_0 c38_1; omega) | have fc38_1 : 0 < x6.toInt := (by have := zt_ne (show x6.toInt = _ from rfl) tI_0 c38_1; omega) | skip
          have vc38_1 : ¬ x5.toInt = v0.toInt := by have := zr_cmp ex6 (show x5.toInt = _ from rfl) (show v0.toInt = _ from rfl); have := zt_ne (show x6.toInt = _ from rfl) tI_0 c38_1; omega
          refine lv_aload_n hx hb d_Mo_operatorOf_43 rfl (lv_at hl 1 rfl) ?_
          refine va_get (D := D) (ci := 11) (v := .ref (ar 24)) (C := "PageScribeModel") (T := F_Mo) (N := 45) hx hb hts i_Mo hown hK hP 0 mW_0 cl_11 44 (by decide) (hts _ k_6_204) (fun _ h9 => h9) (mg_late _ _) d_Mo_operatorOf_44 ?_
          refine lv_iload_n hx hb d_Mo_operatorOf_47 rfl (lv_at hl 0 rfl) ?_
          refine va_lald hx hb hK hP 25 1 (ma_late _ _ _ _) rfl (zt_in (show i.toInt = _ from rfl) (by omega) (by omega)) d_Mo_operatorOf_48 ?_
          refine lv_topl (fun x7 ex7 => ?_)
          have gx7 : x7 = (a_late S) i.toInt.toNat := ex7.trans (congrArg _ (zt_ix (show i.toInt = _ from rfl)))
          have fx7 : x7.toInt = ((a_late S) i.toInt.toNat).toInt := by rw [gx7]
          refine lv_lload_n hx hb d_Mo_operatorOf_49 rfl (lv_at hl 2 rfl) ?_
          refine W.lcmp hx hb d_Mo_operatorOf_50 ?_
          refine lv_topi (fun x8 ex8 => ?_)
          refine lv_if_ne (tgt := 59) hx hb d_Mo_operatorOf_51 (by decide) (fun c51_1 => ?_) (fun c51_1 => ?_)
          · first | have fc51_1 : x8.toInt < 0 := (by have := zt_ne (show x8.toInt = _ from rfl) tI_0 c51_1; omega) | have fc51_1 : 0 < x8.toInt := (by have := zt_ne (show x8.toInt = _ from rfl) tI_0 c51_1; omega) | skip
            have vc51_1 : ¬ x7.toInt = v0.toInt := by have := zr_cmp ex8 (show x7.toInt = _ from rfl) (show v0.toInt = _ from rfl); have := zt_ne (show x8.toInt = _ from rfl) tI_0 c51_1; omega
            refine lv_iinc (v := (i + 1)) (lv' := [(3, .int (i + 1)), (0, .ref h0), (1, .long v0)]) hx hb d_Mo_operatorOf_59 hl (k := 0) rfl (by first | rfl | decide) (by decide) rfl (fun ls hl => ?_)
            obtain ⟨x9, ex9⟩ : ∃ z, z = (i + 1) := ⟨_, rfl⟩
            rw [← ex9] at hl
            have fx9 : x9.toInt = (i.toInt + 1) := by rw [ex9]; exact (zt_add (show i.toInt = _ from rfl) tI_1 (by omega) (by omega)).trans (by omega)
            have hl : lv_has ls 4 [(3, .int x9), (0, .ref h0), (1, .long v0)] := hl
            refine lv_goto (tgt := 24) hx hb d_Mo_operatorOf_62 (by decide) ?_
            exact ih (k - 1) x9 _ _ _ (by omega) ⟨(show 0 ≤ x9.toInt ∧ x9.toInt ≤ 35 ∧ 35 ≤ x9.toInt + (((k - 1) : Nat) : Int) by omega), hP, hD, hS, lv_sub hl [0, 1, 2] rfl⟩
          · have fc51_1 : x8.toInt = 0 := zt_eq (show x8.toInt = _ from rfl) tI_0 c51_1
            have vc51_1 : x7.toInt = v0.toInt := by have := zr_cmp ex8 (show x7.toInt = _ from rfl) (show v0.toInt = _ from rfl); have := zt_eq (show x8.toInt = _ from rfl) tI_0 c51_1; omega
            refine lv_bipush (v := 35) hx hb d_Mo_operatorOf_54 (by decide) ?_
            refine lv_iload_n hx hb d_Mo_operatorOf_56 rfl (lv_at hl 0 rfl) ?_
            refine lv_iadd hx hb d_Mo_operatorOf_57 ?_
            refine lv_topi (fun x10 ex10 => ?_)
            have fx10 : x10.toInt = (i.toInt + 35) := by rw [ex10]; exact (zt_add tI_35 (show i.toInt = _ from rfl) (by omega) (by omega)).trans (by omega)
            exact j_iret F hr hlocks hK hS () (show -1 ≤ x10.toInt ∧ x10.toInt ≤ 71 by omega) hP hD d_Mo_operatorOf_58
        · have fc38_1 : x6.toInt = 0 := zt_eq (show x6.toInt = _ from rfl) tI_0 c38_1
          have vc38_1 : x5.toInt = v0.toInt := by have := zr_cmp ex6 (show x5.toInt = _ from rfl) (show v0.toInt = _ from rfl); have := zt_eq (show x6.toInt = _ from rfl) tI_0 c38_1; omega
          refine lv_iload_n hx hb d_Mo_operatorOf_41 rfl (lv_at hl 0 rfl) ?_
          exact j_iret F hr hlocks hK hS () (show -1 ≤ i.toInt ∧ i.toInt ≤ 71 by omega) hP hD d_Mo_operatorOf_42
    · have fc13_1 : x4.toInt = 0 := zt_eq (show x4.toInt = _ from rfl) tI_0 c13_1
      have vc13_1 : v0.toInt = 28 := by have := zr_cmp ex4 (show v0.toInt = _ from rfl) tJ_28; have := zt_eq (show x4.toInt = _ from rfl) tI_0 c13_1; omega
      refine lv_lload_n hx hb d_Mo_operatorOf_16 rfl (lv_at hl 1 rfl) ?_
      refine lv_l2i (v := (v0).toInt32) hx hb d_Mo_operatorOf_17 rfl ?_
      refine lv_topi (fun x11 ex11 => ?_)
      have wx11 := zt_rng x11
      have fx11 : x11.toInt = v0.toInt := by rw [ex11]; exact zt_l2i (show v0.toInt = _ from rfl) (by omega) (by omega)
      refine lv_bipush (v := 43) hx hb d_Mo_operatorOf_18 (by decide) ?_
      refine lv_iadd hx hb d_Mo_operatorOf_20 ?_
      refine lv_topi (fun x12 ex12 => ?_)
      have fx12 : x12.toInt = (x11.toInt + 43) := by rw [ex12]; exact (zt_add (show x11.toInt = _ from rfl) tI_43 (by omega) (by omega)).trans (by omega)
      exact j_iret F hr hlocks hK hS () (show -1 ≤ x12.toInt ∧ x12.toInt ≤ 71 by omega) hP hD d_Mo_operatorOf_21
