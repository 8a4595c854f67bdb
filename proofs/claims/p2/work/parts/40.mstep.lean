theorem d_Mo_isNewer_0 : decode prog_15_method_69_code 0 = .ok (.iload_n 1, 1) := by decide +kernel
theorem d_Mo_isNewer_1 : decode prog_15_method_69_code 1 = .ok (.iconst 5, 1) := by decide +kernel
theorem d_Mo_isNewer_2 : decode prog_15_method_69_code 2 = .ok (.if_icmp .ne 35, 3) := by decide +kernel
theorem d_Mo_isNewer_37 : decode prog_15_method_69_code 37 = .ok (.iload_n 1, 1) := by decide +kernel
theorem d_Mo_isNewer_38 : decode prog_15_method_69_code 38 = .ok (.bipush 6, 2) := by decide +kernel
theorem d_Mo_isNewer_40 : decode prog_15_method_69_code 40 = .ok (.if_icmp .ne 21, 3) := by decide +kernel
theorem d_Mo_isNewer_61 : decode prog_15_method_69_code 61 = .ok (.iload_n 1, 1) := by decide +kernel
theorem d_Mo_isNewer_62 : decode prog_15_method_69_code 62 = .ok (.bipush 7, 2) := by decide +kernel
theorem d_Mo_isNewer_64 : decode prog_15_method_69_code 64 = .ok (.if_icmp .ne 20, 3) := by decide +kernel
theorem d_Mo_isNewer_84 : decode prog_15_method_69_code 84 = .ok (.iconst 0, 1) := by decide +kernel
theorem d_Mo_isNewer_85 : decode prog_15_method_69_code 85 = .ok (.ireturn, 1) := by decide +kernel
theorem d_Mo_isNewer_67 : decode prog_15_method_69_code 67 = .ok (.lload_n 2, 1) := by decide +kernel
theorem d_Mo_isNewer_68 : decode prog_15_method_69_code 68 = .ok (.aload_n 0, 1) := by decide +kernel
theorem k_6_173 : Cond.fieldLink "PageScribeModel" 37 "PageScribeModel" "numbers" "[I" ∈ gw := gw_of (tb_6 (List.mem_of_getElem? (i := 173) (by decide +kernel))) (by decide +kernel)
theorem d_Mo_isNewer_69 : decode prog_15_method_69_code 69 = .ok (.getfield 37, 3) := by decide +kernel
theorem d_Mo_isNewer_72 : decode prog_15_method_69_code 72 = .ok (.iload 4, 2) := by decide +kernel
theorem d_Mo_isNewer_74 : decode prog_15_method_69_code 74 = .ok (.iaload, 1) := by decide +kernel
theorem d_Mo_isNewer_75 : decode prog_15_method_69_code 75 = .ok (.i2l, 1) := by decide +kernel
theorem d_Mo_isNewer_76 : decode prog_15_method_69_code 76 = .ok (.lcmp, 1) := by decide +kernel
theorem d_Mo_isNewer_77 : decode prog_15_method_69_code 77 = .ok (.ifCond .le 7, 3) := by decide +kernel
theorem d_Mo_isNewer_80 : decode prog_15_method_69_code 80 = .ok (.iconst 1, 1) := by decide +kernel
theorem d_Mo_isNewer_81 : decode prog_15_method_69_code 81 = .ok (.goto 4, 3) := by decide +kernel
theorem d_Mo_isNewer_43 : decode prog_15_method_69_code 43 = .ok (.aload_n 0, 1) := by decide +kernel
theorem d_Mo_isNewer_44 : decode prog_15_method_69_code 44 = .ok (.getfield 27, 3) := by decide +kernel
theorem d_Mo_isNewer_47 : decode prog_15_method_69_code 47 = .ok (.bipush 7, 2) := by decide +kernel
theorem d_Mo_isNewer_49 : decode prog_15_method_69_code 49 = .ok (.iload 4, 2) := by decide +kernel
theorem d_Mo_isNewer_51 : decode prog_15_method_69_code 51 = .ok (.iconst 1, 1) := by decide +kernel
theorem d_Mo_isNewer_52 : decode prog_15_method_69_code 52 = .ok (.iadd, 1) := by decide +kernel
theorem d_Mo_isNewer_53 : decode prog_15_method_69_code 53 = .ok (.imul, 1) := by decide +kernel
theorem d_Mo_isNewer_54 : decode prog_15_method_69_code 54 = .ok (.lload_n 2, 1) := by decide +kernel
theorem d_Mo_isNewer_55 : decode prog_15_method_69_code 55 = .ok (.l2i, 1) := by decide +kernel
theorem d_Mo_isNewer_56 : decode prog_15_method_69_code 56 = .ok (.iadd, 1) := by decide +kernel
theorem d_Mo_isNewer_57 : decode prog_15_method_69_code 57 = .ok (.iaload, 1) := by decide +kernel
theorem d_Mo_isNewer_58 : decode prog_15_method_69_code 58 = .ok (.ifCond .eq 22, 3) := by decide +kernel
theorem d_Mo_isNewer_5 : decode prog_15_method_69_code 5 = .ok (.lload_n 2, 1) := by decide +kernel
theorem d_Mo_isNewer_6 : decode prog_15_method_69_code 6 = .ok (.invokestatic 391, 3) := by decide +kernel
theorem d_Mo_isNewer_9 : decode prog_15_method_69_code 9 = .ok (.ifCond .le 26, 3) := by decide +kernel
theorem d_Mo_isNewer_35 : decode prog_15_method_69_code 35 = .ok (.iconst 0, 1) := by decide +kernel
theorem d_Mo_isNewer_36 : decode prog_15_method_69_code 36 = .ok (.ireturn, 1) := by decide +kernel
theorem d_Mo_isNewer_12 : decode prog_15_method_69_code 12 = .ok (.lload_n 2, 1) := by decide +kernel
theorem d_Mo_isNewer_13 : decode prog_15_method_69_code 13 = .ok (.invokestatic 394, 3) := by decide +kernel
theorem d_Mo_isNewer_16 : decode prog_15_method_69_code 16 = .ok (.lload_n 2, 1) := by decide +kernel
theorem d_Mo_isNewer_17 : decode prog_15_method_69_code 17 = .ok (.invokestatic 391, 3) := by decide +kernel
theorem d_Mo_isNewer_20 : decode prog_15_method_69_code 20 = .ok (.iadd, 1) := by decide +kernel
theorem d_Mo_isNewer_21 : decode prog_15_method_69_code 21 = .ok (.aload_n 0, 1) := by decide +kernel
theorem k_6_174 : Cond.fieldLink "PageScribeModel" 40 "PageScribeModel" "cells" "[I" ∈ gw := gw_of (tb_6 (List.mem_of_getElem? (i := 174) (by decide +kernel))) (by decide +kernel)
theorem d_Mo_isNewer_22 : decode prog_15_method_69_code 22 = .ok (.getfield 40, 3) := by decide +kernel
theorem d_Mo_isNewer_25 : decode prog_15_method_69_code 25 = .ok (.iload 4, 2) := by decide +kernel
theorem d_Mo_isNewer_27 : decode prog_15_method_69_code 27 = .ok (.iaload, 1) := by decide +kernel
theorem d_Mo_isNewer_28 : decode prog_15_method_69_code 28 = .ok (.if_icmp .le 7, 3) := by decide +kernel
theorem d_Mo_isNewer_31 : decode prog_15_method_69_code 31 = .ok (.iconst 1, 1) := by decide +kernel
theorem d_Mo_isNewer_32 : decode prog_15_method_69_code 32 = .ok (.goto 4, 3) := by decide +kernel
set_option maxHeartbeats 4000000 in
set_option maxRecDepth 100000 in
theorem m_isNewer (l : Launch) (D : va_G) (T : Nat → ClassId) (h0 : Nat) (ar : Nat → Nat) (S : MS) (p0 : Int32) (v0 : Int64) (p1 : Int32) (sz : Nat) (hI : MI S) (h1 : 0 ≤ p1.toInt ∧ p1.toInt ≤ 2) (h2 : p0.toInt = 5 → cOk v0) (h3 : p0.toInt = 6 → 0 ≤ v0.toInt ∧ v0.toInt ≤ 6) : Met l ⟨"PageScribeModel", "isNewer", "(IJI)Z"⟩ (wy ⟨"PageScribeModel", "isNewer", "(IJI)Z"⟩ prog_15_method_69_code 5 (some .boolean)) ({ frames := 1, cells := 0, slots := 0, locals := 70 }) (va_Pc [.ref h0, .int p0, .long v0, .int p1] (Pw D T (mW T h0 ar S) sz E0)) (va_Qi (fun (r : Int32) (u : Unit) => r.toInt = 0 ∨ r.toInt = 1) (fun u t => Bw D T (va_A (mW T h0 ar S) sz) (mW T h0 ar S) t) (va_A (mW T h0 ar S) sz)) 0 0 (va_A (mW T h0 ar S) sz) := by
  refine j_met (y := ⟨"PageScribeModel", "isNewer", "(IJI)Z"⟩) (b := prog_15_method_69_code) (n := 5) (ret := (some .boolean)) (av := [.ref h0, .int p0, .long v0, .int p1]) (Qc := fun A => va_Qi (fun (r : Int32) (u : Unit) => r.toInt = 0 ∨ r.toInt = 1) (fun u t => Bw D T A (mW T h0 ar S) t) A) (by decide +kernel) (Nat.le_of_ble_eq_true rfl) (fun p e s m args below meth c A ls F hr hlocks hnm hK hP hD hS hA hN hE hl => ?_)
  obtain ⟨hx, hb, hml, hown, hts⟩ := id F
  have hl : lv_has ls 5 [(0, .ref h0), (1, .int p0), (2, .long v0), (4, .int p1)] := hl
  obtain ⟨i_size, i_taken, i_vals, i_room, i_dicts, i_deep, i_open, i_cells, i_points, i_part, i_length, i_knows, i_page, i_text, i_pats, i_fuel, i_fr, i_ink⟩ := id hI
  refine lv_iload_n hx hb d_Mo_isNewer_0 rfl (lv_at hl 1 rfl) ?_
  refine lv_iconst (v := 5) hx hb d_Mo_isNewer_1 (by decide) ?_
  refine lv_icmp_ne (tgt := 37) hx hb d_Mo_isNewer_2 (by decide) (fun c2_1 => ?_) (fun c2_1 => ?_)
  · first | have fc2_1 : p0.toInt < 5 := (by have := zt_ne (show p0.toInt = _ from rfl) tI_5 c2_1; omega) | have fc2_1 : 5 < p0.toInt := (by have := zt_ne (show p0.toInt = _ from rfl) tI_5 c2_1; omega) | skip
    refine lv_iload_n hx hb d_Mo_isNewer_37 rfl (lv_at hl 1 rfl) ?_
    refine lv_bipush (v := 6) hx hb d_Mo_isNewer_38 (by decide) ?_
    refine lv_icmp_ne (tgt := 61) hx hb d_Mo_isNewer_40 (by decide) (fun c40_1 => ?_) (fun c40_1 => ?_)
    · first | have fc40_1 : p0.toInt < 6 := (by have := zt_ne (show p0.toInt = _ from rfl) tI_6 c40_1; omega) | have fc40_1 : 6 < p0.toInt := (by have := zt_ne (show p0.toInt = _ from rfl) tI_6 c40_1; omega) | skip
      refine lv_iload_n hx hb d_Mo_isNewer_61 rfl (lv_at hl 1 rfl) ?_
      refine lv_bipush (v := 7) hx hb d_Mo_isNewer_62 (by decide) ?_
      refine lv_icmp_ne (tgt := 84) hx hb d_Mo_isNewer_64 (by decide) (fun c64_1 => ?_) (fun c64_1 => ?_)
      · first | have fc64_1 : p0.toInt < 7 := (by have := zt_ne (show p0.toInt = _ from rfl) tI_7 c64_1; omega) | have fc64_1 : 7 < p0.toInt := (by have := zt_ne (show p0.toInt = _ from rfl) tI_7 c64_1; omega) | skip
        refine lv_iconst (v := 0) hx hb d_Mo_isNewer_84 (by decide) ?_
        exact j_zret F hr (by decide +kernel) hlocks hK hS () (show (0 : Int32).toInt = 0 ∨ (0 : Int32).toInt = 1 by have := tI_0; omega) hP hD d_Mo_isNewer_85
      · have fc64_1 : p0.toInt = 7 := zt_eq (show p0.toInt = _ from rfl) tI_7 c64_1
        refine lv_lload_n hx hb d_Mo_isNewer_67 rfl (lv_at hl 2 rfl) ?_
        refine lv_aload_n hx hb d_Mo_isNewer_68 rfl (lv_at hl 0 rfl) ?_
        refine va_get (D := D) (ci := 11) (v := .ref (ar 7)) (C := "PageScribeModel") (T := F_Mo) (N := 45) hx hb hts i_Mo hown hK hP 0 mW_0 cl_11 13 (by decide) (hts _ k_6_173) (fun _ h9 => h9) (mg_numbers _ _) d_Mo_isNewer_69 ?_
        refine lv_iload hx hb d_Mo_isNewer_72 (lv_at hl 3 rfl) ?_
        refine va_iald hx hb hK hP 8 0 (ma_numbers _ _ _ _) rfl (zt_in (show p1.toInt = _ from rfl) (by omega) (by omega)) d_Mo_isNewer_74 ?_
        refine lv_topi (fun x1 ex1 => ?_)
        have gx1 : x1 = (a_numbers S) p1.toInt.toNat := ex1.trans (congrArg _ (zt_ix (show p1.toInt = _ from rfl)))
        have fx1 : x1.toInt = ((a_numbers S) p1.toInt.toNat).toInt := by rw [gx1]
        refine lv_i2l (v := (x1).toInt64) hx hb d_Mo_isNewer_75 rfl ?_
        refine lv_topl (fun x2 ex2 => ?_)
        have fx2 : x2.toInt = x1.toInt := by rw [ex2]; exact zu_i2l (show x1.toInt = _ from rfl)
        refine W.lcmp hx hb d_Mo_isNewer_76 ?_
        refine lv_topi (fun x3 ex3 => ?_)
        refine lv_if_le (tgt := 84) hx hb d_Mo_isNewer_77 (by decide) (fun c77_1 => ?_) (fun c77_1 => ?_)
        · have fc77_1 : x3.toInt ≤ 0 := zt_le (show x3.toInt = _ from rfl) tI_0 c77_1
          have vc77_1 : v0.toInt ≤ x1.toInt := by have := zr_cmp ex3 (show v0.toInt = _ from rfl) fx2; have := zt_le (show x3.toInt = _ from rfl) tI_0 c77_1; omega
          refine lv_iconst (v := 0) hx hb d_Mo_isNewer_84 (by decide) ?_
          exact j_zret F hr (by decide +kernel) hlocks hK hS () (show (0 : Int32).toInt = 0 ∨ (0 : Int32).toInt = 1 by have := tI_0; omega) hP hD d_Mo_isNewer_85
        · have fc77_1 : 0 < x3.toInt := Int.not_le.mp (zt_nle (show x3.toInt = _ from rfl) tI_0 c77_1)
          have vc77_1 : v0.toInt > x1.toInt := by have := zr_cmp ex3 (show v0.toInt = _ from rfl) fx2; have := Int.not_le.mp (zt_nle (show x3.toInt = _ from rfl) tI_0 c77_1); omega
          refine lv_iconst (v := 1) hx hb d_Mo_isNewer_80 (by decide) ?_
          refine lv_goto (tgt := 85) hx hb d_Mo_isNewer_81 (by decide) ?_
          exact j_zret F hr (by decide +kernel) hlocks hK hS () (show (1 : Int32).toInt = 0 ∨ (1 : Int32).toInt = 1 by have := tI_1; omega) hP hD d_Mo_isNewer_85
    · have fc40_1 : p0.toInt = 6 := zt_eq (show p0.toInt = _ from rfl) tI_6 c40_1
      refine lv_aload_n hx hb d_Mo_isNewer_43 rfl (lv_at hl 0 rfl) ?_
      refine va_get (D := D) (ci := 11) (v := .ref (ar 5)) (C := "PageScribeModel") (T := F_Mo) (N := 45) hx hb hts i_Mo hown hK hP 0 mW_0 cl_11 8 (by decide) (hts _ k_6_168) (fun _ h9 => h9) (mg_room _ _) d_Mo_isNewer_44 ?_
      refine lv_bipush (v := 7) hx hb d_Mo_isNewer_47 (by decide) ?_
      refine lv_iload hx hb d_Mo_isNewer_49 (lv_at hl 3 rfl) ?_
      refine lv_iconst (v := 1) hx hb d_Mo_isNewer_51 (by decide) ?_
      refine lv_iadd hx hb d_Mo_isNewer_52 ?_
      refine lv_topi (fun x4 ex4 => ?_)
      have fx4 : x4.toInt = (p1.toInt + 1) := by rw [ex4]; exact (zt_add (show p1.toInt = _ from rfl) tI_1 (by omega) (by omega)).trans (by omega)
      refine lv_imul hx hb d_Mo_isNewer_53 ?_
      refine lv_topi (fun x5 ex5 => ?_)
      have fx5 : x5.toInt = (7 * p1.toInt + 7) := by rw [ex5]; exact (zt_mul tI_7 fx4 rfl (by omega) (by omega)).trans (by omega)
      refine lv_lload_n hx hb d_Mo_isNewer_54 rfl (lv_at hl 2 rfl) ?_
      refine lv_l2i (v := (v0).toInt32) hx hb d_Mo_isNewer_55 rfl ?_
      refine lv_topi (fun x6 ex6 => ?_)
      have wx6 := zt_rng x6
      have fx6 : x6.toInt = v0.toInt := by rw [ex6]; exact zt_l2i (show v0.toInt = _ from rfl) (by omega) (by omega)
      refine lv_iadd hx hb d_Mo_isNewer_56 ?_
      refine lv_topi (fun x7 ex7 => ?_)
      have fx7 : x7.toInt = (7 * p1.toInt + x6.toInt + 7) := by rw [ex7]; exact (zt_add fx5 (show x6.toInt = _ from rfl) (by omega) (by omega)).trans (by omega)
      refine va_iald hx hb hK hP 6 0 (ma_room _ _ _ _) rfl (zt_in fx7 (by omega) (by omega)) d_Mo_isNewer_57 ?_
      refine lv_topi (fun x8 ex8 => ?_)
      have gx8 : x8 = (a_room S) (7 * p1.toInt + x6.toInt + 7).toNat := ex8.trans (congrArg _ (zt_ix fx7))
      have fx8 : x8.toInt = ((a_room S) (7 * p1.toInt + x6.toInt + 7).toNat).toInt := by rw [gx8]
      have kx8 := rm_at i_room (k := (7 * p1.toInt + x6.toInt + 7).toNat) (by omega)
      refine lv_if_eq (tgt := 80) hx hb d_Mo_isNewer_58 (by decide) (fun c58_1 => ?_) (fun c58_1 => ?_)
      · have fc58_1 : x8.toInt = 0 := zt_eq (show x8.toInt = _ from rfl) tI_0 c58_1
        refine lv_iconst (v := 1) hx hb d_Mo_isNewer_80 (by decide) ?_
        refine lv_goto (tgt := 85) hx hb d_Mo_isNewer_81 (by decide) ?_
        exact j_zret F hr (by decide +kernel) hlocks hK hS () (show (1 : Int32).toInt = 0 ∨ (1 : Int32).toInt = 1 by have := tI_1; omega) hP hD d_Mo_isNewer_85
      · first | have fc58_1 : x8.toInt < 0 := (by have := zt_ne (show x8.toInt = _ from rfl) tI_0 c58_1; omega) | have fc58_1 : 0 < x8.toInt := (by have := zt_ne (show x8.toInt = _ from rfl) tI_0 c58_1; omega) | skip
        refine lv_iload_n hx hb d_Mo_isNewer_61 rfl (lv_at hl 1 rfl) ?_
        refine lv_bipush (v := 7) hx hb d_Mo_isNewer_62 (by decide) ?_
        refine lv_icmp_ne (tgt := 84) hx hb d_Mo_isNewer_64 (by decide) (fun c64_2 => ?_) (fun c64_2 => ?_)
        · first | have fc64_2 : p0.toInt < 7 := (by have := zt_ne (show p0.toInt = _ from rfl) tI_7 c64_2; omega) | have fc64_2 : 7 < p0.toInt := (by have := zt_ne (show p0.toInt = _ from rfl) tI_7 c64_2; omega) | skip
          refine lv_iconst (v := 0) hx hb d_Mo_isNewer_84 (by decide) ?_
          exact j_zret F hr (by decide +kernel) hlocks hK hS () (show (0 : Int32).toInt = 0 ∨ (0 : Int32).toInt = 1 by have := tI_0; omega) hP hD d_Mo_isNewer_85
        · have fc64_2 : p0.toInt = 7 := zt_eq (show p0.toInt = _ from rfl) tI_7 c64_2
          refine lv_lload_n hx hb d_Mo_isNewer_67 rfl (lv_at hl 2 rfl) ?_
          refine lv_aload_n hx hb d_Mo_isNewer_68 rfl (lv_at hl 0 rfl) ?_
          refine va_get (D := D) (ci := 11) (v := .ref (ar 7)) (C := "PageScribeModel") (T := F_Mo) (N := 45) hx hb hts i_Mo hown hK hP 0 mW_0 cl_11 13 (by decide) (hts _ k_6_173) (fun _ h9 => h9) (mg_numbers _ _) d_Mo_isNewer_69 ?_
          refine lv_iload hx hb d_Mo_isNewer_72 (lv_at hl 3 rfl) ?_
          refine va_iald hx hb hK hP 8 0 (ma_numbers _ _ _ _) rfl (zt_in (show p1.toInt = _ from rfl) (by omega) (by omega)) d_Mo_isNewer_74 ?_
          refine lv_topi (fun x9 ex9 => ?_)
          have gx9 : x9 = (a_numbers S) p1.toInt.toNat := ex9.trans (congrArg _ (zt_ix (show p1.toInt = _ from rfl)))
          have fx9 : x9.toInt = ((a_numbers S) p1.toInt.toNat).toInt := by rw [gx9]
          refine lv_i2l (v := (x9).toInt64) hx hb d_Mo_isNewer_75 rfl ?_
          refine lv_topl (fun x10 ex10 => ?_)
          have fx10 : x10.toInt = x9.toInt := by rw [ex10]; exact zu_i2l (show x9.toInt = _ from rfl)
          refine W.lcmp hx hb d_Mo_isNewer_76 ?_
          refine lv_topi (fun x11 ex11 => ?_)
          refine lv_if_le (tgt := 84) hx hb d_Mo_isNewer_77 (by decide) (fun c77_2 => ?_) (fun c77_2 => ?_)
          · have fc77_2 : x11.toInt ≤ 0 := zt_le (show x11.toInt = _ from rfl) tI_0 c77_2
            have vc77_2 : v0.toInt ≤ x9.toInt := by have := zr_cmp ex11 (show v0.toInt = _ from rfl) fx10; have := zt_le (show x11.toInt = _ from rfl) tI_0 c77_2; omega
            refine lv_iconst (v := 0) hx hb d_Mo_isNewer_84 (by decide) ?_
            exact j_zret F hr (by decide +kernel) hlocks hK hS () (show (0 : Int32).toInt = 0 ∨ (0 : Int32).toInt = 1 by have := tI_0; omega) hP hD d_Mo_isNewer_85
          · have fc77_2 : 0 < x11.toInt := Int.not_le.mp (zt_nle (show x11.toInt = _ from rfl) tI_0 c77_2)
            have vc77_2 : v0.toInt > x9.toInt := by have := zr_cmp ex11 (show v0.toInt = _ from rfl) fx10; have := Int.not_le.mp (zt_nle (show x11.toInt = _ from rfl) tI_0 c77_2); omega
            refine lv_iconst (v := 1) hx hb d_Mo_isNewer_80 (by decide) ?_
            refine lv_goto (tgt := 85) hx hb d_Mo_isNewer_81 (by decide) ?_
            exact j_zret F hr (by decide +kernel) hlocks hK hS () (show (1 : Int32).toInt = 0 ∨ (1 : Int32).toInt = 1 by have := tI_1; omega) hP hD d_Mo_isNewer_85
  · have fc2_1 : p0.toInt = 5 := zt_eq (show p0.toInt = _ from rfl) tI_5 c2_1
    refine lv_lload_n hx hb d_Mo_isNewer_5 rfl (lv_at hl 2 rfl) ?_
    refine j_ci (wc := []) (wr := (mW T h0 ar S)) hK hP hD hS hA [] isc rfl isc_all isc_nd (fun _ _ => List.not_mem_nil) (va_runS (As := [.long v0]) (rest := []) F (m_count l D T v0 s.heap.size (show 0 ≤ v0.toInt ∧ v0.toInt < 1048576 by omega)) (j_cS (k := 1) hts k_8_7 k_1_12 k_8_5 k_8_6 (by decide +kernel) ⟨Nat.le_of_ble_eq_true rfl, Nat.le_of_ble_eq_true rfl⟩) (j_preS hK hP hD [] rfl (by decide) (fun _ _ _ _ h => h) (fun _ _ _ => trivial)) rfl rfl hl.1 rfl (lv_room (Nat.le_of_ble_eq_true rfl)) d_Mo_isNewer_6 ⟨Nat.le_of_ble_eq_true rfl, Nat.le_of_ble_eq_true rfl⟩) (fun rv1 u1 H locs hw1 hP hD hS => ?_)
    have hP : va_P D classes (mW T h0 ar S) H := hP
    have hD : va_D A (mW T h0 ar S) := hD
    have qhw1 : rv1.toInt = v0.toInt / 1024 := hw1
    refine lv_if_le (tgt := 35) hx hb d_Mo_isNewer_9 (by decide) (fun c9_1 => ?_) (fun c9_1 => ?_)
    · have fc9_1 : rv1.toInt ≤ 0 := zt_le (show rv1.toInt = _ from rfl) tI_0 c9_1
      refine lv_iconst (v := 0) hx hb d_Mo_isNewer_35 (by decide) ?_
      exact j_zret F hr (by decide +kernel) hlocks hK hS () (show (0 : Int32).toInt = 0 ∨ (0 : Int32).toInt = 1 by have := tI_0; omega) hP hD d_Mo_isNewer_36
    · have fc9_1 : 0 < rv1.toInt := Int.not_le.mp (zt_nle (show rv1.toInt = _ from rfl) tI_0 c9_1)
      refine lv_lload_n hx hb d_Mo_isNewer_12 rfl (lv_at hl 2 rfl) ?_
      refine j_ci (wc := []) (wr := (mW T h0 ar S)) hK hP hD hS hA [] isc rfl isc_all isc_nd (fun _ _ => List.not_mem_nil) (va_runS (As := [.long v0]) (rest := []) F (m_first l D T v0 H.size (show 0 ≤ v0.toInt by omega)) (j_cS (k := 1) hts k_8_22 k_1_12 k_8_20 k_8_21 (by decide +kernel) ⟨Nat.le_of_ble_eq_true rfl, Nat.le_of_ble_eq_true rfl⟩) (j_preS hK hP hD [] rfl (by decide) (fun _ _ _ _ h => h) (fun _ _ _ => trivial)) rfl rfl hl.1 rfl (lv_room (Nat.le_of_ble_eq_true rfl)) d_Mo_isNewer_13 ⟨Nat.le_of_ble_eq_true rfl, Nat.le_of_ble_eq_true rfl⟩) (fun rv2 u2 H locs hw2 hP hD hS => ?_)
      have hP : va_P D classes (mW T h0 ar S) H := hP
      have hD : va_D A (mW T h0 ar S) := hD
      have qhw2 : rv2.toInt = v0.toInt % 1024 := hw2
      refine lv_lload_n hx hb d_Mo_isNewer_16 rfl (lv_at hl 2 rfl) ?_
      refine j_ci (wc := []) (wr := (mW T h0 ar S)) hK hP hD hS hA [] isc rfl isc_all isc_nd (fun _ _ => List.not_mem_nil) (va_runS (As := [.long v0]) (rest := [.int rv2]) F (m_count l D T v0 H.size (show 0 ≤ v0.toInt ∧ v0.toInt < 1048576 by omega)) (j_cS (k := 1) hts k_8_7 k_1_12 k_8_5 k_8_6 (by decide +kernel) ⟨Nat.le_of_ble_eq_true rfl, Nat.le_of_ble_eq_true rfl⟩) (j_preS hK hP hD [] rfl (by decide) (fun _ _ _ _ h => h) (fun _ _ _ => trivial)) rfl rfl hl.1 rfl (lv_room (Nat.le_of_ble_eq_true rfl)) d_Mo_isNewer_17 ⟨Nat.le_of_ble_eq_true rfl, Nat.le_of_ble_eq_true rfl⟩) (fun rv3 u3 H locs hw3 hP hD hS => ?_)
      have hP : va_P D classes (mW T h0 ar S) H := hP
      have hD : va_D A (mW T h0 ar S) := hD
      have qhw3 : rv3.toInt = v0.toInt / 1024 := hw3
      refine lv_iadd hx hb d_Mo_isNewer_20 ?_
      refine lv_topi (fun x12 ex12 => ?_)
      have fx12 : x12.toInt = (rv2.toInt + rv3.toInt) := by rw [ex12]; exact (zt_add (show rv2.toInt = _ from rfl) (show rv3.toInt = _ from rfl) (by omega) (by omega)).trans (by omega)
      refine lv_aload_n hx hb d_Mo_isNewer_21 rfl (lv_at hl 0 rfl) ?_
      refine va_get (D := D) (ci := 11) (v := .ref (ar 8)) (C := "PageScribeModel") (T := F_Mo) (N := 45) hx hb hts i_Mo hown hK hP 0 mW_0 cl_11 14 (by decide) (hts _ k_6_174) (fun _ h9 => h9) (mg_cells _ _) d_Mo_isNewer_22 ?_
      refine lv_iload hx hb d_Mo_isNewer_25 (lv_at hl 3 rfl) ?_
      refine va_iald hx hb hK hP 9 0 (ma_cells _ _ _ _) rfl (zt_in (show p1.toInt = _ from rfl) (by omega) (by omega)) d_Mo_isNewer_27 ?_
      refine lv_topi (fun x13 ex13 => ?_)
      have gx13 : x13 = (a_cells S) p1.toInt.toNat := ex13.trans (congrArg _ (zt_ix (show p1.toInt = _ from rfl)))
      have fx13 : x13.toInt = ((a_cells S) p1.toInt.toNat).toInt := by rw [gx13]
      have kx13 := i_cells (p1.toInt.toNat) (by omega)
      refine lv_icmp_le (tgt := 35) hx hb d_Mo_isNewer_28 (by decide) (fun c28_1 => ?_) (fun c28_1 => ?_)
      · have fc28_1 : (rv2.toInt + rv3.toInt) ≤ x13.toInt := zt_le fx12 (show x13.toInt = _ from rfl) c28_1
        refine lv_iconst (v := 0) hx hb d_Mo_isNewer_35 (by decide) ?_
        exact j_zret F hr (by decide +kernel) hlocks hK hS () (show (0 : Int32).toInt = 0 ∨ (0 : Int32).toInt = 1 by have := tI_0; omega) hP hD d_Mo_isNewer_36
      · have fc28_1 : x13.toInt < (rv2.toInt + rv3.toInt) := Int.not_le.mp (zt_nle fx12 (show x13.toInt = _ from rfl) c28_1)
        refine lv_iconst (v := 1) hx hb d_Mo_isNewer_31 (by decide) ?_
        refine lv_goto (tgt := 36) hx hb d_Mo_isNewer_32 (by decide) ?_
        exact j_zret F hr (by decide +kernel) hlocks hK hS () (show (1 : Int32).toInt = 0 ∨ (1 : Int32).toInt = 1 by have := tI_1; omega) hP hD d_Mo_isNewer_36
theorem d_Mo_step_0 : decode prog_15_method_32_code 0 = .ok (.aload_n 0, 1) := by decide +kernel
theorem k_6_192 : Cond.fieldLink "PageScribeModel" 356 "PageScribeModel" "steps" "I" ∈ gw := gw_of (tb_6 (List.mem_of_getElem? (i := 192) (by decide +kernel))) (by decide +kernel)
theorem d_Mo_step_1 : decode prog_15_method_32_code 1 = .ok (.getfield 356, 3) := by decide +kernel
theorem d_Mo_step_4 : decode prog_15_method_32_code 4 = .ok (.aload_n 0, 1) := by decide +kernel
theorem k_6_191 : Cond.fieldLink "PageScribeModel" 359 "PageScribeModel" "fuel" "I" ∈ gw := gw_of (tb_6 (List.mem_of_getElem? (i := 191) (by decide +kernel))) (by decide +kernel)
theorem d_Mo_step_5 : decode prog_15_method_32_code 5 = .ok (.getfield 359, 3) := by decide +kernel
theorem d_Mo_step_8 : decode prog_15_method_32_code 8 = .ok (.if_icmp .ne 6, 3) := by decide +kernel
theorem d_Mo_step_14 : decode prog_15_method_32_code 14 = .ok (.aload_n 0, 1) := by decide +kernel
theorem d_Mo_step_15 : decode prog_15_method_32_code 15 = .ok (.dup, 1) := by decide +kernel
theorem d_Mo_step_16 : decode prog_15_method_32_code 16 = .ok (.getfield 356, 3) := by decide +kernel
theorem d_Mo_step_19 : decode prog_15_method_32_code 19 = .ok (.iconst 1, 1) := by decide +kernel
theorem d_Mo_step_20 : decode prog_15_method_32_code 20 = .ok (.iadd, 1) := by decide +kernel
theorem d_Mo_step_21 : decode prog_15_method_32_code 21 = .ok (.putfield 356, 3) := by decide +kernel
theorem d_Mo_step_24 : decode prog_15_method_32_code 24 = .ok (.iconst 0, 1) := by decide +kernel
theorem d_Mo_step_25 : decode prog_15_method_32_code 25 = .ok (.ireturn, 1) := by decide +kernel
theorem d_Mo_step_11 : decode prog_15_method_32_code 11 = .ok (.bipush 16, 2) := by decide +kernel
theorem d_Mo_step_13 : decode prog_15_method_32_code 13 = .ok (.ireturn, 1) := by decide +kernel
set_option maxHeartbeats 4000000 in
set_option maxRecDepth 100000 in
theorem m_step (l : Launch) (D : va_G) (T : Nat → ClassId) (h0 : Nat) (ar : Nat → Nat) (S : MS)  (sz : Nat) (hI : MI S) : Met l ⟨"PageScribeModel", "step", "()I"⟩ (wy ⟨"PageScribeModel", "step", "()I"⟩ prog_15_method_32_code 1 (some .int)) ({ frames := 0, cells := 0, slots := 0, locals := 0 }) (va_Pc [.ref h0] (Pw D T (mW T h0 ar S) sz E0)) (va_Qi (fun (r : Int32) (u : MS) => MI u ∧ kF S u ∧ kT S u ∧ ((r.toInt = 16 ∧ (f_steps u).toInt = (f_steps S).toInt) ∨ (r.toInt = 0 ∧ (f_steps u).toInt = (f_steps S).toInt + 1))) (fun u t => Bw D T (va_A (mW T h0 ar S) sz) (mW T h0 ar u) t) (va_A (mW T h0 ar S) sz)) 0 0 (va_A (mW T h0 ar S) sz) := by
  refine j_met (y := ⟨"PageScribeModel", "step", "()I"⟩) (b := prog_15_method_32_code) (n := 1) (ret := (some .int)) (av := [.ref h0]) (Qc := fun A => va_Qi (fun (r : Int32) (u : MS) => MI u ∧ kF S u ∧ kT S u ∧ ((r.toInt = 16 ∧ (f_steps u).toInt = (f_steps S).toInt) ∨ (r.toInt = 0 ∧ (f_steps u).toInt = (f_steps S).toInt + 1))) (fun u t => Bw D T A (mW T h0 ar u) t) A) (by decide +kernel) (Nat.le_of_ble_eq_true rfl) (fun p e s m args below meth c A ls F hr hlocks hnm hK hP hD hS hA hN hE hl => ?_)
  obtain ⟨hx, hb, hml, hown, hts⟩ := id F
  have hl : lv_has ls 1 [(0, .ref h0)] := hl
  obtain ⟨i_size, i_taken, i_vals, i_room, i_dicts, i_deep, i_open, i_cells, i_points, i_part, i_length, i_knows, i_page, i_text, i_pats, i_fuel, i_fr, i_ink⟩ := id hI
  refine lv_aload_n hx hb d_Mo_step_0 rfl (lv_at hl 0 rfl) ?_
  refine va_get (D := D) (ci := 11) (v := .int (f_steps S)) (C := "PageScribeModel") (T := F_Mo) (N := 45) hx hb hts i_Mo hown hK hP 0 mW_0 cl_11 32 (by decide) (hts _ k_6_192) (fun _ h9 => h9) (mg_steps _ _) d_Mo_step_1 ?_
  refine lv_aload_n hx hb d_Mo_step_4 rfl (lv_at hl 0 rfl) ?_
  refine va_get (D := D) (ci := 11) (v := .int (f_fuel S)) (C := "PageScribeModel") (T := F_Mo) (N := 45) hx hb hts i_Mo hown hK hP 0 mW_0 cl_11 31 (by decide) (hts _ k_6_191) (fun _ h9 => h9) (mg_fuel _ _) d_Mo_step_5 ?_
  refine lv_icmp_ne (tgt := 14) hx hb d_Mo_step_8 (by decide) (fun c8_1 => ?_) (fun c8_1 => ?_)
  · first | have fc8_1 : (f_steps S).toInt < (f_fuel S).toInt := (by have := zt_ne (show (f_steps S).toInt = _ from rfl) (show (f_fuel S).toInt = _ from rfl) c8_1; omega) | have fc8_1 : (f_fuel S).toInt < (f_steps S).toInt := (by have := zt_ne (show (f_steps S).toInt = _ from rfl) (show (f_fuel S).toInt = _ from rfl) c8_1; omega) | skip
    refine lv_aload_n hx hb d_Mo_step_14 rfl (lv_at hl 0 rfl) ?_
    refine lv_dup hx hb d_Mo_step_15 rfl ?_
    refine va_get (D := D) (ci := 11) (v := .int (f_steps S)) (C := "PageScribeModel") (T := F_Mo) (N := 45) hx hb hts i_Mo hown hK hP 0 mW_0 cl_11 32 (by decide) (hts _ k_6_192) (fun _ h9 => h9) (mg_steps _ _) d_Mo_step_16 ?_
    refine lv_iconst (v := 1) hx hb d_Mo_step_19 (by decide) ?_
    refine lv_iadd hx hb d_Mo_step_20 ?_
    refine lv_topi (fun x1 ex1 => ?_)
    have fx1 : x1.toInt = ((f_steps S).toInt + 1) := by rw [ex1]; exact (zt_add (show (f_steps S).toInt = _ from rfl) tI_1 (by omega) (by omega)).trans (by omega)
    refine va_put (D := D) (ci := 11) (v := .int x1) (ty := .int) (C := "PageScribeModel") (T := F_Mo) (N := 45) hx hb hts i_Mo t_Mo t_Mo_ok n_Mo hown hK hP hD hS 0 mW_0 cl_11 32 (by decide) (hts _ k_6_192) (fun _ h9 => h9) rfl (by decide +kernel) rfl rfl (Nat.le_of_ble_eq_true rfl) d_Mo_step_21 (fun H locs hP hD hS => ?_)
    rw [mp_steps] at hP hD
    have hP : va_P D classes (mW T h0 ar ((S.1, S.2.1, S.2.2.1, S.2.2.2.1, (x1, (f_failure S), (f_columns S), (f_rows S), (a_pixels S), (f_gray S), (a_across S), (a_along S)), S.2.2.2.2.2) : MS)) H := hP
    have hD : va_D A (mW T h0 ar ((S.1, S.2.1, S.2.2.1, S.2.2.2.1, (x1, (f_failure S), (f_columns S), (f_rows S), (a_pixels S), (f_gray S), (a_across S), (a_along S)), S.2.2.2.2.2) : MS)) := hD
    refine lv_iconst (v := 0) hx hb d_Mo_step_24 (by decide) ?_
    exact j_iret F hr hlocks hK hS ((S.1, S.2.1, S.2.2.1, S.2.2.2.1, (x1, (f_failure S), (f_columns S), (f_rows S), (a_pixels S), (f_gray S), (a_across S), (a_along S)), S.2.2.2.2.2) : MS) ⟨⟨i_size, i_taken, i_vals, i_room, i_dicts, i_deep, i_open, i_cells, i_points, i_part, i_length, i_knows, i_page, i_text, i_pats, (show 0 ≤ x1.toInt ∧ x1.toInt ≤ (f_fuel S).toInt ∧ (f_fuel S).toInt ≤ 500 by omega), i_fr, i_ink⟩, (kF_r S), (kT_r S), (show ((0 : Int32).toInt = 16 ∧ x1.toInt = (f_steps S).toInt) ∨ ((0 : Int32).toInt = 0 ∧ x1.toInt = (f_steps S).toInt + 1) by have := tI_0; omega)⟩ hP hD d_Mo_step_25
  · have fc8_1 : (f_steps S).toInt = (f_fuel S).toInt := zt_eq (show (f_steps S).toInt = _ from rfl) (show (f_fuel S).toInt = _ from rfl) c8_1
    refine lv_bipush (v := 16) hx hb d_Mo_step_11 (by decide) ?_
    exact j_iret F hr hlocks hK hS S ⟨⟨i_size, i_taken, i_vals, i_room, i_dicts, i_deep, i_open, i_cells, i_points, i_part, i_length, i_knows, i_page, i_text, i_pats, i_fuel, i_fr, i_ink⟩, (kF_r S), (kT_r S), (show ((16 : Int32).toInt = 16 ∧ (f_steps S).toInt = (f_steps S).toInt) ∨ ((16 : Int32).toInt = 0 ∧ (f_steps S).toInt = (f_steps S).toInt + 1) by have := tI_16; omega)⟩ hP hD d_Mo_step_13
